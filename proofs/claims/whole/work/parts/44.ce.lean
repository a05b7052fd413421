set_option maxHeartbeats 4000000 in
set_option maxRecDepth 100000 in
theorem c_X4_readSitter (l : Launch) (θ : zH) (ea : Nat → Nat → Nat) (ad : Nat → Nat) (n : Nat → Nat) (g : Nat → Int32) (b : Nat → Bool) (r : Nat → Nat → Int32) (V : Nat → Ev)  (hf : n 4 = 0) (hp : n 3 ≤ n 2) (hL : n 2 ≤ 240) (hc : n 6 < 6) : cV l yX4_readSitter wsX4_readSitter 3 θ [.ref (ad 1)] (CW θ ea ad n g b r V) (fun Y => (¬ (rF (r 0) (n 2) (n 3) 5).1 = 0 ∧ ∃ p x, p ≤ n 2 ∧ Y = CW θ ea ad (cnv (n 0) (n 1) (n 2) p ((rF (r 0) (n 2) (n 3) 5).1) (n 5) (n 6 + 1) (n 7) (n 8) (n 9) (n 10) (n 11) (n 12) (n 13) (n 14) (n 15) (n 16) (n 17) (n 18) (n 19) (n 20)) (cgv (g 0) (g 1) (nI (rF (r 0) (n 2) (n 3) 5).2) (g 3) (g 4) (g 5) (g 6)) b (crv (r 0) (upd (r 1) (n 6) x) (r 2) (r 3) (r 4) (r 5) (r 6) (r 7) (r 8) (r 9) (r 10) (r 11) (r 12) (r 13) (r 14) (r 15) (r 16) (r 17) (r 18)) V) ∨ ((rF (r 0) (n 2) (n 3) 5).1 = 0 ∧ ∃ p2, p2 = nE (r 0) (n 2) (rwq (r 0) (n 2) (n 3) 4) ∧ Y = CW θ ea ad (cnv (n 0) (n 1) (n 2) p2 (n 4) (n 5) (n 6 + 1) (n 7) (n 8) (n 9) (n 10) (n 11) (n 12) (n 13) (n 14) (n 15) (n 16) (n 17) (n 18) (n 19) (n 20)) g b (crv (r 0) (upd (r 1) (n 6) (rS (r 0) (n 2) (n 3) 5)) (r 2) (r 3) (r 4) (r 5) (r 6) (r 7) (r 8) (r 9) (r 10) (r 11) (r 12) (r 13) (r 14) (r 15) (r 16) (r 17) (r 18)) V)) := by
  refine z_cV (by decide) rfl rfl (Nat.le_of_ble_eq_true rfl) (lv := [(0, .ref (ad 1))]) rfl (fun κ C E => ?_)
  have hinX0 : ∀ w ∈ wsX00, w ∈ wsX4_readSitter := by decide +kernel
  have hinX4 : ∀ w ∈ wsX40, w ∈ wsX4_readSitter := by decide +kernel
  refine z_iconst C (v := nI 0) dX4_readSitter_0 (by decide) ?_
  refine z_istore_n C [(1, .int (nI 0)), (0, .ref (ad 1))] dX4_readSitter_1 rfl (by decide) rfl ?_
  refine z_iconst C (v := nI 0) dX4_readSitter_2 (by decide) ?_
  refine z_istore_n C [(2, .int (nI 0)), (1, .int (nI 0)), (0, .ref (ad 1))] dX4_readSitter_3 rfl (by decide) rfl ?_
  refine z_iload_n C dX4_readSitter_4 rfl (show zlk _ 2 = some (.int (nI 0)) from rfl) ?_
  refine z_iconst C (v := nI 5) dX4_readSitter_5 (by decide) ?_
  refine z_icmp_geF C 40 dX4_readSitter_6 (by decide) (by omega) (by omega) (by decide) ?_
  refine z_iload_n C dX4_readSitter_9 rfl (show zlk _ 2 = some (.int (nI 0)) from rfl) ?_
  refine z_if_leN C 19 dX4_readSitter_10 (by decide) (by decide) (fun _ => ?_) (fun h => absurd h (by decide))
  have hq0 : n 3 = rwq (r 0) (n 2) (n 3) 0 := rfl
  have lq0 := hp
  refine z_iload_n C dX4_readSitter_19 rfl (show zlk _ 1 = some (.int (nI 0)) from rfl) ?_
  refine z_aload_n C dX4_readSitter_20 rfl (show zlk _ 0 = some (.ref (ad 1)) from rfl) ?_
  refine z_iconst C (v := nI 0) dX4_readSitter_21 (by decide) ?_
  refine z_bipush C (v := nI 63) dX4_readSitter_22 (by decide) ?_
  refine z_callVi C (As := [.int (nI 0), .int (nI 63)]) (rest := [.int (nI 0)]) (c_X4_readNumber_2 l θ ea ad n g b r V 0 63 (show n 4 = 0 from hf) (show n 3 ≤ n 2 from (lq0)) hL (by decide) (by decide)) gX4_readSitter_X4_readNumber rfl 2 (by decide +kernel) (by decide) (by decide) 1 rfl rfl rfl rfl rfl (Nat.le_of_ble_eq_true rfl) dX4_readSitter_24 ?_
  rintro _ _ ⟨pa1, pb1, ea1, eb1, (⟨hA1, rfl, rfl⟩ | ⟨hA1, hB1, rfl, rfl⟩ | ⟨hA1, hB1, rfl, rfl⟩)⟩
  · replace ea1 : sk (r 0) (n 2) (n 3) = pa1 := ea1
    replace eb1 : nE (r 0) (n 2) (n 3) = pb1 := eb1
    replace hA1 : nOk (r 0) (n 2) (n 3) = false := hA1
    have la1 : pa1 ≤ n 2 := by rw [← ea1]; exact (sk_le (lq0)).2
    refine z_X (Y := CW θ ea ad (cnv (n 0) (n 1) (n 2) pa1 1 (n 5) (n 6) (n 7) (n 8) (n 9) (n 10) (n 11) (n 12) (n 13) (n 14) (n 15) (n 16) (n 17) (n 18) (n 19) (n 20)) (cgv (g 0) (g 1) (nI pa1) (g 3) (g 4) (g 5) (g 6)) b r V) (cw_eq rfl rfl rfl rfl rfl rfl rfl rfl rfl rfl rfl rfl rfl rfl rfl rfl rfl rfl rfl rfl rfl rfl rfl rfl rfl rfl rfl rfl rfl rfl rfl rfl rfl rfl rfl rfl rfl rfl rfl rfl rfl rfl rfl rfl rfl rfl rfl rfl rfl rfl rfl) ?_
    have hFF : rF (r 0) (n 2) (n 3) 1 = (1, pa1) := (by rw [← ea1]; exact nF_A hA1 : nF (r 0) (n 2) (n 3) 0 63 = (1, pa1))
    have hF5 : rF (r 0) (n 2) (n 3) 5 = (1, pa1) := (rF_up (i := 1) (by decide) (by rw [hFF]; simp)).trans hFF
    refine z_bipush C (v := nI 6) dX4_readSitter_27 (by decide) ?_
    refine z_iload_n C dX4_readSitter_29 rfl (show zlk _ 2 = some (.int (nI 0)) from rfl) ?_
    refine z_imulN C dX4_readSitter_30 ?_
    refine z_top (v' := .int (nI 0)) rfl ?_
    refine z_ishl C dX4_readSitter_31 ?_
    refine z_ior C dX4_readSitter_32 ?_
    refine z_istore_n C [(1, .int ((nI 0) ||| ((nI 0) <<< ((nI 0) &&& 31)))), (2, .int (nI 0)), (0, .ref (ad 1))] dX4_readSitter_33 rfl (by decide) rfl ?_
    refine z_iincN C [(2, .int (nI 1)), (1, .int ((nI 0) ||| ((nI 0) <<< ((nI 0) &&& 31)))), (0, .ref (ad 1))] dX4_readSitter_34 rfl (by decide) rfl ?_
    refine z_goto C 4 dX4_readSitter_37 (by decide) ?_
    refine z_iload_n C dX4_readSitter_4 rfl (show zlk _ 2 = some (.int (nI 1)) from rfl) ?_
    refine z_iconst C (v := nI 5) dX4_readSitter_5 (by decide) ?_
    refine z_icmp_geF C 40 dX4_readSitter_6 (by decide) (by omega) (by omega) (by decide) ?_
    refine z_iload_n C dX4_readSitter_9 rfl (show zlk _ 2 = some (.int (nI 1)) from rfl) ?_
    refine z_if_leN C 19 dX4_readSitter_10 (by decide) (by decide) (fun h => absurd h (by decide)) (fun _ => ?_)
    refine z_aload_n C dX4_readSitter_13 rfl (show zlk _ 0 = some (.ref (ad 1)) from rfl) ?_
    refine z_bipush C (v := nI 44) dX4_readSitter_14 (by decide) ?_
    refine z_callVv C (As := [.int (nI 44)]) (rest := []) (c_X4_readSign_1 l θ ea ad (cnv (n 0) (n 1) (n 2) pa1 1 (n 5) (n 6) (n 7) (n 8) (n 9) (n 10) (n 11) (n 12) (n 13) (n 14) (n 15) (n 16) (n 17) (n 18) (n 19) (n 20)) (cgv (g 0) (g 1) (nI pa1) (g 3) (g 4) (g 5) (g 6)) b r V (nI 44) (show ¬ 1 = 0 by decide) (show 1 < 2 ^ 31 by decide)) gX4_readSitter_X4_readSign rfl 1 (by decide +kernel) (by decide) (by decide) 1 rfl rfl rfl rfl rfl (Nat.le_of_ble_eq_true rfl) dX4_readSitter_16 ?_
    rintro _ rfl
    refine z_iload_n C dX4_readSitter_19 rfl (show zlk _ 1 = some (.int ((nI 0) ||| ((nI 0) <<< ((nI 0) &&& 31)))) from rfl) ?_
    refine z_aload_n C dX4_readSitter_20 rfl (show zlk _ 0 = some (.ref (ad 1)) from rfl) ?_
    refine z_iconst C (v := nI 0) dX4_readSitter_21 (by decide) ?_
    refine z_bipush C (v := nI 63) dX4_readSitter_22 (by decide) ?_
    refine z_callVi C (As := [.int (nI 0), .int (nI 63)]) (rest := [.int ((nI 0) ||| ((nI 0) <<< ((nI 0) &&& 31)))]) (c_X4_readNumber_1 l θ ea ad (cnv (n 0) (n 1) (n 2) pa1 1 (n 5) (n 6) (n 7) (n 8) (n 9) (n 10) (n 11) (n 12) (n 13) (n 14) (n 15) (n 16) (n 17) (n 18) (n 19) (n 20)) (cgv (g 0) (g 1) (nI pa1) (g 3) (g 4) (g 5) (g 6)) b r V 0 63 (show ¬ 1 = 0 by decide) (show 1 < 2 ^ 31 by decide)) gX4_readSitter_X4_readNumber rfl 2 (by decide +kernel) (by decide) (by decide) 1 rfl rfl rfl rfl rfl (Nat.le_of_ble_eq_true rfl) dX4_readSitter_24 ?_
    rintro _ _ ⟨rfl, rfl⟩
    refine z_top (v' := .int (nI 0)) rfl ?_
    refine z_bipush C (v := nI 6) dX4_readSitter_27 (by decide) ?_
    refine z_iload_n C dX4_readSitter_29 rfl (show zlk _ 2 = some (.int (nI 1)) from rfl) ?_
    refine z_imulN C dX4_readSitter_30 ?_
    refine z_top (v' := .int (nI 6)) rfl ?_
    refine z_ishl C dX4_readSitter_31 ?_
    refine z_ior C dX4_readSitter_32 ?_
    refine z_istore_n C [(1, .int (((nI 0) ||| ((nI 0) <<< ((nI 0) &&& 31))) ||| ((nI 0) <<< ((nI 6) &&& 31)))), (2, .int (nI 1)), (0, .ref (ad 1))] dX4_readSitter_33 rfl (by decide) rfl ?_
    refine z_iincN C [(2, .int (nI 2)), (1, .int (((nI 0) ||| ((nI 0) <<< ((nI 0) &&& 31))) ||| ((nI 0) <<< ((nI 6) &&& 31)))), (0, .ref (ad 1))] dX4_readSitter_34 rfl (by decide) rfl ?_
    refine z_goto C 4 dX4_readSitter_37 (by decide) ?_
    refine z_iload_n C dX4_readSitter_4 rfl (show zlk _ 2 = some (.int (nI 2)) from rfl) ?_
    refine z_iconst C (v := nI 5) dX4_readSitter_5 (by decide) ?_
    refine z_icmp_geF C 40 dX4_readSitter_6 (by decide) (by omega) (by omega) (by decide) ?_
    refine z_iload_n C dX4_readSitter_9 rfl (show zlk _ 2 = some (.int (nI 2)) from rfl) ?_
    refine z_if_leN C 19 dX4_readSitter_10 (by decide) (by decide) (fun h => absurd h (by decide)) (fun _ => ?_)
    refine z_aload_n C dX4_readSitter_13 rfl (show zlk _ 0 = some (.ref (ad 1)) from rfl) ?_
    refine z_bipush C (v := nI 44) dX4_readSitter_14 (by decide) ?_
    refine z_callVv C (As := [.int (nI 44)]) (rest := []) (c_X4_readSign_1 l θ ea ad (cnv (n 0) (n 1) (n 2) pa1 1 (n 5) (n 6) (n 7) (n 8) (n 9) (n 10) (n 11) (n 12) (n 13) (n 14) (n 15) (n 16) (n 17) (n 18) (n 19) (n 20)) (cgv (g 0) (g 1) (nI pa1) (g 3) (g 4) (g 5) (g 6)) b r V (nI 44) (show ¬ 1 = 0 by decide) (show 1 < 2 ^ 31 by decide)) gX4_readSitter_X4_readSign rfl 1 (by decide +kernel) (by decide) (by decide) 1 rfl rfl rfl rfl rfl (Nat.le_of_ble_eq_true rfl) dX4_readSitter_16 ?_
    rintro _ rfl
    refine z_iload_n C dX4_readSitter_19 rfl (show zlk _ 1 = some (.int (((nI 0) ||| ((nI 0) <<< ((nI 0) &&& 31))) ||| ((nI 0) <<< ((nI 6) &&& 31)))) from rfl) ?_
    refine z_aload_n C dX4_readSitter_20 rfl (show zlk _ 0 = some (.ref (ad 1)) from rfl) ?_
    refine z_iconst C (v := nI 0) dX4_readSitter_21 (by decide) ?_
    refine z_bipush C (v := nI 63) dX4_readSitter_22 (by decide) ?_
    refine z_callVi C (As := [.int (nI 0), .int (nI 63)]) (rest := [.int (((nI 0) ||| ((nI 0) <<< ((nI 0) &&& 31))) ||| ((nI 0) <<< ((nI 6) &&& 31)))]) (c_X4_readNumber_1 l θ ea ad (cnv (n 0) (n 1) (n 2) pa1 1 (n 5) (n 6) (n 7) (n 8) (n 9) (n 10) (n 11) (n 12) (n 13) (n 14) (n 15) (n 16) (n 17) (n 18) (n 19) (n 20)) (cgv (g 0) (g 1) (nI pa1) (g 3) (g 4) (g 5) (g 6)) b r V 0 63 (show ¬ 1 = 0 by decide) (show 1 < 2 ^ 31 by decide)) gX4_readSitter_X4_readNumber rfl 2 (by decide +kernel) (by decide) (by decide) 1 rfl rfl rfl rfl rfl (Nat.le_of_ble_eq_true rfl) dX4_readSitter_24 ?_
    rintro _ _ ⟨rfl, rfl⟩
    refine z_top (v' := .int (nI 0)) rfl ?_
    refine z_bipush C (v := nI 6) dX4_readSitter_27 (by decide) ?_
    refine z_iload_n C dX4_readSitter_29 rfl (show zlk _ 2 = some (.int (nI 2)) from rfl) ?_
    refine z_imulN C dX4_readSitter_30 ?_
    refine z_top (v' := .int (nI 12)) rfl ?_
    refine z_ishl C dX4_readSitter_31 ?_
    refine z_ior C dX4_readSitter_32 ?_
    refine z_istore_n C [(1, .int ((((nI 0) ||| ((nI 0) <<< ((nI 0) &&& 31))) ||| ((nI 0) <<< ((nI 6) &&& 31))) ||| ((nI 0) <<< ((nI 12) &&& 31)))), (2, .int (nI 2)), (0, .ref (ad 1))] dX4_readSitter_33 rfl (by decide) rfl ?_
    refine z_iincN C [(2, .int (nI 3)), (1, .int ((((nI 0) ||| ((nI 0) <<< ((nI 0) &&& 31))) ||| ((nI 0) <<< ((nI 6) &&& 31))) ||| ((nI 0) <<< ((nI 12) &&& 31)))), (0, .ref (ad 1))] dX4_readSitter_34 rfl (by decide) rfl ?_
    refine z_goto C 4 dX4_readSitter_37 (by decide) ?_
    refine z_iload_n C dX4_readSitter_4 rfl (show zlk _ 2 = some (.int (nI 3)) from rfl) ?_
    refine z_iconst C (v := nI 5) dX4_readSitter_5 (by decide) ?_
    refine z_icmp_geF C 40 dX4_readSitter_6 (by decide) (by omega) (by omega) (by decide) ?_
    refine z_iload_n C dX4_readSitter_9 rfl (show zlk _ 2 = some (.int (nI 3)) from rfl) ?_
    refine z_if_leN C 19 dX4_readSitter_10 (by decide) (by decide) (fun h => absurd h (by decide)) (fun _ => ?_)
    refine z_aload_n C dX4_readSitter_13 rfl (show zlk _ 0 = some (.ref (ad 1)) from rfl) ?_
    refine z_bipush C (v := nI 44) dX4_readSitter_14 (by decide) ?_
    refine z_callVv C (As := [.int (nI 44)]) (rest := []) (c_X4_readSign_1 l θ ea ad (cnv (n 0) (n 1) (n 2) pa1 1 (n 5) (n 6) (n 7) (n 8) (n 9) (n 10) (n 11) (n 12) (n 13) (n 14) (n 15) (n 16) (n 17) (n 18) (n 19) (n 20)) (cgv (g 0) (g 1) (nI pa1) (g 3) (g 4) (g 5) (g 6)) b r V (nI 44) (show ¬ 1 = 0 by decide) (show 1 < 2 ^ 31 by decide)) gX4_readSitter_X4_readSign rfl 1 (by decide +kernel) (by decide) (by decide) 1 rfl rfl rfl rfl rfl (Nat.le_of_ble_eq_true rfl) dX4_readSitter_16 ?_
    rintro _ rfl
    refine z_iload_n C dX4_readSitter_19 rfl (show zlk _ 1 = some (.int ((((nI 0) ||| ((nI 0) <<< ((nI 0) &&& 31))) ||| ((nI 0) <<< ((nI 6) &&& 31))) ||| ((nI 0) <<< ((nI 12) &&& 31)))) from rfl) ?_
    refine z_aload_n C dX4_readSitter_20 rfl (show zlk _ 0 = some (.ref (ad 1)) from rfl) ?_
    refine z_iconst C (v := nI 0) dX4_readSitter_21 (by decide) ?_
    refine z_bipush C (v := nI 63) dX4_readSitter_22 (by decide) ?_
    refine z_callVi C (As := [.int (nI 0), .int (nI 63)]) (rest := [.int ((((nI 0) ||| ((nI 0) <<< ((nI 0) &&& 31))) ||| ((nI 0) <<< ((nI 6) &&& 31))) ||| ((nI 0) <<< ((nI 12) &&& 31)))]) (c_X4_readNumber_1 l θ ea ad (cnv (n 0) (n 1) (n 2) pa1 1 (n 5) (n 6) (n 7) (n 8) (n 9) (n 10) (n 11) (n 12) (n 13) (n 14) (n 15) (n 16) (n 17) (n 18) (n 19) (n 20)) (cgv (g 0) (g 1) (nI pa1) (g 3) (g 4) (g 5) (g 6)) b r V 0 63 (show ¬ 1 = 0 by decide) (show 1 < 2 ^ 31 by decide)) gX4_readSitter_X4_readNumber rfl 2 (by decide +kernel) (by decide) (by decide) 1 rfl rfl rfl rfl rfl (Nat.le_of_ble_eq_true rfl) dX4_readSitter_24 ?_
    rintro _ _ ⟨rfl, rfl⟩
    refine z_top (v' := .int (nI 0)) rfl ?_
    refine z_bipush C (v := nI 6) dX4_readSitter_27 (by decide) ?_
    refine z_iload_n C dX4_readSitter_29 rfl (show zlk _ 2 = some (.int (nI 3)) from rfl) ?_
    refine z_imulN C dX4_readSitter_30 ?_
    refine z_top (v' := .int (nI 18)) rfl ?_
    refine z_ishl C dX4_readSitter_31 ?_
    refine z_ior C dX4_readSitter_32 ?_
    refine z_istore_n C [(1, .int (((((nI 0) ||| ((nI 0) <<< ((nI 0) &&& 31))) ||| ((nI 0) <<< ((nI 6) &&& 31))) ||| ((nI 0) <<< ((nI 12) &&& 31))) ||| ((nI 0) <<< ((nI 18) &&& 31)))), (2, .int (nI 3)), (0, .ref (ad 1))] dX4_readSitter_33 rfl (by decide) rfl ?_
    refine z_iincN C [(2, .int (nI 4)), (1, .int (((((nI 0) ||| ((nI 0) <<< ((nI 0) &&& 31))) ||| ((nI 0) <<< ((nI 6) &&& 31))) ||| ((nI 0) <<< ((nI 12) &&& 31))) ||| ((nI 0) <<< ((nI 18) &&& 31)))), (0, .ref (ad 1))] dX4_readSitter_34 rfl (by decide) rfl ?_
    refine z_goto C 4 dX4_readSitter_37 (by decide) ?_
    refine z_iload_n C dX4_readSitter_4 rfl (show zlk _ 2 = some (.int (nI 4)) from rfl) ?_
    refine z_iconst C (v := nI 5) dX4_readSitter_5 (by decide) ?_
    refine z_icmp_geF C 40 dX4_readSitter_6 (by decide) (by omega) (by omega) (by decide) ?_
    refine z_iload_n C dX4_readSitter_9 rfl (show zlk _ 2 = some (.int (nI 4)) from rfl) ?_
    refine z_if_leN C 19 dX4_readSitter_10 (by decide) (by decide) (fun h => absurd h (by decide)) (fun _ => ?_)
    refine z_aload_n C dX4_readSitter_13 rfl (show zlk _ 0 = some (.ref (ad 1)) from rfl) ?_
    refine z_bipush C (v := nI 44) dX4_readSitter_14 (by decide) ?_
    refine z_callVv C (As := [.int (nI 44)]) (rest := []) (c_X4_readSign_1 l θ ea ad (cnv (n 0) (n 1) (n 2) pa1 1 (n 5) (n 6) (n 7) (n 8) (n 9) (n 10) (n 11) (n 12) (n 13) (n 14) (n 15) (n 16) (n 17) (n 18) (n 19) (n 20)) (cgv (g 0) (g 1) (nI pa1) (g 3) (g 4) (g 5) (g 6)) b r V (nI 44) (show ¬ 1 = 0 by decide) (show 1 < 2 ^ 31 by decide)) gX4_readSitter_X4_readSign rfl 1 (by decide +kernel) (by decide) (by decide) 1 rfl rfl rfl rfl rfl (Nat.le_of_ble_eq_true rfl) dX4_readSitter_16 ?_
    rintro _ rfl
    refine z_iload_n C dX4_readSitter_19 rfl (show zlk _ 1 = some (.int (((((nI 0) ||| ((nI 0) <<< ((nI 0) &&& 31))) ||| ((nI 0) <<< ((nI 6) &&& 31))) ||| ((nI 0) <<< ((nI 12) &&& 31))) ||| ((nI 0) <<< ((nI 18) &&& 31)))) from rfl) ?_
    refine z_aload_n C dX4_readSitter_20 rfl (show zlk _ 0 = some (.ref (ad 1)) from rfl) ?_
    refine z_iconst C (v := nI 0) dX4_readSitter_21 (by decide) ?_
    refine z_bipush C (v := nI 63) dX4_readSitter_22 (by decide) ?_
    refine z_callVi C (As := [.int (nI 0), .int (nI 63)]) (rest := [.int (((((nI 0) ||| ((nI 0) <<< ((nI 0) &&& 31))) ||| ((nI 0) <<< ((nI 6) &&& 31))) ||| ((nI 0) <<< ((nI 12) &&& 31))) ||| ((nI 0) <<< ((nI 18) &&& 31)))]) (c_X4_readNumber_1 l θ ea ad (cnv (n 0) (n 1) (n 2) pa1 1 (n 5) (n 6) (n 7) (n 8) (n 9) (n 10) (n 11) (n 12) (n 13) (n 14) (n 15) (n 16) (n 17) (n 18) (n 19) (n 20)) (cgv (g 0) (g 1) (nI pa1) (g 3) (g 4) (g 5) (g 6)) b r V 0 63 (show ¬ 1 = 0 by decide) (show 1 < 2 ^ 31 by decide)) gX4_readSitter_X4_readNumber rfl 2 (by decide +kernel) (by decide) (by decide) 1 rfl rfl rfl rfl rfl (Nat.le_of_ble_eq_true rfl) dX4_readSitter_24 ?_
    rintro _ _ ⟨rfl, rfl⟩
    refine z_top (v' := .int (nI 0)) rfl ?_
    refine z_bipush C (v := nI 6) dX4_readSitter_27 (by decide) ?_
    refine z_iload_n C dX4_readSitter_29 rfl (show zlk _ 2 = some (.int (nI 4)) from rfl) ?_
    refine z_imulN C dX4_readSitter_30 ?_
    refine z_top (v' := .int (nI 24)) rfl ?_
    refine z_ishl C dX4_readSitter_31 ?_
    refine z_ior C dX4_readSitter_32 ?_
    refine z_istore_n C [(1, .int ((((((nI 0) ||| ((nI 0) <<< ((nI 0) &&& 31))) ||| ((nI 0) <<< ((nI 6) &&& 31))) ||| ((nI 0) <<< ((nI 12) &&& 31))) ||| ((nI 0) <<< ((nI 18) &&& 31))) ||| ((nI 0) <<< ((nI 24) &&& 31)))), (2, .int (nI 4)), (0, .ref (ad 1))] dX4_readSitter_33 rfl (by decide) rfl ?_
    refine z_iincN C [(2, .int (nI 5)), (1, .int ((((((nI 0) ||| ((nI 0) <<< ((nI 0) &&& 31))) ||| ((nI 0) <<< ((nI 6) &&& 31))) ||| ((nI 0) <<< ((nI 12) &&& 31))) ||| ((nI 0) <<< ((nI 18) &&& 31))) ||| ((nI 0) <<< ((nI 24) &&& 31)))), (0, .ref (ad 1))] dX4_readSitter_34 rfl (by decide) rfl ?_
    refine z_goto C 4 dX4_readSitter_37 (by decide) ?_
    refine z_iload_n C dX4_readSitter_4 rfl (show zlk _ 2 = some (.int (nI 5)) from rfl) ?_
    refine z_iconst C (v := nI 5) dX4_readSitter_5 (by decide) ?_
    refine z_icmp_geT C 40 dX4_readSitter_6 (by decide) (by omega) (by omega) (by decide) ?_
    refine z_aload_n C dX4_readSitter_40 rfl (show zlk _ 0 = some (.ref (ad 1)) from rfl) ?_
    refine z_get C hinX4 1 cc_1 rfl 1 (by decide) (by decide +kernel) cg_1_1 dX4_readSitter_41 ?_
    refine z_getN C (host := "GnatPortraits") hinX0 2 cc_2 rfl 2 (by decide) (by decide +kernel) ch_2_2 dX4_readSitter_44 ?_
    refine z_bipush C (v := nI 6) dX4_readSitter_47 (by decide) ?_
    refine z_icmp_geF C 81 dX4_readSitter_49 (by decide) (by omega) (by omega) (by omega) ?_
    refine z_aload_n C dX4_readSitter_52 rfl (show zlk _ 0 = some (.ref (ad 1)) from rfl) ?_
    refine z_get C hinX4 1 cc_1 rfl 1 (by decide) (by decide +kernel) cg_1_1 dX4_readSitter_53 ?_
    refine z_getN C (host := "GnatPortraits") hinX0 2 cc_2 rfl 5 (by decide) (by decide +kernel) cg_2_5 dX4_readSitter_56 ?_
    refine z_aload_n C dX4_readSitter_59 rfl (show zlk _ 0 = some (.ref (ad 1)) from rfl) ?_
    refine z_get C hinX4 1 cc_1 rfl 1 (by decide) (by decide +kernel) cg_1_1 dX4_readSitter_60 ?_
    refine z_getN C (host := "GnatPortraits") hinX0 2 cc_2 rfl 2 (by decide) (by decide +kernel) ch_2_2 dX4_readSitter_63 ?_
    refine z_iload_n C dX4_readSitter_66 rfl (show zlk _ 1 = some (.int ((((((nI 0) ||| ((nI 0) <<< ((nI 0) &&& 31))) ||| ((nI 0) <<< ((nI 6) &&& 31))) ||| ((nI 0) <<< ((nI 12) &&& 31))) ||| ((nI 0) <<< ((nI 18) &&& 31))) ||| ((nI 0) <<< ((nI 24) &&& 31)))) from rfl) ?_
    refine z_iast C (f := (r 1)) 12 ca_12 (n 6) rfl (by omega) (by decide) _ cs_12 dX4_readSitter_67 ?_
    refine z_aload_n C dX4_readSitter_68 rfl (show zlk _ 0 = some (.ref (ad 1)) from rfl) ?_
    refine z_get C hinX4 1 cc_1 rfl 1 (by decide) (by decide +kernel) cg_1_1 dX4_readSitter_69 ?_
    refine z_dup C dX4_readSitter_72 rfl ?_
    refine z_getN C (host := "GnatPortraits") hinX0 2 cc_2 rfl 2 (by decide) (by decide +kernel) ch_2_2 dX4_readSitter_73 ?_
    refine z_iconst C (v := nI 1) dX4_readSitter_76 (by decide) ?_
    refine z_iaddN C dX4_readSitter_77 ?_
    refine z_putN C (host := "GnatPortraits") hinX0 tyX0 tyX0_ok nmX0 2 cc_2 rfl 2 (by decide) (by decide +kernel) rfl rfl rfl rfl (Nat.le_of_ble_eq_true rfl) _ cv_2_2 dX4_readSitter_78 ?_
    exact E _ _ _ (Or.inl (by rw [hF5]; exact ⟨by simp, _, _, (show pa1 ≤ n 2 by omega), (cw_eq rfl rfl rfl rfl rfl rfl rfl rfl rfl rfl rfl rfl rfl rfl rfl rfl rfl rfl rfl rfl rfl rfl rfl rfl rfl rfl rfl rfl rfl rfl rfl rfl rfl rfl rfl rfl rfl rfl rfl rfl rfl rfl rfl rfl rfl rfl rfl rfl rfl rfl rfl)⟩)) dX4_readSitter_81
  · replace ea1 : sk (r 0) (n 2) (n 3) = pa1 := ea1
    replace eb1 : nE (r 0) (n 2) (n 3) = pb1 := eb1
    replace hA1 : nOk (r 0) (n 2) (n 3) = true := hA1
    replace hB1 : nBad (r 0) (n 2) (n 3) 0 63 := hB1
    have lb1 : pb1 ≤ n 2 := by rw [← eb1]; exact (nE_le (lq0)).2
    refine z_X (Y := CW θ ea ad (cnv (n 0) (n 1) (n 2) pb1 2 (n 5) (n 6) (n 7) (n 8) (n 9) (n 10) (n 11) (n 12) (n 13) (n 14) (n 15) (n 16) (n 17) (n 18) (n 19) (n 20)) (cgv (g 0) (g 1) (nI pa1) (g 3) (g 4) (g 5) (g 6)) b r V) (cw_eq rfl rfl rfl rfl rfl rfl rfl rfl rfl rfl rfl rfl rfl rfl rfl rfl rfl rfl rfl rfl rfl rfl rfl rfl rfl rfl rfl rfl rfl rfl rfl rfl rfl rfl rfl rfl rfl rfl rfl rfl rfl rfl rfl rfl rfl rfl rfl rfl rfl rfl rfl) ?_
    have hFF : rF (r 0) (n 2) (n 3) 1 = (2, pa1) := (by rw [← ea1]; exact nF_B hA1 hB1 : nF (r 0) (n 2) (n 3) 0 63 = (2, pa1))
    have hF5 : rF (r 0) (n 2) (n 3) 5 = (2, pa1) := (rF_up (i := 1) (by decide) (by rw [hFF]; simp)).trans hFF
    refine z_bipush C (v := nI 6) dX4_readSitter_27 (by decide) ?_
    refine z_iload_n C dX4_readSitter_29 rfl (show zlk _ 2 = some (.int (nI 0)) from rfl) ?_
    refine z_imulN C dX4_readSitter_30 ?_
    refine z_top (v' := .int (nI 0)) rfl ?_
    refine z_ishl C dX4_readSitter_31 ?_
    refine z_ior C dX4_readSitter_32 ?_
    refine z_istore_n C [(1, .int ((nI 0) ||| ((nI 0) <<< ((nI 0) &&& 31)))), (2, .int (nI 0)), (0, .ref (ad 1))] dX4_readSitter_33 rfl (by decide) rfl ?_
    refine z_iincN C [(2, .int (nI 1)), (1, .int ((nI 0) ||| ((nI 0) <<< ((nI 0) &&& 31)))), (0, .ref (ad 1))] dX4_readSitter_34 rfl (by decide) rfl ?_
    refine z_goto C 4 dX4_readSitter_37 (by decide) ?_
    refine z_iload_n C dX4_readSitter_4 rfl (show zlk _ 2 = some (.int (nI 1)) from rfl) ?_
    refine z_iconst C (v := nI 5) dX4_readSitter_5 (by decide) ?_
    refine z_icmp_geF C 40 dX4_readSitter_6 (by decide) (by omega) (by omega) (by decide) ?_
    refine z_iload_n C dX4_readSitter_9 rfl (show zlk _ 2 = some (.int (nI 1)) from rfl) ?_
    refine z_if_leN C 19 dX4_readSitter_10 (by decide) (by decide) (fun h => absurd h (by decide)) (fun _ => ?_)
    refine z_aload_n C dX4_readSitter_13 rfl (show zlk _ 0 = some (.ref (ad 1)) from rfl) ?_
    refine z_bipush C (v := nI 44) dX4_readSitter_14 (by decide) ?_
    refine z_callVv C (As := [.int (nI 44)]) (rest := []) (c_X4_readSign_1 l θ ea ad (cnv (n 0) (n 1) (n 2) pb1 2 (n 5) (n 6) (n 7) (n 8) (n 9) (n 10) (n 11) (n 12) (n 13) (n 14) (n 15) (n 16) (n 17) (n 18) (n 19) (n 20)) (cgv (g 0) (g 1) (nI pa1) (g 3) (g 4) (g 5) (g 6)) b r V (nI 44) (show ¬ 2 = 0 by decide) (show 2 < 2 ^ 31 by decide)) gX4_readSitter_X4_readSign rfl 1 (by decide +kernel) (by decide) (by decide) 1 rfl rfl rfl rfl rfl (Nat.le_of_ble_eq_true rfl) dX4_readSitter_16 ?_
    rintro _ rfl
    refine z_iload_n C dX4_readSitter_19 rfl (show zlk _ 1 = some (.int ((nI 0) ||| ((nI 0) <<< ((nI 0) &&& 31)))) from rfl) ?_
    refine z_aload_n C dX4_readSitter_20 rfl (show zlk _ 0 = some (.ref (ad 1)) from rfl) ?_
    refine z_iconst C (v := nI 0) dX4_readSitter_21 (by decide) ?_
    refine z_bipush C (v := nI 63) dX4_readSitter_22 (by decide) ?_
    refine z_callVi C (As := [.int (nI 0), .int (nI 63)]) (rest := [.int ((nI 0) ||| ((nI 0) <<< ((nI 0) &&& 31)))]) (c_X4_readNumber_1 l θ ea ad (cnv (n 0) (n 1) (n 2) pb1 2 (n 5) (n 6) (n 7) (n 8) (n 9) (n 10) (n 11) (n 12) (n 13) (n 14) (n 15) (n 16) (n 17) (n 18) (n 19) (n 20)) (cgv (g 0) (g 1) (nI pa1) (g 3) (g 4) (g 5) (g 6)) b r V 0 63 (show ¬ 2 = 0 by decide) (show 2 < 2 ^ 31 by decide)) gX4_readSitter_X4_readNumber rfl 2 (by decide +kernel) (by decide) (by decide) 1 rfl rfl rfl rfl rfl (Nat.le_of_ble_eq_true rfl) dX4_readSitter_24 ?_
    rintro _ _ ⟨rfl, rfl⟩
    refine z_top (v' := .int (nI 0)) rfl ?_
    refine z_bipush C (v := nI 6) dX4_readSitter_27 (by decide) ?_
    refine z_iload_n C dX4_readSitter_29 rfl (show zlk _ 2 = some (.int (nI 1)) from rfl) ?_
    refine z_imulN C dX4_readSitter_30 ?_
    refine z_top (v' := .int (nI 6)) rfl ?_
    refine z_ishl C dX4_readSitter_31 ?_
    refine z_ior C dX4_readSitter_32 ?_
    refine z_istore_n C [(1, .int (((nI 0) ||| ((nI 0) <<< ((nI 0) &&& 31))) ||| ((nI 0) <<< ((nI 6) &&& 31)))), (2, .int (nI 1)), (0, .ref (ad 1))] dX4_readSitter_33 rfl (by decide) rfl ?_
    refine z_iincN C [(2, .int (nI 2)), (1, .int (((nI 0) ||| ((nI 0) <<< ((nI 0) &&& 31))) ||| ((nI 0) <<< ((nI 6) &&& 31)))), (0, .ref (ad 1))] dX4_readSitter_34 rfl (by decide) rfl ?_
    refine z_goto C 4 dX4_readSitter_37 (by decide) ?_
    refine z_iload_n C dX4_readSitter_4 rfl (show zlk _ 2 = some (.int (nI 2)) from rfl) ?_
    refine z_iconst C (v := nI 5) dX4_readSitter_5 (by decide) ?_
    refine z_icmp_geF C 40 dX4_readSitter_6 (by decide) (by omega) (by omega) (by decide) ?_
    refine z_iload_n C dX4_readSitter_9 rfl (show zlk _ 2 = some (.int (nI 2)) from rfl) ?_
    refine z_if_leN C 19 dX4_readSitter_10 (by decide) (by decide) (fun h => absurd h (by decide)) (fun _ => ?_)
    refine z_aload_n C dX4_readSitter_13 rfl (show zlk _ 0 = some (.ref (ad 1)) from rfl) ?_
    refine z_bipush C (v := nI 44) dX4_readSitter_14 (by decide) ?_
    refine z_callVv C (As := [.int (nI 44)]) (rest := []) (c_X4_readSign_1 l θ ea ad (cnv (n 0) (n 1) (n 2) pb1 2 (n 5) (n 6) (n 7) (n 8) (n 9) (n 10) (n 11) (n 12) (n 13) (n 14) (n 15) (n 16) (n 17) (n 18) (n 19) (n 20)) (cgv (g 0) (g 1) (nI pa1) (g 3) (g 4) (g 5) (g 6)) b r V (nI 44) (show ¬ 2 = 0 by decide) (show 2 < 2 ^ 31 by decide)) gX4_readSitter_X4_readSign rfl 1 (by decide +kernel) (by decide) (by decide) 1 rfl rfl rfl rfl rfl (Nat.le_of_ble_eq_true rfl) dX4_readSitter_16 ?_
    rintro _ rfl
    refine z_iload_n C dX4_readSitter_19 rfl (show zlk _ 1 = some (.int (((nI 0) ||| ((nI 0) <<< ((nI 0) &&& 31))) ||| ((nI 0) <<< ((nI 6) &&& 31)))) from rfl) ?_
    refine z_aload_n C dX4_readSitter_20 rfl (show zlk _ 0 = some (.ref (ad 1)) from rfl) ?_
    refine z_iconst C (v := nI 0) dX4_readSitter_21 (by decide) ?_
    refine z_bipush C (v := nI 63) dX4_readSitter_22 (by decide) ?_
    refine z_callVi C (As := [.int (nI 0), .int (nI 63)]) (rest := [.int (((nI 0) ||| ((nI 0) <<< ((nI 0) &&& 31))) ||| ((nI 0) <<< ((nI 6) &&& 31)))]) (c_X4_readNumber_1 l θ ea ad (cnv (n 0) (n 1) (n 2) pb1 2 (n 5) (n 6) (n 7) (n 8) (n 9) (n 10) (n 11) (n 12) (n 13) (n 14) (n 15) (n 16) (n 17) (n 18) (n 19) (n 20)) (cgv (g 0) (g 1) (nI pa1) (g 3) (g 4) (g 5) (g 6)) b r V 0 63 (show ¬ 2 = 0 by decide) (show 2 < 2 ^ 31 by decide)) gX4_readSitter_X4_readNumber rfl 2 (by decide +kernel) (by decide) (by decide) 1 rfl rfl rfl rfl rfl (Nat.le_of_ble_eq_true rfl) dX4_readSitter_24 ?_
    rintro _ _ ⟨rfl, rfl⟩
    refine z_top (v' := .int (nI 0)) rfl ?_
    refine z_bipush C (v := nI 6) dX4_readSitter_27 (by decide) ?_
    refine z_iload_n C dX4_readSitter_29 rfl (show zlk _ 2 = some (.int (nI 2)) from rfl) ?_
    refine z_imulN C dX4_readSitter_30 ?_
    refine z_top (v' := .int (nI 12)) rfl ?_
    refine z_ishl C dX4_readSitter_31 ?_
    refine z_ior C dX4_readSitter_32 ?_
    refine z_istore_n C [(1, .int ((((nI 0) ||| ((nI 0) <<< ((nI 0) &&& 31))) ||| ((nI 0) <<< ((nI 6) &&& 31))) ||| ((nI 0) <<< ((nI 12) &&& 31)))), (2, .int (nI 2)), (0, .ref (ad 1))] dX4_readSitter_33 rfl (by decide) rfl ?_
    refine z_iincN C [(2, .int (nI 3)), (1, .int ((((nI 0) ||| ((nI 0) <<< ((nI 0) &&& 31))) ||| ((nI 0) <<< ((nI 6) &&& 31))) ||| ((nI 0) <<< ((nI 12) &&& 31)))), (0, .ref (ad 1))] dX4_readSitter_34 rfl (by decide) rfl ?_
    refine z_goto C 4 dX4_readSitter_37 (by decide) ?_
    refine z_iload_n C dX4_readSitter_4 rfl (show zlk _ 2 = some (.int (nI 3)) from rfl) ?_
    refine z_iconst C (v := nI 5) dX4_readSitter_5 (by decide) ?_
    refine z_icmp_geF C 40 dX4_readSitter_6 (by decide) (by omega) (by omega) (by decide) ?_
    refine z_iload_n C dX4_readSitter_9 rfl (show zlk _ 2 = some (.int (nI 3)) from rfl) ?_
    refine z_if_leN C 19 dX4_readSitter_10 (by decide) (by decide) (fun h => absurd h (by decide)) (fun _ => ?_)
    refine z_aload_n C dX4_readSitter_13 rfl (show zlk _ 0 = some (.ref (ad 1)) from rfl) ?_
    refine z_bipush C (v := nI 44) dX4_readSitter_14 (by decide) ?_
    refine z_callVv C (As := [.int (nI 44)]) (rest := []) (c_X4_readSign_1 l θ ea ad (cnv (n 0) (n 1) (n 2) pb1 2 (n 5) (n 6) (n 7) (n 8) (n 9) (n 10) (n 11) (n 12) (n 13) (n 14) (n 15) (n 16) (n 17) (n 18) (n 19) (n 20)) (cgv (g 0) (g 1) (nI pa1) (g 3) (g 4) (g 5) (g 6)) b r V (nI 44) (show ¬ 2 = 0 by decide) (show 2 < 2 ^ 31 by decide)) gX4_readSitter_X4_readSign rfl 1 (by decide +kernel) (by decide) (by decide) 1 rfl rfl rfl rfl rfl (Nat.le_of_ble_eq_true rfl) dX4_readSitter_16 ?_
    rintro _ rfl
    refine z_iload_n C dX4_readSitter_19 rfl (show zlk _ 1 = some (.int ((((nI 0) ||| ((nI 0) <<< ((nI 0) &&& 31))) ||| ((nI 0) <<< ((nI 6) &&& 31))) ||| ((nI 0) <<< ((nI 12) &&& 31)))) from rfl) ?_
    refine z_aload_n C dX4_readSitter_20 rfl (show zlk _ 0 = some (.ref (ad 1)) from rfl) ?_
    refine z_iconst C (v := nI 0) dX4_readSitter_21 (by decide) ?_
    refine z_bipush C (v := nI 63) dX4_readSitter_22 (by decide) ?_
    refine z_callVi C (As := [.int (nI 0), .int (nI 63)]) (rest := [.int ((((nI 0) ||| ((nI 0) <<< ((nI 0) &&& 31))) ||| ((nI 0) <<< ((nI 6) &&& 31))) ||| ((nI 0) <<< ((nI 12) &&& 31)))]) (c_X4_readNumber_1 l θ ea ad (cnv (n 0) (n 1) (n 2) pb1 2 (n 5) (n 6) (n 7) (n 8) (n 9) (n 10) (n 11) (n 12) (n 13) (n 14) (n 15) (n 16) (n 17) (n 18) (n 19) (n 20)) (cgv (g 0) (g 1) (nI pa1) (g 3) (g 4) (g 5) (g 6)) b r V 0 63 (show ¬ 2 = 0 by decide) (show 2 < 2 ^ 31 by decide)) gX4_readSitter_X4_readNumber rfl 2 (by decide +kernel) (by decide) (by decide) 1 rfl rfl rfl rfl rfl (Nat.le_of_ble_eq_true rfl) dX4_readSitter_24 ?_
    rintro _ _ ⟨rfl, rfl⟩
    refine z_top (v' := .int (nI 0)) rfl ?_
    refine z_bipush C (v := nI 6) dX4_readSitter_27 (by decide) ?_
    refine z_iload_n C dX4_readSitter_29 rfl (show zlk _ 2 = some (.int (nI 3)) from rfl) ?_
    refine z_imulN C dX4_readSitter_30 ?_
    refine z_top (v' := .int (nI 18)) rfl ?_
    refine z_ishl C dX4_readSitter_31 ?_
    refine z_ior C dX4_readSitter_32 ?_
    refine z_istore_n C [(1, .int (((((nI 0) ||| ((nI 0) <<< ((nI 0) &&& 31))) ||| ((nI 0) <<< ((nI 6) &&& 31))) ||| ((nI 0) <<< ((nI 12) &&& 31))) ||| ((nI 0) <<< ((nI 18) &&& 31)))), (2, .int (nI 3)), (0, .ref (ad 1))] dX4_readSitter_33 rfl (by decide) rfl ?_
    refine z_iincN C [(2, .int (nI 4)), (1, .int (((((nI 0) ||| ((nI 0) <<< ((nI 0) &&& 31))) ||| ((nI 0) <<< ((nI 6) &&& 31))) ||| ((nI 0) <<< ((nI 12) &&& 31))) ||| ((nI 0) <<< ((nI 18) &&& 31)))), (0, .ref (ad 1))] dX4_readSitter_34 rfl (by decide) rfl ?_
    refine z_goto C 4 dX4_readSitter_37 (by decide) ?_
    refine z_iload_n C dX4_readSitter_4 rfl (show zlk _ 2 = some (.int (nI 4)) from rfl) ?_
    refine z_iconst C (v := nI 5) dX4_readSitter_5 (by decide) ?_
    refine z_icmp_geF C 40 dX4_readSitter_6 (by decide) (by omega) (by omega) (by decide) ?_
    refine z_iload_n C dX4_readSitter_9 rfl (show zlk _ 2 = some (.int (nI 4)) from rfl) ?_
    refine z_if_leN C 19 dX4_readSitter_10 (by decide) (by decide) (fun h => absurd h (by decide)) (fun _ => ?_)
    refine z_aload_n C dX4_readSitter_13 rfl (show zlk _ 0 = some (.ref (ad 1)) from rfl) ?_
    refine z_bipush C (v := nI 44) dX4_readSitter_14 (by decide) ?_
    refine z_callVv C (As := [.int (nI 44)]) (rest := []) (c_X4_readSign_1 l θ ea ad (cnv (n 0) (n 1) (n 2) pb1 2 (n 5) (n 6) (n 7) (n 8) (n 9) (n 10) (n 11) (n 12) (n 13) (n 14) (n 15) (n 16) (n 17) (n 18) (n 19) (n 20)) (cgv (g 0) (g 1) (nI pa1) (g 3) (g 4) (g 5) (g 6)) b r V (nI 44) (show ¬ 2 = 0 by decide) (show 2 < 2 ^ 31 by decide)) gX4_readSitter_X4_readSign rfl 1 (by decide +kernel) (by decide) (by decide) 1 rfl rfl rfl rfl rfl (Nat.le_of_ble_eq_true rfl) dX4_readSitter_16 ?_
    rintro _ rfl
    refine z_iload_n C dX4_readSitter_19 rfl (show zlk _ 1 = some (.int (((((nI 0) ||| ((nI 0) <<< ((nI 0) &&& 31))) ||| ((nI 0) <<< ((nI 6) &&& 31))) ||| ((nI 0) <<< ((nI 12) &&& 31))) ||| ((nI 0) <<< ((nI 18) &&& 31)))) from rfl) ?_
    refine z_aload_n C dX4_readSitter_20 rfl (show zlk _ 0 = some (.ref (ad 1)) from rfl) ?_
    refine z_iconst C (v := nI 0) dX4_readSitter_21 (by decide) ?_
    refine z_bipush C (v := nI 63) dX4_readSitter_22 (by decide) ?_
    refine z_callVi C (As := [.int (nI 0), .int (nI 63)]) (rest := [.int (((((nI 0) ||| ((nI 0) <<< ((nI 0) &&& 31))) ||| ((nI 0) <<< ((nI 6) &&& 31))) ||| ((nI 0) <<< ((nI 12) &&& 31))) ||| ((nI 0) <<< ((nI 18) &&& 31)))]) (c_X4_readNumber_1 l θ ea ad (cnv (n 0) (n 1) (n 2) pb1 2 (n 5) (n 6) (n 7) (n 8) (n 9) (n 10) (n 11) (n 12) (n 13) (n 14) (n 15) (n 16) (n 17) (n 18) (n 19) (n 20)) (cgv (g 0) (g 1) (nI pa1) (g 3) (g 4) (g 5) (g 6)) b r V 0 63 (show ¬ 2 = 0 by decide) (show 2 < 2 ^ 31 by decide)) gX4_readSitter_X4_readNumber rfl 2 (by decide +kernel) (by decide) (by decide) 1 rfl rfl rfl rfl rfl (Nat.le_of_ble_eq_true rfl) dX4_readSitter_24 ?_
    rintro _ _ ⟨rfl, rfl⟩
    refine z_top (v' := .int (nI 0)) rfl ?_
    refine z_bipush C (v := nI 6) dX4_readSitter_27 (by decide) ?_
    refine z_iload_n C dX4_readSitter_29 rfl (show zlk _ 2 = some (.int (nI 4)) from rfl) ?_
    refine z_imulN C dX4_readSitter_30 ?_
    refine z_top (v' := .int (nI 24)) rfl ?_
    refine z_ishl C dX4_readSitter_31 ?_
    refine z_ior C dX4_readSitter_32 ?_
    refine z_istore_n C [(1, .int ((((((nI 0) ||| ((nI 0) <<< ((nI 0) &&& 31))) ||| ((nI 0) <<< ((nI 6) &&& 31))) ||| ((nI 0) <<< ((nI 12) &&& 31))) ||| ((nI 0) <<< ((nI 18) &&& 31))) ||| ((nI 0) <<< ((nI 24) &&& 31)))), (2, .int (nI 4)), (0, .ref (ad 1))] dX4_readSitter_33 rfl (by decide) rfl ?_
    refine z_iincN C [(2, .int (nI 5)), (1, .int ((((((nI 0) ||| ((nI 0) <<< ((nI 0) &&& 31))) ||| ((nI 0) <<< ((nI 6) &&& 31))) ||| ((nI 0) <<< ((nI 12) &&& 31))) ||| ((nI 0) <<< ((nI 18) &&& 31))) ||| ((nI 0) <<< ((nI 24) &&& 31)))), (0, .ref (ad 1))] dX4_readSitter_34 rfl (by decide) rfl ?_
    refine z_goto C 4 dX4_readSitter_37 (by decide) ?_
    refine z_iload_n C dX4_readSitter_4 rfl (show zlk _ 2 = some (.int (nI 5)) from rfl) ?_
    refine z_iconst C (v := nI 5) dX4_readSitter_5 (by decide) ?_
    refine z_icmp_geT C 40 dX4_readSitter_6 (by decide) (by omega) (by omega) (by decide) ?_
    refine z_aload_n C dX4_readSitter_40 rfl (show zlk _ 0 = some (.ref (ad 1)) from rfl) ?_
    refine z_get C hinX4 1 cc_1 rfl 1 (by decide) (by decide +kernel) cg_1_1 dX4_readSitter_41 ?_
    refine z_getN C (host := "GnatPortraits") hinX0 2 cc_2 rfl 2 (by decide) (by decide +kernel) ch_2_2 dX4_readSitter_44 ?_
    refine z_bipush C (v := nI 6) dX4_readSitter_47 (by decide) ?_
    refine z_icmp_geF C 81 dX4_readSitter_49 (by decide) (by omega) (by omega) (by omega) ?_
    refine z_aload_n C dX4_readSitter_52 rfl (show zlk _ 0 = some (.ref (ad 1)) from rfl) ?_
    refine z_get C hinX4 1 cc_1 rfl 1 (by decide) (by decide +kernel) cg_1_1 dX4_readSitter_53 ?_
    refine z_getN C (host := "GnatPortraits") hinX0 2 cc_2 rfl 5 (by decide) (by decide +kernel) cg_2_5 dX4_readSitter_56 ?_
    refine z_aload_n C dX4_readSitter_59 rfl (show zlk _ 0 = some (.ref (ad 1)) from rfl) ?_
    refine z_get C hinX4 1 cc_1 rfl 1 (by decide) (by decide +kernel) cg_1_1 dX4_readSitter_60 ?_
    refine z_getN C (host := "GnatPortraits") hinX0 2 cc_2 rfl 2 (by decide) (by decide +kernel) ch_2_2 dX4_readSitter_63 ?_
    refine z_iload_n C dX4_readSitter_66 rfl (show zlk _ 1 = some (.int ((((((nI 0) ||| ((nI 0) <<< ((nI 0) &&& 31))) ||| ((nI 0) <<< ((nI 6) &&& 31))) ||| ((nI 0) <<< ((nI 12) &&& 31))) ||| ((nI 0) <<< ((nI 18) &&& 31))) ||| ((nI 0) <<< ((nI 24) &&& 31)))) from rfl) ?_
    refine z_iast C (f := (r 1)) 12 ca_12 (n 6) rfl (by omega) (by decide) _ cs_12 dX4_readSitter_67 ?_
    refine z_aload_n C dX4_readSitter_68 rfl (show zlk _ 0 = some (.ref (ad 1)) from rfl) ?_
    refine z_get C hinX4 1 cc_1 rfl 1 (by decide) (by decide +kernel) cg_1_1 dX4_readSitter_69 ?_
    refine z_dup C dX4_readSitter_72 rfl ?_
    refine z_getN C (host := "GnatPortraits") hinX0 2 cc_2 rfl 2 (by decide) (by decide +kernel) ch_2_2 dX4_readSitter_73 ?_
    refine z_iconst C (v := nI 1) dX4_readSitter_76 (by decide) ?_
    refine z_iaddN C dX4_readSitter_77 ?_
    refine z_putN C (host := "GnatPortraits") hinX0 tyX0 tyX0_ok nmX0 2 cc_2 rfl 2 (by decide) (by decide +kernel) rfl rfl rfl rfl (Nat.le_of_ble_eq_true rfl) _ cv_2_2 dX4_readSitter_78 ?_
    exact E _ _ _ (Or.inl (by rw [hF5]; exact ⟨by simp, _, _, (show pb1 ≤ n 2 by omega), (cw_eq rfl rfl rfl rfl rfl rfl rfl rfl rfl rfl rfl rfl rfl rfl rfl rfl rfl rfl rfl rfl rfl rfl rfl rfl rfl rfl rfl rfl rfl rfl rfl rfl rfl rfl rfl rfl rfl rfl rfl rfl rfl rfl rfl rfl rfl rfl rfl rfl rfl rfl rfl)⟩)) dX4_readSitter_81
  · replace ea1 : sk (r 0) (n 2) (n 3) = pa1 := ea1
    replace eb1 : nE (r 0) (n 2) (n 3) = pb1 := eb1
    replace hA1 : nOk (r 0) (n 2) (n 3) = true := hA1
    replace hB1 : ¬ nBad (r 0) (n 2) (n 3) 0 63 := hB1
    have lb1 : pb1 ≤ n 2 := by rw [← eb1]; exact (nE_le (lq0)).2
    refine z_top (v' := .int (nI (nV (r 0) (n 2) (n 3)))) rfl ?_
    refine z_X (Y := CW θ ea ad (cnv (n 0) (n 1) (n 2) pb1 (n 4) (n 5) (n 6) (n 7) (n 8) (n 9) (n 10) (n 11) (n 12) (n 13) (n 14) (n 15) (n 16) (n 17) (n 18) (n 19) (n 20)) g b r V) (cw_eq rfl rfl rfl rfl rfl rfl rfl rfl rfl rfl rfl rfl rfl rfl rfl rfl rfl rfl rfl rfl rfl rfl rfl rfl rfl rfl rfl rfl rfl rfl rfl rfl rfl rfl rfl rfl rfl rfl rfl rfl rfl rfl rfl rfl rfl rfl rfl rfl rfl rfl rfl) ?_
    have hF1 : rF (r 0) (n 2) (n 3) 1 = (0, 0) := nF_C hA1 hB1
    refine z_bipush C (v := nI 6) dX4_readSitter_27 (by decide) ?_
    refine z_iload_n C dX4_readSitter_29 rfl (show zlk _ 2 = some (.int (nI 0)) from rfl) ?_
    refine z_imulN C dX4_readSitter_30 ?_
    refine z_top (v' := .int (nI 0)) rfl ?_
    refine z_ishl C dX4_readSitter_31 ?_
    refine z_ior C dX4_readSitter_32 ?_
    refine z_top (v' := .int (rS (r 0) (n 2) (n 3) 1)) (by rw [hq0]; rfl) ?_
    refine z_istore_n C [(1, .int (rS (r 0) (n 2) (n 3) 1)), (2, .int (nI 0)), (0, .ref (ad 1))] dX4_readSitter_33 rfl (by decide) rfl ?_
    refine z_iincN C [(2, .int (nI 1)), (1, .int (rS (r 0) (n 2) (n 3) 1)), (0, .ref (ad 1))] dX4_readSitter_34 rfl (by decide) rfl ?_
    refine z_goto C 4 dX4_readSitter_37 (by decide) ?_
    refine z_iload_n C dX4_readSitter_4 rfl (show zlk _ 2 = some (.int (nI 1)) from rfl) ?_
    refine z_iconst C (v := nI 5) dX4_readSitter_5 (by decide) ?_
    refine z_icmp_geF C 40 dX4_readSitter_6 (by decide) (by omega) (by omega) (by decide) ?_
    refine z_iload_n C dX4_readSitter_9 rfl (show zlk _ 2 = some (.int (nI 1)) from rfl) ?_
    refine z_if_leN C 19 dX4_readSitter_10 (by decide) (by decide) (fun h => absurd h (by decide)) (fun _ => ?_)
    refine z_aload_n C dX4_readSitter_13 rfl (show zlk _ 0 = some (.ref (ad 1)) from rfl) ?_
    refine z_bipush C (v := nI 44) dX4_readSitter_14 (by decide) ?_
    refine z_callVv C (As := [.int (nI 44)]) (rest := []) (c_X4_readSign_2 l θ ea ad (cnv (n 0) (n 1) (n 2) pb1 (n 4) (n 5) (n 6) (n 7) (n 8) (n 9) (n 10) (n 11) (n 12) (n 13) (n 14) (n 15) (n 16) (n 17) (n 18) (n 19) (n 20)) g b r V (nI 44) (show n 4 = 0 from hf) (show pb1 ≤ 240 by omega) hL) gX4_readSitter_X4_readSign rfl 1 (by decide +kernel) (by decide) (by decide) 1 rfl rfl rfl rfl rfl (Nat.le_of_ble_eq_true rfl) dX4_readSitter_16 ?_
    rintro _ ⟨pg2, eg2, (⟨hs2, rfl⟩ | ⟨hs2, rfl⟩)⟩
    · replace eg2 : sk (r 0) (n 2) (pb1) = pg2 := eg2
      replace hs2 : m_hr (r 0) (n 2) pg2 = nI 44 := hs2
      have lg2 := hr_lt hs2 (by decide)
      refine z_X (Y := CW θ ea ad (cnv (n 0) (n 1) (n 2) (pg2 + 1) (n 4) (n 5) (n 6) (n 7) (n 8) (n 9) (n 10) (n 11) (n 12) (n 13) (n 14) (n 15) (n 16) (n 17) (n 18) (n 19) (n 20)) g b r V) (cw_eq rfl rfl rfl rfl rfl rfl rfl rfl rfl rfl rfl rfl rfl rfl rfl rfl rfl rfl rfl rfl rfl rfl rfl rfl rfl rfl rfl rfl rfl rfl rfl rfl rfl rfl rfl rfl rfl rfl rfl rfl rfl rfl rfl rfl rfl rfl rfl rfl rfl rfl rfl) ?_
      have hq1 : pg2 + 1 = rwq (r 0) (n 2) (n 3) 1 := by show pg2 + 1 = sk (r 0) (n 2) (nE (r 0) (n 2) (rwq (r 0) (n 2) (n 3) 0)) + 1; rw [← hq0, eb1, eg2]
      have lq1 : pg2 + 1 ≤ n 2 := lg2
      refine z_iload_n C dX4_readSitter_19 rfl (show zlk _ 1 = some (.int (rS (r 0) (n 2) (n 3) 1)) from rfl) ?_
      refine z_aload_n C dX4_readSitter_20 rfl (show zlk _ 0 = some (.ref (ad 1)) from rfl) ?_
      refine z_iconst C (v := nI 0) dX4_readSitter_21 (by decide) ?_
      refine z_bipush C (v := nI 63) dX4_readSitter_22 (by decide) ?_
      refine z_callVi C (As := [.int (nI 0), .int (nI 63)]) (rest := [.int (rS (r 0) (n 2) (n 3) 1)]) (c_X4_readNumber_2 l θ ea ad (cnv (n 0) (n 1) (n 2) (pg2 + 1) (n 4) (n 5) (n 6) (n 7) (n 8) (n 9) (n 10) (n 11) (n 12) (n 13) (n 14) (n 15) (n 16) (n 17) (n 18) (n 19) (n 20)) g b r V 0 63 (show n 4 = 0 from hf) (show pg2 + 1 ≤ n 2 from (lq1)) hL (by decide) (by decide)) gX4_readSitter_X4_readNumber rfl 2 (by decide +kernel) (by decide) (by decide) 1 rfl rfl rfl rfl rfl (Nat.le_of_ble_eq_true rfl) dX4_readSitter_24 ?_
      rintro _ _ ⟨pa3, pb3, ea3, eb3, (⟨hA3, rfl, rfl⟩ | ⟨hA3, hB3, rfl, rfl⟩ | ⟨hA3, hB3, rfl, rfl⟩)⟩
      · replace ea3 : sk (r 0) (n 2) (pg2 + 1) = pa3 := ea3
        replace eb3 : nE (r 0) (n 2) (pg2 + 1) = pb3 := eb3
        replace hA3 : nOk (r 0) (n 2) (pg2 + 1) = false := hA3
        have la3 : pa3 ≤ n 2 := by rw [← ea3]; exact (sk_le (lq1)).2
        refine z_X (Y := CW θ ea ad (cnv (n 0) (n 1) (n 2) pa3 1 (n 5) (n 6) (n 7) (n 8) (n 9) (n 10) (n 11) (n 12) (n 13) (n 14) (n 15) (n 16) (n 17) (n 18) (n 19) (n 20)) (cgv (g 0) (g 1) (nI pa3) (g 3) (g 4) (g 5) (g 6)) b r V) (cw_eq rfl rfl rfl rfl rfl rfl rfl rfl rfl rfl rfl rfl rfl rfl rfl rfl rfl rfl rfl rfl rfl rfl rfl rfl rfl rfl rfl rfl rfl rfl rfl rfl rfl rfl rfl rfl rfl rfl rfl rfl rfl rfl rfl rfl rfl rfl rfl rfl rfl rfl rfl) ?_
        have hFF : rF (r 0) (n 2) (n 3) 2 = (1, pa3) := (rF_step (by rw [hF1]) (by show m_hr (r 0) (n 2) (sk (r 0) (n 2) (nE (r 0) (n 2) (rwq (r 0) (n 2) (n 3) 0))) = nI 44; rw [← hq0, eb1, eg2]; exact hs2)).trans (by rw [← hq1]; exact (by rw [← ea3]; exact nF_A hA3 : nF (r 0) (n 2) (pg2 + 1) 0 63 = (1, pa3)))
        have hF5 : rF (r 0) (n 2) (n 3) 5 = (1, pa3) := (rF_up (i := 2) (by decide) (by rw [hFF]; simp)).trans hFF
        refine z_bipush C (v := nI 6) dX4_readSitter_27 (by decide) ?_
        refine z_iload_n C dX4_readSitter_29 rfl (show zlk _ 2 = some (.int (nI 1)) from rfl) ?_
        refine z_imulN C dX4_readSitter_30 ?_
        refine z_top (v' := .int (nI 6)) rfl ?_
        refine z_ishl C dX4_readSitter_31 ?_
        refine z_ior C dX4_readSitter_32 ?_
        refine z_istore_n C [(1, .int ((rS (r 0) (n 2) (n 3) 1) ||| ((nI 0) <<< ((nI 6) &&& 31)))), (2, .int (nI 1)), (0, .ref (ad 1))] dX4_readSitter_33 rfl (by decide) rfl ?_
        refine z_iincN C [(2, .int (nI 2)), (1, .int ((rS (r 0) (n 2) (n 3) 1) ||| ((nI 0) <<< ((nI 6) &&& 31)))), (0, .ref (ad 1))] dX4_readSitter_34 rfl (by decide) rfl ?_
        refine z_goto C 4 dX4_readSitter_37 (by decide) ?_
        refine z_iload_n C dX4_readSitter_4 rfl (show zlk _ 2 = some (.int (nI 2)) from rfl) ?_
        refine z_iconst C (v := nI 5) dX4_readSitter_5 (by decide) ?_
        refine z_icmp_geF C 40 dX4_readSitter_6 (by decide) (by omega) (by omega) (by decide) ?_
        refine z_iload_n C dX4_readSitter_9 rfl (show zlk _ 2 = some (.int (nI 2)) from rfl) ?_
        refine z_if_leN C 19 dX4_readSitter_10 (by decide) (by decide) (fun h => absurd h (by decide)) (fun _ => ?_)
        refine z_aload_n C dX4_readSitter_13 rfl (show zlk _ 0 = some (.ref (ad 1)) from rfl) ?_
        refine z_bipush C (v := nI 44) dX4_readSitter_14 (by decide) ?_
        refine z_callVv C (As := [.int (nI 44)]) (rest := []) (c_X4_readSign_1 l θ ea ad (cnv (n 0) (n 1) (n 2) pa3 1 (n 5) (n 6) (n 7) (n 8) (n 9) (n 10) (n 11) (n 12) (n 13) (n 14) (n 15) (n 16) (n 17) (n 18) (n 19) (n 20)) (cgv (g 0) (g 1) (nI pa3) (g 3) (g 4) (g 5) (g 6)) b r V (nI 44) (show ¬ 1 = 0 by decide) (show 1 < 2 ^ 31 by decide)) gX4_readSitter_X4_readSign rfl 1 (by decide +kernel) (by decide) (by decide) 1 rfl rfl rfl rfl rfl (Nat.le_of_ble_eq_true rfl) dX4_readSitter_16 ?_
        rintro _ rfl
        refine z_iload_n C dX4_readSitter_19 rfl (show zlk _ 1 = some (.int ((rS (r 0) (n 2) (n 3) 1) ||| ((nI 0) <<< ((nI 6) &&& 31)))) from rfl) ?_
        refine z_aload_n C dX4_readSitter_20 rfl (show zlk _ 0 = some (.ref (ad 1)) from rfl) ?_
        refine z_iconst C (v := nI 0) dX4_readSitter_21 (by decide) ?_
        refine z_bipush C (v := nI 63) dX4_readSitter_22 (by decide) ?_
        refine z_callVi C (As := [.int (nI 0), .int (nI 63)]) (rest := [.int ((rS (r 0) (n 2) (n 3) 1) ||| ((nI 0) <<< ((nI 6) &&& 31)))]) (c_X4_readNumber_1 l θ ea ad (cnv (n 0) (n 1) (n 2) pa3 1 (n 5) (n 6) (n 7) (n 8) (n 9) (n 10) (n 11) (n 12) (n 13) (n 14) (n 15) (n 16) (n 17) (n 18) (n 19) (n 20)) (cgv (g 0) (g 1) (nI pa3) (g 3) (g 4) (g 5) (g 6)) b r V 0 63 (show ¬ 1 = 0 by decide) (show 1 < 2 ^ 31 by decide)) gX4_readSitter_X4_readNumber rfl 2 (by decide +kernel) (by decide) (by decide) 1 rfl rfl rfl rfl rfl (Nat.le_of_ble_eq_true rfl) dX4_readSitter_24 ?_
        rintro _ _ ⟨rfl, rfl⟩
        refine z_top (v' := .int (nI 0)) rfl ?_
        refine z_bipush C (v := nI 6) dX4_readSitter_27 (by decide) ?_
        refine z_iload_n C dX4_readSitter_29 rfl (show zlk _ 2 = some (.int (nI 2)) from rfl) ?_
        refine z_imulN C dX4_readSitter_30 ?_
        refine z_top (v' := .int (nI 12)) rfl ?_
        refine z_ishl C dX4_readSitter_31 ?_
        refine z_ior C dX4_readSitter_32 ?_
        refine z_istore_n C [(1, .int (((rS (r 0) (n 2) (n 3) 1) ||| ((nI 0) <<< ((nI 6) &&& 31))) ||| ((nI 0) <<< ((nI 12) &&& 31)))), (2, .int (nI 2)), (0, .ref (ad 1))] dX4_readSitter_33 rfl (by decide) rfl ?_
        refine z_iincN C [(2, .int (nI 3)), (1, .int (((rS (r 0) (n 2) (n 3) 1) ||| ((nI 0) <<< ((nI 6) &&& 31))) ||| ((nI 0) <<< ((nI 12) &&& 31)))), (0, .ref (ad 1))] dX4_readSitter_34 rfl (by decide) rfl ?_
        refine z_goto C 4 dX4_readSitter_37 (by decide) ?_
        refine z_iload_n C dX4_readSitter_4 rfl (show zlk _ 2 = some (.int (nI 3)) from rfl) ?_
        refine z_iconst C (v := nI 5) dX4_readSitter_5 (by decide) ?_
        refine z_icmp_geF C 40 dX4_readSitter_6 (by decide) (by omega) (by omega) (by decide) ?_
        refine z_iload_n C dX4_readSitter_9 rfl (show zlk _ 2 = some (.int (nI 3)) from rfl) ?_
        refine z_if_leN C 19 dX4_readSitter_10 (by decide) (by decide) (fun h => absurd h (by decide)) (fun _ => ?_)
        refine z_aload_n C dX4_readSitter_13 rfl (show zlk _ 0 = some (.ref (ad 1)) from rfl) ?_
        refine z_bipush C (v := nI 44) dX4_readSitter_14 (by decide) ?_
        refine z_callVv C (As := [.int (nI 44)]) (rest := []) (c_X4_readSign_1 l θ ea ad (cnv (n 0) (n 1) (n 2) pa3 1 (n 5) (n 6) (n 7) (n 8) (n 9) (n 10) (n 11) (n 12) (n 13) (n 14) (n 15) (n 16) (n 17) (n 18) (n 19) (n 20)) (cgv (g 0) (g 1) (nI pa3) (g 3) (g 4) (g 5) (g 6)) b r V (nI 44) (show ¬ 1 = 0 by decide) (show 1 < 2 ^ 31 by decide)) gX4_readSitter_X4_readSign rfl 1 (by decide +kernel) (by decide) (by decide) 1 rfl rfl rfl rfl rfl (Nat.le_of_ble_eq_true rfl) dX4_readSitter_16 ?_
        rintro _ rfl
        refine z_iload_n C dX4_readSitter_19 rfl (show zlk _ 1 = some (.int (((rS (r 0) (n 2) (n 3) 1) ||| ((nI 0) <<< ((nI 6) &&& 31))) ||| ((nI 0) <<< ((nI 12) &&& 31)))) from rfl) ?_
        refine z_aload_n C dX4_readSitter_20 rfl (show zlk _ 0 = some (.ref (ad 1)) from rfl) ?_
        refine z_iconst C (v := nI 0) dX4_readSitter_21 (by decide) ?_
        refine z_bipush C (v := nI 63) dX4_readSitter_22 (by decide) ?_
        refine z_callVi C (As := [.int (nI 0), .int (nI 63)]) (rest := [.int (((rS (r 0) (n 2) (n 3) 1) ||| ((nI 0) <<< ((nI 6) &&& 31))) ||| ((nI 0) <<< ((nI 12) &&& 31)))]) (c_X4_readNumber_1 l θ ea ad (cnv (n 0) (n 1) (n 2) pa3 1 (n 5) (n 6) (n 7) (n 8) (n 9) (n 10) (n 11) (n 12) (n 13) (n 14) (n 15) (n 16) (n 17) (n 18) (n 19) (n 20)) (cgv (g 0) (g 1) (nI pa3) (g 3) (g 4) (g 5) (g 6)) b r V 0 63 (show ¬ 1 = 0 by decide) (show 1 < 2 ^ 31 by decide)) gX4_readSitter_X4_readNumber rfl 2 (by decide +kernel) (by decide) (by decide) 1 rfl rfl rfl rfl rfl (Nat.le_of_ble_eq_true rfl) dX4_readSitter_24 ?_
        rintro _ _ ⟨rfl, rfl⟩
        refine z_top (v' := .int (nI 0)) rfl ?_
        refine z_bipush C (v := nI 6) dX4_readSitter_27 (by decide) ?_
        refine z_iload_n C dX4_readSitter_29 rfl (show zlk _ 2 = some (.int (nI 3)) from rfl) ?_
        refine z_imulN C dX4_readSitter_30 ?_
        refine z_top (v' := .int (nI 18)) rfl ?_
        refine z_ishl C dX4_readSitter_31 ?_
        refine z_ior C dX4_readSitter_32 ?_
        refine z_istore_n C [(1, .int ((((rS (r 0) (n 2) (n 3) 1) ||| ((nI 0) <<< ((nI 6) &&& 31))) ||| ((nI 0) <<< ((nI 12) &&& 31))) ||| ((nI 0) <<< ((nI 18) &&& 31)))), (2, .int (nI 3)), (0, .ref (ad 1))] dX4_readSitter_33 rfl (by decide) rfl ?_
        refine z_iincN C [(2, .int (nI 4)), (1, .int ((((rS (r 0) (n 2) (n 3) 1) ||| ((nI 0) <<< ((nI 6) &&& 31))) ||| ((nI 0) <<< ((nI 12) &&& 31))) ||| ((nI 0) <<< ((nI 18) &&& 31)))), (0, .ref (ad 1))] dX4_readSitter_34 rfl (by decide) rfl ?_
        refine z_goto C 4 dX4_readSitter_37 (by decide) ?_
        refine z_iload_n C dX4_readSitter_4 rfl (show zlk _ 2 = some (.int (nI 4)) from rfl) ?_
        refine z_iconst C (v := nI 5) dX4_readSitter_5 (by decide) ?_
        refine z_icmp_geF C 40 dX4_readSitter_6 (by decide) (by omega) (by omega) (by decide) ?_
        refine z_iload_n C dX4_readSitter_9 rfl (show zlk _ 2 = some (.int (nI 4)) from rfl) ?_
        refine z_if_leN C 19 dX4_readSitter_10 (by decide) (by decide) (fun h => absurd h (by decide)) (fun _ => ?_)
        refine z_aload_n C dX4_readSitter_13 rfl (show zlk _ 0 = some (.ref (ad 1)) from rfl) ?_
        refine z_bipush C (v := nI 44) dX4_readSitter_14 (by decide) ?_
        refine z_callVv C (As := [.int (nI 44)]) (rest := []) (c_X4_readSign_1 l θ ea ad (cnv (n 0) (n 1) (n 2) pa3 1 (n 5) (n 6) (n 7) (n 8) (n 9) (n 10) (n 11) (n 12) (n 13) (n 14) (n 15) (n 16) (n 17) (n 18) (n 19) (n 20)) (cgv (g 0) (g 1) (nI pa3) (g 3) (g 4) (g 5) (g 6)) b r V (nI 44) (show ¬ 1 = 0 by decide) (show 1 < 2 ^ 31 by decide)) gX4_readSitter_X4_readSign rfl 1 (by decide +kernel) (by decide) (by decide) 1 rfl rfl rfl rfl rfl (Nat.le_of_ble_eq_true rfl) dX4_readSitter_16 ?_
        rintro _ rfl
        refine z_iload_n C dX4_readSitter_19 rfl (show zlk _ 1 = some (.int ((((rS (r 0) (n 2) (n 3) 1) ||| ((nI 0) <<< ((nI 6) &&& 31))) ||| ((nI 0) <<< ((nI 12) &&& 31))) ||| ((nI 0) <<< ((nI 18) &&& 31)))) from rfl) ?_
        refine z_aload_n C dX4_readSitter_20 rfl (show zlk _ 0 = some (.ref (ad 1)) from rfl) ?_
        refine z_iconst C (v := nI 0) dX4_readSitter_21 (by decide) ?_
        refine z_bipush C (v := nI 63) dX4_readSitter_22 (by decide) ?_
        refine z_callVi C (As := [.int (nI 0), .int (nI 63)]) (rest := [.int ((((rS (r 0) (n 2) (n 3) 1) ||| ((nI 0) <<< ((nI 6) &&& 31))) ||| ((nI 0) <<< ((nI 12) &&& 31))) ||| ((nI 0) <<< ((nI 18) &&& 31)))]) (c_X4_readNumber_1 l θ ea ad (cnv (n 0) (n 1) (n 2) pa3 1 (n 5) (n 6) (n 7) (n 8) (n 9) (n 10) (n 11) (n 12) (n 13) (n 14) (n 15) (n 16) (n 17) (n 18) (n 19) (n 20)) (cgv (g 0) (g 1) (nI pa3) (g 3) (g 4) (g 5) (g 6)) b r V 0 63 (show ¬ 1 = 0 by decide) (show 1 < 2 ^ 31 by decide)) gX4_readSitter_X4_readNumber rfl 2 (by decide +kernel) (by decide) (by decide) 1 rfl rfl rfl rfl rfl (Nat.le_of_ble_eq_true rfl) dX4_readSitter_24 ?_
        rintro _ _ ⟨rfl, rfl⟩
        refine z_top (v' := .int (nI 0)) rfl ?_
        refine z_bipush C (v := nI 6) dX4_readSitter_27 (by decide) ?_
        refine z_iload_n C dX4_readSitter_29 rfl (show zlk _ 2 = some (.int (nI 4)) from rfl) ?_
        refine z_imulN C dX4_readSitter_30 ?_
        refine z_top (v' := .int (nI 24)) rfl ?_
        refine z_ishl C dX4_readSitter_31 ?_
        refine z_ior C dX4_readSitter_32 ?_
        refine z_istore_n C [(1, .int (((((rS (r 0) (n 2) (n 3) 1) ||| ((nI 0) <<< ((nI 6) &&& 31))) ||| ((nI 0) <<< ((nI 12) &&& 31))) ||| ((nI 0) <<< ((nI 18) &&& 31))) ||| ((nI 0) <<< ((nI 24) &&& 31)))), (2, .int (nI 4)), (0, .ref (ad 1))] dX4_readSitter_33 rfl (by decide) rfl ?_
        refine z_iincN C [(2, .int (nI 5)), (1, .int (((((rS (r 0) (n 2) (n 3) 1) ||| ((nI 0) <<< ((nI 6) &&& 31))) ||| ((nI 0) <<< ((nI 12) &&& 31))) ||| ((nI 0) <<< ((nI 18) &&& 31))) ||| ((nI 0) <<< ((nI 24) &&& 31)))), (0, .ref (ad 1))] dX4_readSitter_34 rfl (by decide) rfl ?_
        refine z_goto C 4 dX4_readSitter_37 (by decide) ?_
        refine z_iload_n C dX4_readSitter_4 rfl (show zlk _ 2 = some (.int (nI 5)) from rfl) ?_
        refine z_iconst C (v := nI 5) dX4_readSitter_5 (by decide) ?_
        refine z_icmp_geT C 40 dX4_readSitter_6 (by decide) (by omega) (by omega) (by decide) ?_
        refine z_aload_n C dX4_readSitter_40 rfl (show zlk _ 0 = some (.ref (ad 1)) from rfl) ?_
        refine z_get C hinX4 1 cc_1 rfl 1 (by decide) (by decide +kernel) cg_1_1 dX4_readSitter_41 ?_
        refine z_getN C (host := "GnatPortraits") hinX0 2 cc_2 rfl 2 (by decide) (by decide +kernel) ch_2_2 dX4_readSitter_44 ?_
        refine z_bipush C (v := nI 6) dX4_readSitter_47 (by decide) ?_
        refine z_icmp_geF C 81 dX4_readSitter_49 (by decide) (by omega) (by omega) (by omega) ?_
        refine z_aload_n C dX4_readSitter_52 rfl (show zlk _ 0 = some (.ref (ad 1)) from rfl) ?_
        refine z_get C hinX4 1 cc_1 rfl 1 (by decide) (by decide +kernel) cg_1_1 dX4_readSitter_53 ?_
        refine z_getN C (host := "GnatPortraits") hinX0 2 cc_2 rfl 5 (by decide) (by decide +kernel) cg_2_5 dX4_readSitter_56 ?_
        refine z_aload_n C dX4_readSitter_59 rfl (show zlk _ 0 = some (.ref (ad 1)) from rfl) ?_
        refine z_get C hinX4 1 cc_1 rfl 1 (by decide) (by decide +kernel) cg_1_1 dX4_readSitter_60 ?_
        refine z_getN C (host := "GnatPortraits") hinX0 2 cc_2 rfl 2 (by decide) (by decide +kernel) ch_2_2 dX4_readSitter_63 ?_
        refine z_iload_n C dX4_readSitter_66 rfl (show zlk _ 1 = some (.int (((((rS (r 0) (n 2) (n 3) 1) ||| ((nI 0) <<< ((nI 6) &&& 31))) ||| ((nI 0) <<< ((nI 12) &&& 31))) ||| ((nI 0) <<< ((nI 18) &&& 31))) ||| ((nI 0) <<< ((nI 24) &&& 31)))) from rfl) ?_
        refine z_iast C (f := (r 1)) 12 ca_12 (n 6) rfl (by omega) (by decide) _ cs_12 dX4_readSitter_67 ?_
        refine z_aload_n C dX4_readSitter_68 rfl (show zlk _ 0 = some (.ref (ad 1)) from rfl) ?_
        refine z_get C hinX4 1 cc_1 rfl 1 (by decide) (by decide +kernel) cg_1_1 dX4_readSitter_69 ?_
        refine z_dup C dX4_readSitter_72 rfl ?_
        refine z_getN C (host := "GnatPortraits") hinX0 2 cc_2 rfl 2 (by decide) (by decide +kernel) ch_2_2 dX4_readSitter_73 ?_
        refine z_iconst C (v := nI 1) dX4_readSitter_76 (by decide) ?_
        refine z_iaddN C dX4_readSitter_77 ?_
        refine z_putN C (host := "GnatPortraits") hinX0 tyX0 tyX0_ok nmX0 2 cc_2 rfl 2 (by decide) (by decide +kernel) rfl rfl rfl rfl (Nat.le_of_ble_eq_true rfl) _ cv_2_2 dX4_readSitter_78 ?_
        exact E _ _ _ (Or.inl (by rw [hF5]; exact ⟨by simp, _, _, (show pa3 ≤ n 2 by omega), (cw_eq rfl rfl rfl rfl rfl rfl rfl rfl rfl rfl rfl rfl rfl rfl rfl rfl rfl rfl rfl rfl rfl rfl rfl rfl rfl rfl rfl rfl rfl rfl rfl rfl rfl rfl rfl rfl rfl rfl rfl rfl rfl rfl rfl rfl rfl rfl rfl rfl rfl rfl rfl)⟩)) dX4_readSitter_81
      · replace ea3 : sk (r 0) (n 2) (pg2 + 1) = pa3 := ea3
        replace eb3 : nE (r 0) (n 2) (pg2 + 1) = pb3 := eb3
        replace hA3 : nOk (r 0) (n 2) (pg2 + 1) = true := hA3
        replace hB3 : nBad (r 0) (n 2) (pg2 + 1) 0 63 := hB3
        have lb3 : pb3 ≤ n 2 := by rw [← eb3]; exact (nE_le (lq1)).2
        refine z_X (Y := CW θ ea ad (cnv (n 0) (n 1) (n 2) pb3 2 (n 5) (n 6) (n 7) (n 8) (n 9) (n 10) (n 11) (n 12) (n 13) (n 14) (n 15) (n 16) (n 17) (n 18) (n 19) (n 20)) (cgv (g 0) (g 1) (nI pa3) (g 3) (g 4) (g 5) (g 6)) b r V) (cw_eq rfl rfl rfl rfl rfl rfl rfl rfl rfl rfl rfl rfl rfl rfl rfl rfl rfl rfl rfl rfl rfl rfl rfl rfl rfl rfl rfl rfl rfl rfl rfl rfl rfl rfl rfl rfl rfl rfl rfl rfl rfl rfl rfl rfl rfl rfl rfl rfl rfl rfl rfl) ?_
        have hFF : rF (r 0) (n 2) (n 3) 2 = (2, pa3) := (rF_step (by rw [hF1]) (by show m_hr (r 0) (n 2) (sk (r 0) (n 2) (nE (r 0) (n 2) (rwq (r 0) (n 2) (n 3) 0))) = nI 44; rw [← hq0, eb1, eg2]; exact hs2)).trans (by rw [← hq1]; exact (by rw [← ea3]; exact nF_B hA3 hB3 : nF (r 0) (n 2) (pg2 + 1) 0 63 = (2, pa3)))
        have hF5 : rF (r 0) (n 2) (n 3) 5 = (2, pa3) := (rF_up (i := 2) (by decide) (by rw [hFF]; simp)).trans hFF
        refine z_bipush C (v := nI 6) dX4_readSitter_27 (by decide) ?_
        refine z_iload_n C dX4_readSitter_29 rfl (show zlk _ 2 = some (.int (nI 1)) from rfl) ?_
        refine z_imulN C dX4_readSitter_30 ?_
        refine z_top (v' := .int (nI 6)) rfl ?_
        refine z_ishl C dX4_readSitter_31 ?_
        refine z_ior C dX4_readSitter_32 ?_
        refine z_istore_n C [(1, .int ((rS (r 0) (n 2) (n 3) 1) ||| ((nI 0) <<< ((nI 6) &&& 31)))), (2, .int (nI 1)), (0, .ref (ad 1))] dX4_readSitter_33 rfl (by decide) rfl ?_
        refine z_iincN C [(2, .int (nI 2)), (1, .int ((rS (r 0) (n 2) (n 3) 1) ||| ((nI 0) <<< ((nI 6) &&& 31)))), (0, .ref (ad 1))] dX4_readSitter_34 rfl (by decide) rfl ?_
        refine z_goto C 4 dX4_readSitter_37 (by decide) ?_
        refine z_iload_n C dX4_readSitter_4 rfl (show zlk _ 2 = some (.int (nI 2)) from rfl) ?_
        refine z_iconst C (v := nI 5) dX4_readSitter_5 (by decide) ?_
        refine z_icmp_geF C 40 dX4_readSitter_6 (by decide) (by omega) (by omega) (by decide) ?_
        refine z_iload_n C dX4_readSitter_9 rfl (show zlk _ 2 = some (.int (nI 2)) from rfl) ?_
        refine z_if_leN C 19 dX4_readSitter_10 (by decide) (by decide) (fun h => absurd h (by decide)) (fun _ => ?_)
        refine z_aload_n C dX4_readSitter_13 rfl (show zlk _ 0 = some (.ref (ad 1)) from rfl) ?_
        refine z_bipush C (v := nI 44) dX4_readSitter_14 (by decide) ?_
        refine z_callVv C (As := [.int (nI 44)]) (rest := []) (c_X4_readSign_1 l θ ea ad (cnv (n 0) (n 1) (n 2) pb3 2 (n 5) (n 6) (n 7) (n 8) (n 9) (n 10) (n 11) (n 12) (n 13) (n 14) (n 15) (n 16) (n 17) (n 18) (n 19) (n 20)) (cgv (g 0) (g 1) (nI pa3) (g 3) (g 4) (g 5) (g 6)) b r V (nI 44) (show ¬ 2 = 0 by decide) (show 2 < 2 ^ 31 by decide)) gX4_readSitter_X4_readSign rfl 1 (by decide +kernel) (by decide) (by decide) 1 rfl rfl rfl rfl rfl (Nat.le_of_ble_eq_true rfl) dX4_readSitter_16 ?_
        rintro _ rfl
        refine z_iload_n C dX4_readSitter_19 rfl (show zlk _ 1 = some (.int ((rS (r 0) (n 2) (n 3) 1) ||| ((nI 0) <<< ((nI 6) &&& 31)))) from rfl) ?_
        refine z_aload_n C dX4_readSitter_20 rfl (show zlk _ 0 = some (.ref (ad 1)) from rfl) ?_
        refine z_iconst C (v := nI 0) dX4_readSitter_21 (by decide) ?_
        refine z_bipush C (v := nI 63) dX4_readSitter_22 (by decide) ?_
        refine z_callVi C (As := [.int (nI 0), .int (nI 63)]) (rest := [.int ((rS (r 0) (n 2) (n 3) 1) ||| ((nI 0) <<< ((nI 6) &&& 31)))]) (c_X4_readNumber_1 l θ ea ad (cnv (n 0) (n 1) (n 2) pb3 2 (n 5) (n 6) (n 7) (n 8) (n 9) (n 10) (n 11) (n 12) (n 13) (n 14) (n 15) (n 16) (n 17) (n 18) (n 19) (n 20)) (cgv (g 0) (g 1) (nI pa3) (g 3) (g 4) (g 5) (g 6)) b r V 0 63 (show ¬ 2 = 0 by decide) (show 2 < 2 ^ 31 by decide)) gX4_readSitter_X4_readNumber rfl 2 (by decide +kernel) (by decide) (by decide) 1 rfl rfl rfl rfl rfl (Nat.le_of_ble_eq_true rfl) dX4_readSitter_24 ?_
        rintro _ _ ⟨rfl, rfl⟩
        refine z_top (v' := .int (nI 0)) rfl ?_
        refine z_bipush C (v := nI 6) dX4_readSitter_27 (by decide) ?_
        refine z_iload_n C dX4_readSitter_29 rfl (show zlk _ 2 = some (.int (nI 2)) from rfl) ?_
        refine z_imulN C dX4_readSitter_30 ?_
        refine z_top (v' := .int (nI 12)) rfl ?_
        refine z_ishl C dX4_readSitter_31 ?_
        refine z_ior C dX4_readSitter_32 ?_
        refine z_istore_n C [(1, .int (((rS (r 0) (n 2) (n 3) 1) ||| ((nI 0) <<< ((nI 6) &&& 31))) ||| ((nI 0) <<< ((nI 12) &&& 31)))), (2, .int (nI 2)), (0, .ref (ad 1))] dX4_readSitter_33 rfl (by decide) rfl ?_
        refine z_iincN C [(2, .int (nI 3)), (1, .int (((rS (r 0) (n 2) (n 3) 1) ||| ((nI 0) <<< ((nI 6) &&& 31))) ||| ((nI 0) <<< ((nI 12) &&& 31)))), (0, .ref (ad 1))] dX4_readSitter_34 rfl (by decide) rfl ?_
        refine z_goto C 4 dX4_readSitter_37 (by decide) ?_
        refine z_iload_n C dX4_readSitter_4 rfl (show zlk _ 2 = some (.int (nI 3)) from rfl) ?_
        refine z_iconst C (v := nI 5) dX4_readSitter_5 (by decide) ?_
        refine z_icmp_geF C 40 dX4_readSitter_6 (by decide) (by omega) (by omega) (by decide) ?_
        refine z_iload_n C dX4_readSitter_9 rfl (show zlk _ 2 = some (.int (nI 3)) from rfl) ?_
        refine z_if_leN C 19 dX4_readSitter_10 (by decide) (by decide) (fun h => absurd h (by decide)) (fun _ => ?_)
        refine z_aload_n C dX4_readSitter_13 rfl (show zlk _ 0 = some (.ref (ad 1)) from rfl) ?_
        refine z_bipush C (v := nI 44) dX4_readSitter_14 (by decide) ?_
        refine z_callVv C (As := [.int (nI 44)]) (rest := []) (c_X4_readSign_1 l θ ea ad (cnv (n 0) (n 1) (n 2) pb3 2 (n 5) (n 6) (n 7) (n 8) (n 9) (n 10) (n 11) (n 12) (n 13) (n 14) (n 15) (n 16) (n 17) (n 18) (n 19) (n 20)) (cgv (g 0) (g 1) (nI pa3) (g 3) (g 4) (g 5) (g 6)) b r V (nI 44) (show ¬ 2 = 0 by decide) (show 2 < 2 ^ 31 by decide)) gX4_readSitter_X4_readSign rfl 1 (by decide +kernel) (by decide) (by decide) 1 rfl rfl rfl rfl rfl (Nat.le_of_ble_eq_true rfl) dX4_readSitter_16 ?_
        rintro _ rfl
        refine z_iload_n C dX4_readSitter_19 rfl (show zlk _ 1 = some (.int (((rS (r 0) (n 2) (n 3) 1) ||| ((nI 0) <<< ((nI 6) &&& 31))) ||| ((nI 0) <<< ((nI 12) &&& 31)))) from rfl) ?_
        refine z_aload_n C dX4_readSitter_20 rfl (show zlk _ 0 = some (.ref (ad 1)) from rfl) ?_
        refine z_iconst C (v := nI 0) dX4_readSitter_21 (by decide) ?_
        refine z_bipush C (v := nI 63) dX4_readSitter_22 (by decide) ?_
        refine z_callVi C (As := [.int (nI 0), .int (nI 63)]) (rest := [.int (((rS (r 0) (n 2) (n 3) 1) ||| ((nI 0) <<< ((nI 6) &&& 31))) ||| ((nI 0) <<< ((nI 12) &&& 31)))]) (c_X4_readNumber_1 l θ ea ad (cnv (n 0) (n 1) (n 2) pb3 2 (n 5) (n 6) (n 7) (n 8) (n 9) (n 10) (n 11) (n 12) (n 13) (n 14) (n 15) (n 16) (n 17) (n 18) (n 19) (n 20)) (cgv (g 0) (g 1) (nI pa3) (g 3) (g 4) (g 5) (g 6)) b r V 0 63 (show ¬ 2 = 0 by decide) (show 2 < 2 ^ 31 by decide)) gX4_readSitter_X4_readNumber rfl 2 (by decide +kernel) (by decide) (by decide) 1 rfl rfl rfl rfl rfl (Nat.le_of_ble_eq_true rfl) dX4_readSitter_24 ?_
        rintro _ _ ⟨rfl, rfl⟩
        refine z_top (v' := .int (nI 0)) rfl ?_
        refine z_bipush C (v := nI 6) dX4_readSitter_27 (by decide) ?_
        refine z_iload_n C dX4_readSitter_29 rfl (show zlk _ 2 = some (.int (nI 3)) from rfl) ?_
        refine z_imulN C dX4_readSitter_30 ?_
        refine z_top (v' := .int (nI 18)) rfl ?_
        refine z_ishl C dX4_readSitter_31 ?_
        refine z_ior C dX4_readSitter_32 ?_
        refine z_istore_n C [(1, .int ((((rS (r 0) (n 2) (n 3) 1) ||| ((nI 0) <<< ((nI 6) &&& 31))) ||| ((nI 0) <<< ((nI 12) &&& 31))) ||| ((nI 0) <<< ((nI 18) &&& 31)))), (2, .int (nI 3)), (0, .ref (ad 1))] dX4_readSitter_33 rfl (by decide) rfl ?_
        refine z_iincN C [(2, .int (nI 4)), (1, .int ((((rS (r 0) (n 2) (n 3) 1) ||| ((nI 0) <<< ((nI 6) &&& 31))) ||| ((nI 0) <<< ((nI 12) &&& 31))) ||| ((nI 0) <<< ((nI 18) &&& 31)))), (0, .ref (ad 1))] dX4_readSitter_34 rfl (by decide) rfl ?_
        refine z_goto C 4 dX4_readSitter_37 (by decide) ?_
        refine z_iload_n C dX4_readSitter_4 rfl (show zlk _ 2 = some (.int (nI 4)) from rfl) ?_
        refine z_iconst C (v := nI 5) dX4_readSitter_5 (by decide) ?_
        refine z_icmp_geF C 40 dX4_readSitter_6 (by decide) (by omega) (by omega) (by decide) ?_
        refine z_iload_n C dX4_readSitter_9 rfl (show zlk _ 2 = some (.int (nI 4)) from rfl) ?_
        refine z_if_leN C 19 dX4_readSitter_10 (by decide) (by decide) (fun h => absurd h (by decide)) (fun _ => ?_)
        refine z_aload_n C dX4_readSitter_13 rfl (show zlk _ 0 = some (.ref (ad 1)) from rfl) ?_
        refine z_bipush C (v := nI 44) dX4_readSitter_14 (by decide) ?_
        refine z_callVv C (As := [.int (nI 44)]) (rest := []) (c_X4_readSign_1 l θ ea ad (cnv (n 0) (n 1) (n 2) pb3 2 (n 5) (n 6) (n 7) (n 8) (n 9) (n 10) (n 11) (n 12) (n 13) (n 14) (n 15) (n 16) (n 17) (n 18) (n 19) (n 20)) (cgv (g 0) (g 1) (nI pa3) (g 3) (g 4) (g 5) (g 6)) b r V (nI 44) (show ¬ 2 = 0 by decide) (show 2 < 2 ^ 31 by decide)) gX4_readSitter_X4_readSign rfl 1 (by decide +kernel) (by decide) (by decide) 1 rfl rfl rfl rfl rfl (Nat.le_of_ble_eq_true rfl) dX4_readSitter_16 ?_
        rintro _ rfl
        refine z_iload_n C dX4_readSitter_19 rfl (show zlk _ 1 = some (.int ((((rS (r 0) (n 2) (n 3) 1) ||| ((nI 0) <<< ((nI 6) &&& 31))) ||| ((nI 0) <<< ((nI 12) &&& 31))) ||| ((nI 0) <<< ((nI 18) &&& 31)))) from rfl) ?_
        refine z_aload_n C dX4_readSitter_20 rfl (show zlk _ 0 = some (.ref (ad 1)) from rfl) ?_
        refine z_iconst C (v := nI 0) dX4_readSitter_21 (by decide) ?_
        refine z_bipush C (v := nI 63) dX4_readSitter_22 (by decide) ?_
        refine z_callVi C (As := [.int (nI 0), .int (nI 63)]) (rest := [.int ((((rS (r 0) (n 2) (n 3) 1) ||| ((nI 0) <<< ((nI 6) &&& 31))) ||| ((nI 0) <<< ((nI 12) &&& 31))) ||| ((nI 0) <<< ((nI 18) &&& 31)))]) (c_X4_readNumber_1 l θ ea ad (cnv (n 0) (n 1) (n 2) pb3 2 (n 5) (n 6) (n 7) (n 8) (n 9) (n 10) (n 11) (n 12) (n 13) (n 14) (n 15) (n 16) (n 17) (n 18) (n 19) (n 20)) (cgv (g 0) (g 1) (nI pa3) (g 3) (g 4) (g 5) (g 6)) b r V 0 63 (show ¬ 2 = 0 by decide) (show 2 < 2 ^ 31 by decide)) gX4_readSitter_X4_readNumber rfl 2 (by decide +kernel) (by decide) (by decide) 1 rfl rfl rfl rfl rfl (Nat.le_of_ble_eq_true rfl) dX4_readSitter_24 ?_
        rintro _ _ ⟨rfl, rfl⟩
        refine z_top (v' := .int (nI 0)) rfl ?_
        refine z_bipush C (v := nI 6) dX4_readSitter_27 (by decide) ?_
        refine z_iload_n C dX4_readSitter_29 rfl (show zlk _ 2 = some (.int (nI 4)) from rfl) ?_
        refine z_imulN C dX4_readSitter_30 ?_
        refine z_top (v' := .int (nI 24)) rfl ?_
        refine z_ishl C dX4_readSitter_31 ?_
        refine z_ior C dX4_readSitter_32 ?_
        refine z_istore_n C [(1, .int (((((rS (r 0) (n 2) (n 3) 1) ||| ((nI 0) <<< ((nI 6) &&& 31))) ||| ((nI 0) <<< ((nI 12) &&& 31))) ||| ((nI 0) <<< ((nI 18) &&& 31))) ||| ((nI 0) <<< ((nI 24) &&& 31)))), (2, .int (nI 4)), (0, .ref (ad 1))] dX4_readSitter_33 rfl (by decide) rfl ?_
        refine z_iincN C [(2, .int (nI 5)), (1, .int (((((rS (r 0) (n 2) (n 3) 1) ||| ((nI 0) <<< ((nI 6) &&& 31))) ||| ((nI 0) <<< ((nI 12) &&& 31))) ||| ((nI 0) <<< ((nI 18) &&& 31))) ||| ((nI 0) <<< ((nI 24) &&& 31)))), (0, .ref (ad 1))] dX4_readSitter_34 rfl (by decide) rfl ?_
        refine z_goto C 4 dX4_readSitter_37 (by decide) ?_
        refine z_iload_n C dX4_readSitter_4 rfl (show zlk _ 2 = some (.int (nI 5)) from rfl) ?_
        refine z_iconst C (v := nI 5) dX4_readSitter_5 (by decide) ?_
        refine z_icmp_geT C 40 dX4_readSitter_6 (by decide) (by omega) (by omega) (by decide) ?_
        refine z_aload_n C dX4_readSitter_40 rfl (show zlk _ 0 = some (.ref (ad 1)) from rfl) ?_
        refine z_get C hinX4 1 cc_1 rfl 1 (by decide) (by decide +kernel) cg_1_1 dX4_readSitter_41 ?_
        refine z_getN C (host := "GnatPortraits") hinX0 2 cc_2 rfl 2 (by decide) (by decide +kernel) ch_2_2 dX4_readSitter_44 ?_
        refine z_bipush C (v := nI 6) dX4_readSitter_47 (by decide) ?_
        refine z_icmp_geF C 81 dX4_readSitter_49 (by decide) (by omega) (by omega) (by omega) ?_
        refine z_aload_n C dX4_readSitter_52 rfl (show zlk _ 0 = some (.ref (ad 1)) from rfl) ?_
        refine z_get C hinX4 1 cc_1 rfl 1 (by decide) (by decide +kernel) cg_1_1 dX4_readSitter_53 ?_
        refine z_getN C (host := "GnatPortraits") hinX0 2 cc_2 rfl 5 (by decide) (by decide +kernel) cg_2_5 dX4_readSitter_56 ?_
        refine z_aload_n C dX4_readSitter_59 rfl (show zlk _ 0 = some (.ref (ad 1)) from rfl) ?_
        refine z_get C hinX4 1 cc_1 rfl 1 (by decide) (by decide +kernel) cg_1_1 dX4_readSitter_60 ?_
        refine z_getN C (host := "GnatPortraits") hinX0 2 cc_2 rfl 2 (by decide) (by decide +kernel) ch_2_2 dX4_readSitter_63 ?_
        refine z_iload_n C dX4_readSitter_66 rfl (show zlk _ 1 = some (.int (((((rS (r 0) (n 2) (n 3) 1) ||| ((nI 0) <<< ((nI 6) &&& 31))) ||| ((nI 0) <<< ((nI 12) &&& 31))) ||| ((nI 0) <<< ((nI 18) &&& 31))) ||| ((nI 0) <<< ((nI 24) &&& 31)))) from rfl) ?_
        refine z_iast C (f := (r 1)) 12 ca_12 (n 6) rfl (by omega) (by decide) _ cs_12 dX4_readSitter_67 ?_
        refine z_aload_n C dX4_readSitter_68 rfl (show zlk _ 0 = some (.ref (ad 1)) from rfl) ?_
        refine z_get C hinX4 1 cc_1 rfl 1 (by decide) (by decide +kernel) cg_1_1 dX4_readSitter_69 ?_
        refine z_dup C dX4_readSitter_72 rfl ?_
        refine z_getN C (host := "GnatPortraits") hinX0 2 cc_2 rfl 2 (by decide) (by decide +kernel) ch_2_2 dX4_readSitter_73 ?_
        refine z_iconst C (v := nI 1) dX4_readSitter_76 (by decide) ?_
        refine z_iaddN C dX4_readSitter_77 ?_
        refine z_putN C (host := "GnatPortraits") hinX0 tyX0 tyX0_ok nmX0 2 cc_2 rfl 2 (by decide) (by decide +kernel) rfl rfl rfl rfl (Nat.le_of_ble_eq_true rfl) _ cv_2_2 dX4_readSitter_78 ?_
        exact E _ _ _ (Or.inl (by rw [hF5]; exact ⟨by simp, _, _, (show pb3 ≤ n 2 by omega), (cw_eq rfl rfl rfl rfl rfl rfl rfl rfl rfl rfl rfl rfl rfl rfl rfl rfl rfl rfl rfl rfl rfl rfl rfl rfl rfl rfl rfl rfl rfl rfl rfl rfl rfl rfl rfl rfl rfl rfl rfl rfl rfl rfl rfl rfl rfl rfl rfl rfl rfl rfl rfl)⟩)) dX4_readSitter_81
      · replace ea3 : sk (r 0) (n 2) (pg2 + 1) = pa3 := ea3
        replace eb3 : nE (r 0) (n 2) (pg2 + 1) = pb3 := eb3
        replace hA3 : nOk (r 0) (n 2) (pg2 + 1) = true := hA3
        replace hB3 : ¬ nBad (r 0) (n 2) (pg2 + 1) 0 63 := hB3
        have lb3 : pb3 ≤ n 2 := by rw [← eb3]; exact (nE_le (lq1)).2
        refine z_top (v' := .int (nI (nV (r 0) (n 2) (pg2 + 1)))) rfl ?_
        refine z_X (Y := CW θ ea ad (cnv (n 0) (n 1) (n 2) pb3 (n 4) (n 5) (n 6) (n 7) (n 8) (n 9) (n 10) (n 11) (n 12) (n 13) (n 14) (n 15) (n 16) (n 17) (n 18) (n 19) (n 20)) g b r V) (cw_eq rfl rfl rfl rfl rfl rfl rfl rfl rfl rfl rfl rfl rfl rfl rfl rfl rfl rfl rfl rfl rfl rfl rfl rfl rfl rfl rfl rfl rfl rfl rfl rfl rfl rfl rfl rfl rfl rfl rfl rfl rfl rfl rfl rfl rfl rfl rfl rfl rfl rfl rfl) ?_
        have hF2 : rF (r 0) (n 2) (n 3) 2 = (0, 0) := (rF_step (by rw [hF1]) (by show m_hr (r 0) (n 2) (sk (r 0) (n 2) (nE (r 0) (n 2) (rwq (r 0) (n 2) (n 3) 0))) = nI 44; rw [← hq0, eb1, eg2]; exact hs2)).trans (by rw [← hq1]; exact nF_C hA3 hB3)
        refine z_bipush C (v := nI 6) dX4_readSitter_27 (by decide) ?_
        refine z_iload_n C dX4_readSitter_29 rfl (show zlk _ 2 = some (.int (nI 1)) from rfl) ?_
        refine z_imulN C dX4_readSitter_30 ?_
        refine z_top (v' := .int (nI 6)) rfl ?_
        refine z_ishl C dX4_readSitter_31 ?_
        refine z_ior C dX4_readSitter_32 ?_
        refine z_top (v' := .int (rS (r 0) (n 2) (n 3) 2)) (by rw [hq1]; rfl) ?_
        refine z_istore_n C [(1, .int (rS (r 0) (n 2) (n 3) 2)), (2, .int (nI 1)), (0, .ref (ad 1))] dX4_readSitter_33 rfl (by decide) rfl ?_
        refine z_iincN C [(2, .int (nI 2)), (1, .int (rS (r 0) (n 2) (n 3) 2)), (0, .ref (ad 1))] dX4_readSitter_34 rfl (by decide) rfl ?_
        refine z_goto C 4 dX4_readSitter_37 (by decide) ?_
        refine z_iload_n C dX4_readSitter_4 rfl (show zlk _ 2 = some (.int (nI 2)) from rfl) ?_
        refine z_iconst C (v := nI 5) dX4_readSitter_5 (by decide) ?_
        refine z_icmp_geF C 40 dX4_readSitter_6 (by decide) (by omega) (by omega) (by decide) ?_
        refine z_iload_n C dX4_readSitter_9 rfl (show zlk _ 2 = some (.int (nI 2)) from rfl) ?_
        refine z_if_leN C 19 dX4_readSitter_10 (by decide) (by decide) (fun h => absurd h (by decide)) (fun _ => ?_)
        refine z_aload_n C dX4_readSitter_13 rfl (show zlk _ 0 = some (.ref (ad 1)) from rfl) ?_
        refine z_bipush C (v := nI 44) dX4_readSitter_14 (by decide) ?_
        refine z_callVv C (As := [.int (nI 44)]) (rest := []) (c_X4_readSign_2 l θ ea ad (cnv (n 0) (n 1) (n 2) pb3 (n 4) (n 5) (n 6) (n 7) (n 8) (n 9) (n 10) (n 11) (n 12) (n 13) (n 14) (n 15) (n 16) (n 17) (n 18) (n 19) (n 20)) g b r V (nI 44) (show n 4 = 0 from hf) (show pb3 ≤ 240 by omega) hL) gX4_readSitter_X4_readSign rfl 1 (by decide +kernel) (by decide) (by decide) 1 rfl rfl rfl rfl rfl (Nat.le_of_ble_eq_true rfl) dX4_readSitter_16 ?_
        rintro _ ⟨pg4, eg4, (⟨hs4, rfl⟩ | ⟨hs4, rfl⟩)⟩
        · replace eg4 : sk (r 0) (n 2) (pb3) = pg4 := eg4
          replace hs4 : m_hr (r 0) (n 2) pg4 = nI 44 := hs4
          have lg4 := hr_lt hs4 (by decide)
          refine z_X (Y := CW θ ea ad (cnv (n 0) (n 1) (n 2) (pg4 + 1) (n 4) (n 5) (n 6) (n 7) (n 8) (n 9) (n 10) (n 11) (n 12) (n 13) (n 14) (n 15) (n 16) (n 17) (n 18) (n 19) (n 20)) g b r V) (cw_eq rfl rfl rfl rfl rfl rfl rfl rfl rfl rfl rfl rfl rfl rfl rfl rfl rfl rfl rfl rfl rfl rfl rfl rfl rfl rfl rfl rfl rfl rfl rfl rfl rfl rfl rfl rfl rfl rfl rfl rfl rfl rfl rfl rfl rfl rfl rfl rfl rfl rfl rfl) ?_
          have hq2 : pg4 + 1 = rwq (r 0) (n 2) (n 3) 2 := by show pg4 + 1 = sk (r 0) (n 2) (nE (r 0) (n 2) (rwq (r 0) (n 2) (n 3) 1)) + 1; rw [← hq1, eb3, eg4]
          have lq2 : pg4 + 1 ≤ n 2 := lg4
          refine z_iload_n C dX4_readSitter_19 rfl (show zlk _ 1 = some (.int (rS (r 0) (n 2) (n 3) 2)) from rfl) ?_
          refine z_aload_n C dX4_readSitter_20 rfl (show zlk _ 0 = some (.ref (ad 1)) from rfl) ?_
          refine z_iconst C (v := nI 0) dX4_readSitter_21 (by decide) ?_
          refine z_bipush C (v := nI 63) dX4_readSitter_22 (by decide) ?_
          refine z_callVi C (As := [.int (nI 0), .int (nI 63)]) (rest := [.int (rS (r 0) (n 2) (n 3) 2)]) (c_X4_readNumber_2 l θ ea ad (cnv (n 0) (n 1) (n 2) (pg4 + 1) (n 4) (n 5) (n 6) (n 7) (n 8) (n 9) (n 10) (n 11) (n 12) (n 13) (n 14) (n 15) (n 16) (n 17) (n 18) (n 19) (n 20)) g b r V 0 63 (show n 4 = 0 from hf) (show pg4 + 1 ≤ n 2 from (lq2)) hL (by decide) (by decide)) gX4_readSitter_X4_readNumber rfl 2 (by decide +kernel) (by decide) (by decide) 1 rfl rfl rfl rfl rfl (Nat.le_of_ble_eq_true rfl) dX4_readSitter_24 ?_
          rintro _ _ ⟨pa5, pb5, ea5, eb5, (⟨hA5, rfl, rfl⟩ | ⟨hA5, hB5, rfl, rfl⟩ | ⟨hA5, hB5, rfl, rfl⟩)⟩
          · replace ea5 : sk (r 0) (n 2) (pg4 + 1) = pa5 := ea5
            replace eb5 : nE (r 0) (n 2) (pg4 + 1) = pb5 := eb5
            replace hA5 : nOk (r 0) (n 2) (pg4 + 1) = false := hA5
            have la5 : pa5 ≤ n 2 := by rw [← ea5]; exact (sk_le (lq2)).2
            refine z_X (Y := CW θ ea ad (cnv (n 0) (n 1) (n 2) pa5 1 (n 5) (n 6) (n 7) (n 8) (n 9) (n 10) (n 11) (n 12) (n 13) (n 14) (n 15) (n 16) (n 17) (n 18) (n 19) (n 20)) (cgv (g 0) (g 1) (nI pa5) (g 3) (g 4) (g 5) (g 6)) b r V) (cw_eq rfl rfl rfl rfl rfl rfl rfl rfl rfl rfl rfl rfl rfl rfl rfl rfl rfl rfl rfl rfl rfl rfl rfl rfl rfl rfl rfl rfl rfl rfl rfl rfl rfl rfl rfl rfl rfl rfl rfl rfl rfl rfl rfl rfl rfl rfl rfl rfl rfl rfl rfl) ?_
            have hFF : rF (r 0) (n 2) (n 3) 3 = (1, pa5) := (rF_step (by rw [hF2]) (by show m_hr (r 0) (n 2) (sk (r 0) (n 2) (nE (r 0) (n 2) (rwq (r 0) (n 2) (n 3) 1))) = nI 44; rw [← hq1, eb3, eg4]; exact hs4)).trans (by rw [← hq2]; exact (by rw [← ea5]; exact nF_A hA5 : nF (r 0) (n 2) (pg4 + 1) 0 63 = (1, pa5)))
            have hF5 : rF (r 0) (n 2) (n 3) 5 = (1, pa5) := (rF_up (i := 3) (by decide) (by rw [hFF]; simp)).trans hFF
            refine z_bipush C (v := nI 6) dX4_readSitter_27 (by decide) ?_
            refine z_iload_n C dX4_readSitter_29 rfl (show zlk _ 2 = some (.int (nI 2)) from rfl) ?_
            refine z_imulN C dX4_readSitter_30 ?_
            refine z_top (v' := .int (nI 12)) rfl ?_
            refine z_ishl C dX4_readSitter_31 ?_
            refine z_ior C dX4_readSitter_32 ?_
            refine z_istore_n C [(1, .int ((rS (r 0) (n 2) (n 3) 2) ||| ((nI 0) <<< ((nI 12) &&& 31)))), (2, .int (nI 2)), (0, .ref (ad 1))] dX4_readSitter_33 rfl (by decide) rfl ?_
            refine z_iincN C [(2, .int (nI 3)), (1, .int ((rS (r 0) (n 2) (n 3) 2) ||| ((nI 0) <<< ((nI 12) &&& 31)))), (0, .ref (ad 1))] dX4_readSitter_34 rfl (by decide) rfl ?_
            refine z_goto C 4 dX4_readSitter_37 (by decide) ?_
            refine z_iload_n C dX4_readSitter_4 rfl (show zlk _ 2 = some (.int (nI 3)) from rfl) ?_
            refine z_iconst C (v := nI 5) dX4_readSitter_5 (by decide) ?_
            refine z_icmp_geF C 40 dX4_readSitter_6 (by decide) (by omega) (by omega) (by decide) ?_
            refine z_iload_n C dX4_readSitter_9 rfl (show zlk _ 2 = some (.int (nI 3)) from rfl) ?_
            refine z_if_leN C 19 dX4_readSitter_10 (by decide) (by decide) (fun h => absurd h (by decide)) (fun _ => ?_)
            refine z_aload_n C dX4_readSitter_13 rfl (show zlk _ 0 = some (.ref (ad 1)) from rfl) ?_
            refine z_bipush C (v := nI 44) dX4_readSitter_14 (by decide) ?_
            refine z_callVv C (As := [.int (nI 44)]) (rest := []) (c_X4_readSign_1 l θ ea ad (cnv (n 0) (n 1) (n 2) pa5 1 (n 5) (n 6) (n 7) (n 8) (n 9) (n 10) (n 11) (n 12) (n 13) (n 14) (n 15) (n 16) (n 17) (n 18) (n 19) (n 20)) (cgv (g 0) (g 1) (nI pa5) (g 3) (g 4) (g 5) (g 6)) b r V (nI 44) (show ¬ 1 = 0 by decide) (show 1 < 2 ^ 31 by decide)) gX4_readSitter_X4_readSign rfl 1 (by decide +kernel) (by decide) (by decide) 1 rfl rfl rfl rfl rfl (Nat.le_of_ble_eq_true rfl) dX4_readSitter_16 ?_
            rintro _ rfl
            refine z_iload_n C dX4_readSitter_19 rfl (show zlk _ 1 = some (.int ((rS (r 0) (n 2) (n 3) 2) ||| ((nI 0) <<< ((nI 12) &&& 31)))) from rfl) ?_
            refine z_aload_n C dX4_readSitter_20 rfl (show zlk _ 0 = some (.ref (ad 1)) from rfl) ?_
            refine z_iconst C (v := nI 0) dX4_readSitter_21 (by decide) ?_
            refine z_bipush C (v := nI 63) dX4_readSitter_22 (by decide) ?_
            refine z_callVi C (As := [.int (nI 0), .int (nI 63)]) (rest := [.int ((rS (r 0) (n 2) (n 3) 2) ||| ((nI 0) <<< ((nI 12) &&& 31)))]) (c_X4_readNumber_1 l θ ea ad (cnv (n 0) (n 1) (n 2) pa5 1 (n 5) (n 6) (n 7) (n 8) (n 9) (n 10) (n 11) (n 12) (n 13) (n 14) (n 15) (n 16) (n 17) (n 18) (n 19) (n 20)) (cgv (g 0) (g 1) (nI pa5) (g 3) (g 4) (g 5) (g 6)) b r V 0 63 (show ¬ 1 = 0 by decide) (show 1 < 2 ^ 31 by decide)) gX4_readSitter_X4_readNumber rfl 2 (by decide +kernel) (by decide) (by decide) 1 rfl rfl rfl rfl rfl (Nat.le_of_ble_eq_true rfl) dX4_readSitter_24 ?_
            rintro _ _ ⟨rfl, rfl⟩
            refine z_top (v' := .int (nI 0)) rfl ?_
            refine z_bipush C (v := nI 6) dX4_readSitter_27 (by decide) ?_
            refine z_iload_n C dX4_readSitter_29 rfl (show zlk _ 2 = some (.int (nI 3)) from rfl) ?_
            refine z_imulN C dX4_readSitter_30 ?_
            refine z_top (v' := .int (nI 18)) rfl ?_
            refine z_ishl C dX4_readSitter_31 ?_
            refine z_ior C dX4_readSitter_32 ?_
            refine z_istore_n C [(1, .int (((rS (r 0) (n 2) (n 3) 2) ||| ((nI 0) <<< ((nI 12) &&& 31))) ||| ((nI 0) <<< ((nI 18) &&& 31)))), (2, .int (nI 3)), (0, .ref (ad 1))] dX4_readSitter_33 rfl (by decide) rfl ?_
            refine z_iincN C [(2, .int (nI 4)), (1, .int (((rS (r 0) (n 2) (n 3) 2) ||| ((nI 0) <<< ((nI 12) &&& 31))) ||| ((nI 0) <<< ((nI 18) &&& 31)))), (0, .ref (ad 1))] dX4_readSitter_34 rfl (by decide) rfl ?_
            refine z_goto C 4 dX4_readSitter_37 (by decide) ?_
            refine z_iload_n C dX4_readSitter_4 rfl (show zlk _ 2 = some (.int (nI 4)) from rfl) ?_
            refine z_iconst C (v := nI 5) dX4_readSitter_5 (by decide) ?_
            refine z_icmp_geF C 40 dX4_readSitter_6 (by decide) (by omega) (by omega) (by decide) ?_
            refine z_iload_n C dX4_readSitter_9 rfl (show zlk _ 2 = some (.int (nI 4)) from rfl) ?_
            refine z_if_leN C 19 dX4_readSitter_10 (by decide) (by decide) (fun h => absurd h (by decide)) (fun _ => ?_)
            refine z_aload_n C dX4_readSitter_13 rfl (show zlk _ 0 = some (.ref (ad 1)) from rfl) ?_
            refine z_bipush C (v := nI 44) dX4_readSitter_14 (by decide) ?_
            refine z_callVv C (As := [.int (nI 44)]) (rest := []) (c_X4_readSign_1 l θ ea ad (cnv (n 0) (n 1) (n 2) pa5 1 (n 5) (n 6) (n 7) (n 8) (n 9) (n 10) (n 11) (n 12) (n 13) (n 14) (n 15) (n 16) (n 17) (n 18) (n 19) (n 20)) (cgv (g 0) (g 1) (nI pa5) (g 3) (g 4) (g 5) (g 6)) b r V (nI 44) (show ¬ 1 = 0 by decide) (show 1 < 2 ^ 31 by decide)) gX4_readSitter_X4_readSign rfl 1 (by decide +kernel) (by decide) (by decide) 1 rfl rfl rfl rfl rfl (Nat.le_of_ble_eq_true rfl) dX4_readSitter_16 ?_
            rintro _ rfl
            refine z_iload_n C dX4_readSitter_19 rfl (show zlk _ 1 = some (.int (((rS (r 0) (n 2) (n 3) 2) ||| ((nI 0) <<< ((nI 12) &&& 31))) ||| ((nI 0) <<< ((nI 18) &&& 31)))) from rfl) ?_
            refine z_aload_n C dX4_readSitter_20 rfl (show zlk _ 0 = some (.ref (ad 1)) from rfl) ?_
            refine z_iconst C (v := nI 0) dX4_readSitter_21 (by decide) ?_
            refine z_bipush C (v := nI 63) dX4_readSitter_22 (by decide) ?_
            refine z_callVi C (As := [.int (nI 0), .int (nI 63)]) (rest := [.int (((rS (r 0) (n 2) (n 3) 2) ||| ((nI 0) <<< ((nI 12) &&& 31))) ||| ((nI 0) <<< ((nI 18) &&& 31)))]) (c_X4_readNumber_1 l θ ea ad (cnv (n 0) (n 1) (n 2) pa5 1 (n 5) (n 6) (n 7) (n 8) (n 9) (n 10) (n 11) (n 12) (n 13) (n 14) (n 15) (n 16) (n 17) (n 18) (n 19) (n 20)) (cgv (g 0) (g 1) (nI pa5) (g 3) (g 4) (g 5) (g 6)) b r V 0 63 (show ¬ 1 = 0 by decide) (show 1 < 2 ^ 31 by decide)) gX4_readSitter_X4_readNumber rfl 2 (by decide +kernel) (by decide) (by decide) 1 rfl rfl rfl rfl rfl (Nat.le_of_ble_eq_true rfl) dX4_readSitter_24 ?_
            rintro _ _ ⟨rfl, rfl⟩
            refine z_top (v' := .int (nI 0)) rfl ?_
            refine z_bipush C (v := nI 6) dX4_readSitter_27 (by decide) ?_
            refine z_iload_n C dX4_readSitter_29 rfl (show zlk _ 2 = some (.int (nI 4)) from rfl) ?_
            refine z_imulN C dX4_readSitter_30 ?_
            refine z_top (v' := .int (nI 24)) rfl ?_
            refine z_ishl C dX4_readSitter_31 ?_
            refine z_ior C dX4_readSitter_32 ?_
            refine z_istore_n C [(1, .int ((((rS (r 0) (n 2) (n 3) 2) ||| ((nI 0) <<< ((nI 12) &&& 31))) ||| ((nI 0) <<< ((nI 18) &&& 31))) ||| ((nI 0) <<< ((nI 24) &&& 31)))), (2, .int (nI 4)), (0, .ref (ad 1))] dX4_readSitter_33 rfl (by decide) rfl ?_
            refine z_iincN C [(2, .int (nI 5)), (1, .int ((((rS (r 0) (n 2) (n 3) 2) ||| ((nI 0) <<< ((nI 12) &&& 31))) ||| ((nI 0) <<< ((nI 18) &&& 31))) ||| ((nI 0) <<< ((nI 24) &&& 31)))), (0, .ref (ad 1))] dX4_readSitter_34 rfl (by decide) rfl ?_
            refine z_goto C 4 dX4_readSitter_37 (by decide) ?_
            refine z_iload_n C dX4_readSitter_4 rfl (show zlk _ 2 = some (.int (nI 5)) from rfl) ?_
            refine z_iconst C (v := nI 5) dX4_readSitter_5 (by decide) ?_
            refine z_icmp_geT C 40 dX4_readSitter_6 (by decide) (by omega) (by omega) (by decide) ?_
            refine z_aload_n C dX4_readSitter_40 rfl (show zlk _ 0 = some (.ref (ad 1)) from rfl) ?_
            refine z_get C hinX4 1 cc_1 rfl 1 (by decide) (by decide +kernel) cg_1_1 dX4_readSitter_41 ?_
            refine z_getN C (host := "GnatPortraits") hinX0 2 cc_2 rfl 2 (by decide) (by decide +kernel) ch_2_2 dX4_readSitter_44 ?_
            refine z_bipush C (v := nI 6) dX4_readSitter_47 (by decide) ?_
            refine z_icmp_geF C 81 dX4_readSitter_49 (by decide) (by omega) (by omega) (by omega) ?_
            refine z_aload_n C dX4_readSitter_52 rfl (show zlk _ 0 = some (.ref (ad 1)) from rfl) ?_
            refine z_get C hinX4 1 cc_1 rfl 1 (by decide) (by decide +kernel) cg_1_1 dX4_readSitter_53 ?_
            refine z_getN C (host := "GnatPortraits") hinX0 2 cc_2 rfl 5 (by decide) (by decide +kernel) cg_2_5 dX4_readSitter_56 ?_
            refine z_aload_n C dX4_readSitter_59 rfl (show zlk _ 0 = some (.ref (ad 1)) from rfl) ?_
            refine z_get C hinX4 1 cc_1 rfl 1 (by decide) (by decide +kernel) cg_1_1 dX4_readSitter_60 ?_
            refine z_getN C (host := "GnatPortraits") hinX0 2 cc_2 rfl 2 (by decide) (by decide +kernel) ch_2_2 dX4_readSitter_63 ?_
            refine z_iload_n C dX4_readSitter_66 rfl (show zlk _ 1 = some (.int ((((rS (r 0) (n 2) (n 3) 2) ||| ((nI 0) <<< ((nI 12) &&& 31))) ||| ((nI 0) <<< ((nI 18) &&& 31))) ||| ((nI 0) <<< ((nI 24) &&& 31)))) from rfl) ?_
            refine z_iast C (f := (r 1)) 12 ca_12 (n 6) rfl (by omega) (by decide) _ cs_12 dX4_readSitter_67 ?_
            refine z_aload_n C dX4_readSitter_68 rfl (show zlk _ 0 = some (.ref (ad 1)) from rfl) ?_
            refine z_get C hinX4 1 cc_1 rfl 1 (by decide) (by decide +kernel) cg_1_1 dX4_readSitter_69 ?_
            refine z_dup C dX4_readSitter_72 rfl ?_
            refine z_getN C (host := "GnatPortraits") hinX0 2 cc_2 rfl 2 (by decide) (by decide +kernel) ch_2_2 dX4_readSitter_73 ?_
            refine z_iconst C (v := nI 1) dX4_readSitter_76 (by decide) ?_
            refine z_iaddN C dX4_readSitter_77 ?_
            refine z_putN C (host := "GnatPortraits") hinX0 tyX0 tyX0_ok nmX0 2 cc_2 rfl 2 (by decide) (by decide +kernel) rfl rfl rfl rfl (Nat.le_of_ble_eq_true rfl) _ cv_2_2 dX4_readSitter_78 ?_
            exact E _ _ _ (Or.inl (by rw [hF5]; exact ⟨by simp, _, _, (show pa5 ≤ n 2 by omega), (cw_eq rfl rfl rfl rfl rfl rfl rfl rfl rfl rfl rfl rfl rfl rfl rfl rfl rfl rfl rfl rfl rfl rfl rfl rfl rfl rfl rfl rfl rfl rfl rfl rfl rfl rfl rfl rfl rfl rfl rfl rfl rfl rfl rfl rfl rfl rfl rfl rfl rfl rfl rfl)⟩)) dX4_readSitter_81
          · replace ea5 : sk (r 0) (n 2) (pg4 + 1) = pa5 := ea5
            replace eb5 : nE (r 0) (n 2) (pg4 + 1) = pb5 := eb5
            replace hA5 : nOk (r 0) (n 2) (pg4 + 1) = true := hA5
            replace hB5 : nBad (r 0) (n 2) (pg4 + 1) 0 63 := hB5
            have lb5 : pb5 ≤ n 2 := by rw [← eb5]; exact (nE_le (lq2)).2
            refine z_X (Y := CW θ ea ad (cnv (n 0) (n 1) (n 2) pb5 2 (n 5) (n 6) (n 7) (n 8) (n 9) (n 10) (n 11) (n 12) (n 13) (n 14) (n 15) (n 16) (n 17) (n 18) (n 19) (n 20)) (cgv (g 0) (g 1) (nI pa5) (g 3) (g 4) (g 5) (g 6)) b r V) (cw_eq rfl rfl rfl rfl rfl rfl rfl rfl rfl rfl rfl rfl rfl rfl rfl rfl rfl rfl rfl rfl rfl rfl rfl rfl rfl rfl rfl rfl rfl rfl rfl rfl rfl rfl rfl rfl rfl rfl rfl rfl rfl rfl rfl rfl rfl rfl rfl rfl rfl rfl rfl) ?_
            have hFF : rF (r 0) (n 2) (n 3) 3 = (2, pa5) := (rF_step (by rw [hF2]) (by show m_hr (r 0) (n 2) (sk (r 0) (n 2) (nE (r 0) (n 2) (rwq (r 0) (n 2) (n 3) 1))) = nI 44; rw [← hq1, eb3, eg4]; exact hs4)).trans (by rw [← hq2]; exact (by rw [← ea5]; exact nF_B hA5 hB5 : nF (r 0) (n 2) (pg4 + 1) 0 63 = (2, pa5)))
            have hF5 : rF (r 0) (n 2) (n 3) 5 = (2, pa5) := (rF_up (i := 3) (by decide) (by rw [hFF]; simp)).trans hFF
            refine z_bipush C (v := nI 6) dX4_readSitter_27 (by decide) ?_
            refine z_iload_n C dX4_readSitter_29 rfl (show zlk _ 2 = some (.int (nI 2)) from rfl) ?_
            refine z_imulN C dX4_readSitter_30 ?_
            refine z_top (v' := .int (nI 12)) rfl ?_
            refine z_ishl C dX4_readSitter_31 ?_
            refine z_ior C dX4_readSitter_32 ?_
            refine z_istore_n C [(1, .int ((rS (r 0) (n 2) (n 3) 2) ||| ((nI 0) <<< ((nI 12) &&& 31)))), (2, .int (nI 2)), (0, .ref (ad 1))] dX4_readSitter_33 rfl (by decide) rfl ?_
            refine z_iincN C [(2, .int (nI 3)), (1, .int ((rS (r 0) (n 2) (n 3) 2) ||| ((nI 0) <<< ((nI 12) &&& 31)))), (0, .ref (ad 1))] dX4_readSitter_34 rfl (by decide) rfl ?_
            refine z_goto C 4 dX4_readSitter_37 (by decide) ?_
            refine z_iload_n C dX4_readSitter_4 rfl (show zlk _ 2 = some (.int (nI 3)) from rfl) ?_
            refine z_iconst C (v := nI 5) dX4_readSitter_5 (by decide) ?_
            refine z_icmp_geF C 40 dX4_readSitter_6 (by decide) (by omega) (by omega) (by decide) ?_
            refine z_iload_n C dX4_readSitter_9 rfl (show zlk _ 2 = some (.int (nI 3)) from rfl) ?_
            refine z_if_leN C 19 dX4_readSitter_10 (by decide) (by decide) (fun h => absurd h (by decide)) (fun _ => ?_)
            refine z_aload_n C dX4_readSitter_13 rfl (show zlk _ 0 = some (.ref (ad 1)) from rfl) ?_
            refine z_bipush C (v := nI 44) dX4_readSitter_14 (by decide) ?_
            refine z_callVv C (As := [.int (nI 44)]) (rest := []) (c_X4_readSign_1 l θ ea ad (cnv (n 0) (n 1) (n 2) pb5 2 (n 5) (n 6) (n 7) (n 8) (n 9) (n 10) (n 11) (n 12) (n 13) (n 14) (n 15) (n 16) (n 17) (n 18) (n 19) (n 20)) (cgv (g 0) (g 1) (nI pa5) (g 3) (g 4) (g 5) (g 6)) b r V (nI 44) (show ¬ 2 = 0 by decide) (show 2 < 2 ^ 31 by decide)) gX4_readSitter_X4_readSign rfl 1 (by decide +kernel) (by decide) (by decide) 1 rfl rfl rfl rfl rfl (Nat.le_of_ble_eq_true rfl) dX4_readSitter_16 ?_
            rintro _ rfl
            refine z_iload_n C dX4_readSitter_19 rfl (show zlk _ 1 = some (.int ((rS (r 0) (n 2) (n 3) 2) ||| ((nI 0) <<< ((nI 12) &&& 31)))) from rfl) ?_
            refine z_aload_n C dX4_readSitter_20 rfl (show zlk _ 0 = some (.ref (ad 1)) from rfl) ?_
            refine z_iconst C (v := nI 0) dX4_readSitter_21 (by decide) ?_
            refine z_bipush C (v := nI 63) dX4_readSitter_22 (by decide) ?_
            refine z_callVi C (As := [.int (nI 0), .int (nI 63)]) (rest := [.int ((rS (r 0) (n 2) (n 3) 2) ||| ((nI 0) <<< ((nI 12) &&& 31)))]) (c_X4_readNumber_1 l θ ea ad (cnv (n 0) (n 1) (n 2) pb5 2 (n 5) (n 6) (n 7) (n 8) (n 9) (n 10) (n 11) (n 12) (n 13) (n 14) (n 15) (n 16) (n 17) (n 18) (n 19) (n 20)) (cgv (g 0) (g 1) (nI pa5) (g 3) (g 4) (g 5) (g 6)) b r V 0 63 (show ¬ 2 = 0 by decide) (show 2 < 2 ^ 31 by decide)) gX4_readSitter_X4_readNumber rfl 2 (by decide +kernel) (by decide) (by decide) 1 rfl rfl rfl rfl rfl (Nat.le_of_ble_eq_true rfl) dX4_readSitter_24 ?_
            rintro _ _ ⟨rfl, rfl⟩
            refine z_top (v' := .int (nI 0)) rfl ?_
            refine z_bipush C (v := nI 6) dX4_readSitter_27 (by decide) ?_
            refine z_iload_n C dX4_readSitter_29 rfl (show zlk _ 2 = some (.int (nI 3)) from rfl) ?_
            refine z_imulN C dX4_readSitter_30 ?_
            refine z_top (v' := .int (nI 18)) rfl ?_
            refine z_ishl C dX4_readSitter_31 ?_
            refine z_ior C dX4_readSitter_32 ?_
            refine z_istore_n C [(1, .int (((rS (r 0) (n 2) (n 3) 2) ||| ((nI 0) <<< ((nI 12) &&& 31))) ||| ((nI 0) <<< ((nI 18) &&& 31)))), (2, .int (nI 3)), (0, .ref (ad 1))] dX4_readSitter_33 rfl (by decide) rfl ?_
            refine z_iincN C [(2, .int (nI 4)), (1, .int (((rS (r 0) (n 2) (n 3) 2) ||| ((nI 0) <<< ((nI 12) &&& 31))) ||| ((nI 0) <<< ((nI 18) &&& 31)))), (0, .ref (ad 1))] dX4_readSitter_34 rfl (by decide) rfl ?_
            refine z_goto C 4 dX4_readSitter_37 (by decide) ?_
            refine z_iload_n C dX4_readSitter_4 rfl (show zlk _ 2 = some (.int (nI 4)) from rfl) ?_
            refine z_iconst C (v := nI 5) dX4_readSitter_5 (by decide) ?_
            refine z_icmp_geF C 40 dX4_readSitter_6 (by decide) (by omega) (by omega) (by decide) ?_
            refine z_iload_n C dX4_readSitter_9 rfl (show zlk _ 2 = some (.int (nI 4)) from rfl) ?_
            refine z_if_leN C 19 dX4_readSitter_10 (by decide) (by decide) (fun h => absurd h (by decide)) (fun _ => ?_)
            refine z_aload_n C dX4_readSitter_13 rfl (show zlk _ 0 = some (.ref (ad 1)) from rfl) ?_
            refine z_bipush C (v := nI 44) dX4_readSitter_14 (by decide) ?_
            refine z_callVv C (As := [.int (nI 44)]) (rest := []) (c_X4_readSign_1 l θ ea ad (cnv (n 0) (n 1) (n 2) pb5 2 (n 5) (n 6) (n 7) (n 8) (n 9) (n 10) (n 11) (n 12) (n 13) (n 14) (n 15) (n 16) (n 17) (n 18) (n 19) (n 20)) (cgv (g 0) (g 1) (nI pa5) (g 3) (g 4) (g 5) (g 6)) b r V (nI 44) (show ¬ 2 = 0 by decide) (show 2 < 2 ^ 31 by decide)) gX4_readSitter_X4_readSign rfl 1 (by decide +kernel) (by decide) (by decide) 1 rfl rfl rfl rfl rfl (Nat.le_of_ble_eq_true rfl) dX4_readSitter_16 ?_
            rintro _ rfl
            refine z_iload_n C dX4_readSitter_19 rfl (show zlk _ 1 = some (.int (((rS (r 0) (n 2) (n 3) 2) ||| ((nI 0) <<< ((nI 12) &&& 31))) ||| ((nI 0) <<< ((nI 18) &&& 31)))) from rfl) ?_
            refine z_aload_n C dX4_readSitter_20 rfl (show zlk _ 0 = some (.ref (ad 1)) from rfl) ?_
            refine z_iconst C (v := nI 0) dX4_readSitter_21 (by decide) ?_
            refine z_bipush C (v := nI 63) dX4_readSitter_22 (by decide) ?_
            refine z_callVi C (As := [.int (nI 0), .int (nI 63)]) (rest := [.int (((rS (r 0) (n 2) (n 3) 2) ||| ((nI 0) <<< ((nI 12) &&& 31))) ||| ((nI 0) <<< ((nI 18) &&& 31)))]) (c_X4_readNumber_1 l θ ea ad (cnv (n 0) (n 1) (n 2) pb5 2 (n 5) (n 6) (n 7) (n 8) (n 9) (n 10) (n 11) (n 12) (n 13) (n 14) (n 15) (n 16) (n 17) (n 18) (n 19) (n 20)) (cgv (g 0) (g 1) (nI pa5) (g 3) (g 4) (g 5) (g 6)) b r V 0 63 (show ¬ 2 = 0 by decide) (show 2 < 2 ^ 31 by decide)) gX4_readSitter_X4_readNumber rfl 2 (by decide +kernel) (by decide) (by decide) 1 rfl rfl rfl rfl rfl (Nat.le_of_ble_eq_true rfl) dX4_readSitter_24 ?_
            rintro _ _ ⟨rfl, rfl⟩
            refine z_top (v' := .int (nI 0)) rfl ?_
            refine z_bipush C (v := nI 6) dX4_readSitter_27 (by decide) ?_
            refine z_iload_n C dX4_readSitter_29 rfl (show zlk _ 2 = some (.int (nI 4)) from rfl) ?_
            refine z_imulN C dX4_readSitter_30 ?_
            refine z_top (v' := .int (nI 24)) rfl ?_
            refine z_ishl C dX4_readSitter_31 ?_
            refine z_ior C dX4_readSitter_32 ?_
            refine z_istore_n C [(1, .int ((((rS (r 0) (n 2) (n 3) 2) ||| ((nI 0) <<< ((nI 12) &&& 31))) ||| ((nI 0) <<< ((nI 18) &&& 31))) ||| ((nI 0) <<< ((nI 24) &&& 31)))), (2, .int (nI 4)), (0, .ref (ad 1))] dX4_readSitter_33 rfl (by decide) rfl ?_
            refine z_iincN C [(2, .int (nI 5)), (1, .int ((((rS (r 0) (n 2) (n 3) 2) ||| ((nI 0) <<< ((nI 12) &&& 31))) ||| ((nI 0) <<< ((nI 18) &&& 31))) ||| ((nI 0) <<< ((nI 24) &&& 31)))), (0, .ref (ad 1))] dX4_readSitter_34 rfl (by decide) rfl ?_
            refine z_goto C 4 dX4_readSitter_37 (by decide) ?_
            refine z_iload_n C dX4_readSitter_4 rfl (show zlk _ 2 = some (.int (nI 5)) from rfl) ?_
            refine z_iconst C (v := nI 5) dX4_readSitter_5 (by decide) ?_
            refine z_icmp_geT C 40 dX4_readSitter_6 (by decide) (by omega) (by omega) (by decide) ?_
            refine z_aload_n C dX4_readSitter_40 rfl (show zlk _ 0 = some (.ref (ad 1)) from rfl) ?_
            refine z_get C hinX4 1 cc_1 rfl 1 (by decide) (by decide +kernel) cg_1_1 dX4_readSitter_41 ?_
            refine z_getN C (host := "GnatPortraits") hinX0 2 cc_2 rfl 2 (by decide) (by decide +kernel) ch_2_2 dX4_readSitter_44 ?_
            refine z_bipush C (v := nI 6) dX4_readSitter_47 (by decide) ?_
            refine z_icmp_geF C 81 dX4_readSitter_49 (by decide) (by omega) (by omega) (by omega) ?_
            refine z_aload_n C dX4_readSitter_52 rfl (show zlk _ 0 = some (.ref (ad 1)) from rfl) ?_
            refine z_get C hinX4 1 cc_1 rfl 1 (by decide) (by decide +kernel) cg_1_1 dX4_readSitter_53 ?_
            refine z_getN C (host := "GnatPortraits") hinX0 2 cc_2 rfl 5 (by decide) (by decide +kernel) cg_2_5 dX4_readSitter_56 ?_
            refine z_aload_n C dX4_readSitter_59 rfl (show zlk _ 0 = some (.ref (ad 1)) from rfl) ?_
            refine z_get C hinX4 1 cc_1 rfl 1 (by decide) (by decide +kernel) cg_1_1 dX4_readSitter_60 ?_
            refine z_getN C (host := "GnatPortraits") hinX0 2 cc_2 rfl 2 (by decide) (by decide +kernel) ch_2_2 dX4_readSitter_63 ?_
            refine z_iload_n C dX4_readSitter_66 rfl (show zlk _ 1 = some (.int ((((rS (r 0) (n 2) (n 3) 2) ||| ((nI 0) <<< ((nI 12) &&& 31))) ||| ((nI 0) <<< ((nI 18) &&& 31))) ||| ((nI 0) <<< ((nI 24) &&& 31)))) from rfl) ?_
            refine z_iast C (f := (r 1)) 12 ca_12 (n 6) rfl (by omega) (by decide) _ cs_12 dX4_readSitter_67 ?_
            refine z_aload_n C dX4_readSitter_68 rfl (show zlk _ 0 = some (.ref (ad 1)) from rfl) ?_
            refine z_get C hinX4 1 cc_1 rfl 1 (by decide) (by decide +kernel) cg_1_1 dX4_readSitter_69 ?_
            refine z_dup C dX4_readSitter_72 rfl ?_
            refine z_getN C (host := "GnatPortraits") hinX0 2 cc_2 rfl 2 (by decide) (by decide +kernel) ch_2_2 dX4_readSitter_73 ?_
            refine z_iconst C (v := nI 1) dX4_readSitter_76 (by decide) ?_
            refine z_iaddN C dX4_readSitter_77 ?_
            refine z_putN C (host := "GnatPortraits") hinX0 tyX0 tyX0_ok nmX0 2 cc_2 rfl 2 (by decide) (by decide +kernel) rfl rfl rfl rfl (Nat.le_of_ble_eq_true rfl) _ cv_2_2 dX4_readSitter_78 ?_
            exact E _ _ _ (Or.inl (by rw [hF5]; exact ⟨by simp, _, _, (show pb5 ≤ n 2 by omega), (cw_eq rfl rfl rfl rfl rfl rfl rfl rfl rfl rfl rfl rfl rfl rfl rfl rfl rfl rfl rfl rfl rfl rfl rfl rfl rfl rfl rfl rfl rfl rfl rfl rfl rfl rfl rfl rfl rfl rfl rfl rfl rfl rfl rfl rfl rfl rfl rfl rfl rfl rfl rfl)⟩)) dX4_readSitter_81
          · replace ea5 : sk (r 0) (n 2) (pg4 + 1) = pa5 := ea5
            replace eb5 : nE (r 0) (n 2) (pg4 + 1) = pb5 := eb5
            replace hA5 : nOk (r 0) (n 2) (pg4 + 1) = true := hA5
            replace hB5 : ¬ nBad (r 0) (n 2) (pg4 + 1) 0 63 := hB5
            have lb5 : pb5 ≤ n 2 := by rw [← eb5]; exact (nE_le (lq2)).2
            refine z_top (v' := .int (nI (nV (r 0) (n 2) (pg4 + 1)))) rfl ?_
            refine z_X (Y := CW θ ea ad (cnv (n 0) (n 1) (n 2) pb5 (n 4) (n 5) (n 6) (n 7) (n 8) (n 9) (n 10) (n 11) (n 12) (n 13) (n 14) (n 15) (n 16) (n 17) (n 18) (n 19) (n 20)) g b r V) (cw_eq rfl rfl rfl rfl rfl rfl rfl rfl rfl rfl rfl rfl rfl rfl rfl rfl rfl rfl rfl rfl rfl rfl rfl rfl rfl rfl rfl rfl rfl rfl rfl rfl rfl rfl rfl rfl rfl rfl rfl rfl rfl rfl rfl rfl rfl rfl rfl rfl rfl rfl rfl) ?_
            have hF3 : rF (r 0) (n 2) (n 3) 3 = (0, 0) := (rF_step (by rw [hF2]) (by show m_hr (r 0) (n 2) (sk (r 0) (n 2) (nE (r 0) (n 2) (rwq (r 0) (n 2) (n 3) 1))) = nI 44; rw [← hq1, eb3, eg4]; exact hs4)).trans (by rw [← hq2]; exact nF_C hA5 hB5)
            refine z_bipush C (v := nI 6) dX4_readSitter_27 (by decide) ?_
            refine z_iload_n C dX4_readSitter_29 rfl (show zlk _ 2 = some (.int (nI 2)) from rfl) ?_
            refine z_imulN C dX4_readSitter_30 ?_
            refine z_top (v' := .int (nI 12)) rfl ?_
            refine z_ishl C dX4_readSitter_31 ?_
            refine z_ior C dX4_readSitter_32 ?_
            refine z_top (v' := .int (rS (r 0) (n 2) (n 3) 3)) (by rw [hq2]; rfl) ?_
            refine z_istore_n C [(1, .int (rS (r 0) (n 2) (n 3) 3)), (2, .int (nI 2)), (0, .ref (ad 1))] dX4_readSitter_33 rfl (by decide) rfl ?_
            refine z_iincN C [(2, .int (nI 3)), (1, .int (rS (r 0) (n 2) (n 3) 3)), (0, .ref (ad 1))] dX4_readSitter_34 rfl (by decide) rfl ?_
            refine z_goto C 4 dX4_readSitter_37 (by decide) ?_
            refine z_iload_n C dX4_readSitter_4 rfl (show zlk _ 2 = some (.int (nI 3)) from rfl) ?_
            refine z_iconst C (v := nI 5) dX4_readSitter_5 (by decide) ?_
            refine z_icmp_geF C 40 dX4_readSitter_6 (by decide) (by omega) (by omega) (by decide) ?_
            refine z_iload_n C dX4_readSitter_9 rfl (show zlk _ 2 = some (.int (nI 3)) from rfl) ?_
            refine z_if_leN C 19 dX4_readSitter_10 (by decide) (by decide) (fun h => absurd h (by decide)) (fun _ => ?_)
            refine z_aload_n C dX4_readSitter_13 rfl (show zlk _ 0 = some (.ref (ad 1)) from rfl) ?_
            refine z_bipush C (v := nI 44) dX4_readSitter_14 (by decide) ?_
            refine z_callVv C (As := [.int (nI 44)]) (rest := []) (c_X4_readSign_2 l θ ea ad (cnv (n 0) (n 1) (n 2) pb5 (n 4) (n 5) (n 6) (n 7) (n 8) (n 9) (n 10) (n 11) (n 12) (n 13) (n 14) (n 15) (n 16) (n 17) (n 18) (n 19) (n 20)) g b r V (nI 44) (show n 4 = 0 from hf) (show pb5 ≤ 240 by omega) hL) gX4_readSitter_X4_readSign rfl 1 (by decide +kernel) (by decide) (by decide) 1 rfl rfl rfl rfl rfl (Nat.le_of_ble_eq_true rfl) dX4_readSitter_16 ?_
            rintro _ ⟨pg6, eg6, (⟨hs6, rfl⟩ | ⟨hs6, rfl⟩)⟩
            · replace eg6 : sk (r 0) (n 2) (pb5) = pg6 := eg6
              replace hs6 : m_hr (r 0) (n 2) pg6 = nI 44 := hs6
              have lg6 := hr_lt hs6 (by decide)
              refine z_X (Y := CW θ ea ad (cnv (n 0) (n 1) (n 2) (pg6 + 1) (n 4) (n 5) (n 6) (n 7) (n 8) (n 9) (n 10) (n 11) (n 12) (n 13) (n 14) (n 15) (n 16) (n 17) (n 18) (n 19) (n 20)) g b r V) (cw_eq rfl rfl rfl rfl rfl rfl rfl rfl rfl rfl rfl rfl rfl rfl rfl rfl rfl rfl rfl rfl rfl rfl rfl rfl rfl rfl rfl rfl rfl rfl rfl rfl rfl rfl rfl rfl rfl rfl rfl rfl rfl rfl rfl rfl rfl rfl rfl rfl rfl rfl rfl) ?_
              have hq3 : pg6 + 1 = rwq (r 0) (n 2) (n 3) 3 := by show pg6 + 1 = sk (r 0) (n 2) (nE (r 0) (n 2) (rwq (r 0) (n 2) (n 3) 2)) + 1; rw [← hq2, eb5, eg6]
              have lq3 : pg6 + 1 ≤ n 2 := lg6
              refine z_iload_n C dX4_readSitter_19 rfl (show zlk _ 1 = some (.int (rS (r 0) (n 2) (n 3) 3)) from rfl) ?_
              refine z_aload_n C dX4_readSitter_20 rfl (show zlk _ 0 = some (.ref (ad 1)) from rfl) ?_
              refine z_iconst C (v := nI 0) dX4_readSitter_21 (by decide) ?_
              refine z_bipush C (v := nI 63) dX4_readSitter_22 (by decide) ?_
              refine z_callVi C (As := [.int (nI 0), .int (nI 63)]) (rest := [.int (rS (r 0) (n 2) (n 3) 3)]) (c_X4_readNumber_2 l θ ea ad (cnv (n 0) (n 1) (n 2) (pg6 + 1) (n 4) (n 5) (n 6) (n 7) (n 8) (n 9) (n 10) (n 11) (n 12) (n 13) (n 14) (n 15) (n 16) (n 17) (n 18) (n 19) (n 20)) g b r V 0 63 (show n 4 = 0 from hf) (show pg6 + 1 ≤ n 2 from (lq3)) hL (by decide) (by decide)) gX4_readSitter_X4_readNumber rfl 2 (by decide +kernel) (by decide) (by decide) 1 rfl rfl rfl rfl rfl (Nat.le_of_ble_eq_true rfl) dX4_readSitter_24 ?_
              rintro _ _ ⟨pa7, pb7, ea7, eb7, (⟨hA7, rfl, rfl⟩ | ⟨hA7, hB7, rfl, rfl⟩ | ⟨hA7, hB7, rfl, rfl⟩)⟩
              · replace ea7 : sk (r 0) (n 2) (pg6 + 1) = pa7 := ea7
                replace eb7 : nE (r 0) (n 2) (pg6 + 1) = pb7 := eb7
                replace hA7 : nOk (r 0) (n 2) (pg6 + 1) = false := hA7
                have la7 : pa7 ≤ n 2 := by rw [← ea7]; exact (sk_le (lq3)).2
                refine z_X (Y := CW θ ea ad (cnv (n 0) (n 1) (n 2) pa7 1 (n 5) (n 6) (n 7) (n 8) (n 9) (n 10) (n 11) (n 12) (n 13) (n 14) (n 15) (n 16) (n 17) (n 18) (n 19) (n 20)) (cgv (g 0) (g 1) (nI pa7) (g 3) (g 4) (g 5) (g 6)) b r V) (cw_eq rfl rfl rfl rfl rfl rfl rfl rfl rfl rfl rfl rfl rfl rfl rfl rfl rfl rfl rfl rfl rfl rfl rfl rfl rfl rfl rfl rfl rfl rfl rfl rfl rfl rfl rfl rfl rfl rfl rfl rfl rfl rfl rfl rfl rfl rfl rfl rfl rfl rfl rfl) ?_
                have hFF : rF (r 0) (n 2) (n 3) 4 = (1, pa7) := (rF_step (by rw [hF3]) (by show m_hr (r 0) (n 2) (sk (r 0) (n 2) (nE (r 0) (n 2) (rwq (r 0) (n 2) (n 3) 2))) = nI 44; rw [← hq2, eb5, eg6]; exact hs6)).trans (by rw [← hq3]; exact (by rw [← ea7]; exact nF_A hA7 : nF (r 0) (n 2) (pg6 + 1) 0 63 = (1, pa7)))
                have hF5 : rF (r 0) (n 2) (n 3) 5 = (1, pa7) := (rF_up (i := 4) (by decide) (by rw [hFF]; simp)).trans hFF
                refine z_bipush C (v := nI 6) dX4_readSitter_27 (by decide) ?_
                refine z_iload_n C dX4_readSitter_29 rfl (show zlk _ 2 = some (.int (nI 3)) from rfl) ?_
                refine z_imulN C dX4_readSitter_30 ?_
                refine z_top (v' := .int (nI 18)) rfl ?_
                refine z_ishl C dX4_readSitter_31 ?_
                refine z_ior C dX4_readSitter_32 ?_
                refine z_istore_n C [(1, .int ((rS (r 0) (n 2) (n 3) 3) ||| ((nI 0) <<< ((nI 18) &&& 31)))), (2, .int (nI 3)), (0, .ref (ad 1))] dX4_readSitter_33 rfl (by decide) rfl ?_
                refine z_iincN C [(2, .int (nI 4)), (1, .int ((rS (r 0) (n 2) (n 3) 3) ||| ((nI 0) <<< ((nI 18) &&& 31)))), (0, .ref (ad 1))] dX4_readSitter_34 rfl (by decide) rfl ?_
                refine z_goto C 4 dX4_readSitter_37 (by decide) ?_
                refine z_iload_n C dX4_readSitter_4 rfl (show zlk _ 2 = some (.int (nI 4)) from rfl) ?_
                refine z_iconst C (v := nI 5) dX4_readSitter_5 (by decide) ?_
                refine z_icmp_geF C 40 dX4_readSitter_6 (by decide) (by omega) (by omega) (by decide) ?_
                refine z_iload_n C dX4_readSitter_9 rfl (show zlk _ 2 = some (.int (nI 4)) from rfl) ?_
                refine z_if_leN C 19 dX4_readSitter_10 (by decide) (by decide) (fun h => absurd h (by decide)) (fun _ => ?_)
                refine z_aload_n C dX4_readSitter_13 rfl (show zlk _ 0 = some (.ref (ad 1)) from rfl) ?_
                refine z_bipush C (v := nI 44) dX4_readSitter_14 (by decide) ?_
                refine z_callVv C (As := [.int (nI 44)]) (rest := []) (c_X4_readSign_1 l θ ea ad (cnv (n 0) (n 1) (n 2) pa7 1 (n 5) (n 6) (n 7) (n 8) (n 9) (n 10) (n 11) (n 12) (n 13) (n 14) (n 15) (n 16) (n 17) (n 18) (n 19) (n 20)) (cgv (g 0) (g 1) (nI pa7) (g 3) (g 4) (g 5) (g 6)) b r V (nI 44) (show ¬ 1 = 0 by decide) (show 1 < 2 ^ 31 by decide)) gX4_readSitter_X4_readSign rfl 1 (by decide +kernel) (by decide) (by decide) 1 rfl rfl rfl rfl rfl (Nat.le_of_ble_eq_true rfl) dX4_readSitter_16 ?_
                rintro _ rfl
                refine z_iload_n C dX4_readSitter_19 rfl (show zlk _ 1 = some (.int ((rS (r 0) (n 2) (n 3) 3) ||| ((nI 0) <<< ((nI 18) &&& 31)))) from rfl) ?_
                refine z_aload_n C dX4_readSitter_20 rfl (show zlk _ 0 = some (.ref (ad 1)) from rfl) ?_
                refine z_iconst C (v := nI 0) dX4_readSitter_21 (by decide) ?_
                refine z_bipush C (v := nI 63) dX4_readSitter_22 (by decide) ?_
                refine z_callVi C (As := [.int (nI 0), .int (nI 63)]) (rest := [.int ((rS (r 0) (n 2) (n 3) 3) ||| ((nI 0) <<< ((nI 18) &&& 31)))]) (c_X4_readNumber_1 l θ ea ad (cnv (n 0) (n 1) (n 2) pa7 1 (n 5) (n 6) (n 7) (n 8) (n 9) (n 10) (n 11) (n 12) (n 13) (n 14) (n 15) (n 16) (n 17) (n 18) (n 19) (n 20)) (cgv (g 0) (g 1) (nI pa7) (g 3) (g 4) (g 5) (g 6)) b r V 0 63 (show ¬ 1 = 0 by decide) (show 1 < 2 ^ 31 by decide)) gX4_readSitter_X4_readNumber rfl 2 (by decide +kernel) (by decide) (by decide) 1 rfl rfl rfl rfl rfl (Nat.le_of_ble_eq_true rfl) dX4_readSitter_24 ?_
                rintro _ _ ⟨rfl, rfl⟩
                refine z_top (v' := .int (nI 0)) rfl ?_
                refine z_bipush C (v := nI 6) dX4_readSitter_27 (by decide) ?_
                refine z_iload_n C dX4_readSitter_29 rfl (show zlk _ 2 = some (.int (nI 4)) from rfl) ?_
                refine z_imulN C dX4_readSitter_30 ?_
                refine z_top (v' := .int (nI 24)) rfl ?_
                refine z_ishl C dX4_readSitter_31 ?_
                refine z_ior C dX4_readSitter_32 ?_
                refine z_istore_n C [(1, .int (((rS (r 0) (n 2) (n 3) 3) ||| ((nI 0) <<< ((nI 18) &&& 31))) ||| ((nI 0) <<< ((nI 24) &&& 31)))), (2, .int (nI 4)), (0, .ref (ad 1))] dX4_readSitter_33 rfl (by decide) rfl ?_
                refine z_iincN C [(2, .int (nI 5)), (1, .int (((rS (r 0) (n 2) (n 3) 3) ||| ((nI 0) <<< ((nI 18) &&& 31))) ||| ((nI 0) <<< ((nI 24) &&& 31)))), (0, .ref (ad 1))] dX4_readSitter_34 rfl (by decide) rfl ?_
                refine z_goto C 4 dX4_readSitter_37 (by decide) ?_
                refine z_iload_n C dX4_readSitter_4 rfl (show zlk _ 2 = some (.int (nI 5)) from rfl) ?_
                refine z_iconst C (v := nI 5) dX4_readSitter_5 (by decide) ?_
                refine z_icmp_geT C 40 dX4_readSitter_6 (by decide) (by omega) (by omega) (by decide) ?_
                refine z_aload_n C dX4_readSitter_40 rfl (show zlk _ 0 = some (.ref (ad 1)) from rfl) ?_
                refine z_get C hinX4 1 cc_1 rfl 1 (by decide) (by decide +kernel) cg_1_1 dX4_readSitter_41 ?_
                refine z_getN C (host := "GnatPortraits") hinX0 2 cc_2 rfl 2 (by decide) (by decide +kernel) ch_2_2 dX4_readSitter_44 ?_
                refine z_bipush C (v := nI 6) dX4_readSitter_47 (by decide) ?_
                refine z_icmp_geF C 81 dX4_readSitter_49 (by decide) (by omega) (by omega) (by omega) ?_
                refine z_aload_n C dX4_readSitter_52 rfl (show zlk _ 0 = some (.ref (ad 1)) from rfl) ?_
                refine z_get C hinX4 1 cc_1 rfl 1 (by decide) (by decide +kernel) cg_1_1 dX4_readSitter_53 ?_
                refine z_getN C (host := "GnatPortraits") hinX0 2 cc_2 rfl 5 (by decide) (by decide +kernel) cg_2_5 dX4_readSitter_56 ?_
                refine z_aload_n C dX4_readSitter_59 rfl (show zlk _ 0 = some (.ref (ad 1)) from rfl) ?_
                refine z_get C hinX4 1 cc_1 rfl 1 (by decide) (by decide +kernel) cg_1_1 dX4_readSitter_60 ?_
                refine z_getN C (host := "GnatPortraits") hinX0 2 cc_2 rfl 2 (by decide) (by decide +kernel) ch_2_2 dX4_readSitter_63 ?_
                refine z_iload_n C dX4_readSitter_66 rfl (show zlk _ 1 = some (.int (((rS (r 0) (n 2) (n 3) 3) ||| ((nI 0) <<< ((nI 18) &&& 31))) ||| ((nI 0) <<< ((nI 24) &&& 31)))) from rfl) ?_
                refine z_iast C (f := (r 1)) 12 ca_12 (n 6) rfl (by omega) (by decide) _ cs_12 dX4_readSitter_67 ?_
                refine z_aload_n C dX4_readSitter_68 rfl (show zlk _ 0 = some (.ref (ad 1)) from rfl) ?_
                refine z_get C hinX4 1 cc_1 rfl 1 (by decide) (by decide +kernel) cg_1_1 dX4_readSitter_69 ?_
                refine z_dup C dX4_readSitter_72 rfl ?_
                refine z_getN C (host := "GnatPortraits") hinX0 2 cc_2 rfl 2 (by decide) (by decide +kernel) ch_2_2 dX4_readSitter_73 ?_
                refine z_iconst C (v := nI 1) dX4_readSitter_76 (by decide) ?_
                refine z_iaddN C dX4_readSitter_77 ?_
                refine z_putN C (host := "GnatPortraits") hinX0 tyX0 tyX0_ok nmX0 2 cc_2 rfl 2 (by decide) (by decide +kernel) rfl rfl rfl rfl (Nat.le_of_ble_eq_true rfl) _ cv_2_2 dX4_readSitter_78 ?_
                exact E _ _ _ (Or.inl (by rw [hF5]; exact ⟨by simp, _, _, (show pa7 ≤ n 2 by omega), (cw_eq rfl rfl rfl rfl rfl rfl rfl rfl rfl rfl rfl rfl rfl rfl rfl rfl rfl rfl rfl rfl rfl rfl rfl rfl rfl rfl rfl rfl rfl rfl rfl rfl rfl rfl rfl rfl rfl rfl rfl rfl rfl rfl rfl rfl rfl rfl rfl rfl rfl rfl rfl)⟩)) dX4_readSitter_81
              · replace ea7 : sk (r 0) (n 2) (pg6 + 1) = pa7 := ea7
                replace eb7 : nE (r 0) (n 2) (pg6 + 1) = pb7 := eb7
                replace hA7 : nOk (r 0) (n 2) (pg6 + 1) = true := hA7
                replace hB7 : nBad (r 0) (n 2) (pg6 + 1) 0 63 := hB7
                have lb7 : pb7 ≤ n 2 := by rw [← eb7]; exact (nE_le (lq3)).2
                refine z_X (Y := CW θ ea ad (cnv (n 0) (n 1) (n 2) pb7 2 (n 5) (n 6) (n 7) (n 8) (n 9) (n 10) (n 11) (n 12) (n 13) (n 14) (n 15) (n 16) (n 17) (n 18) (n 19) (n 20)) (cgv (g 0) (g 1) (nI pa7) (g 3) (g 4) (g 5) (g 6)) b r V) (cw_eq rfl rfl rfl rfl rfl rfl rfl rfl rfl rfl rfl rfl rfl rfl rfl rfl rfl rfl rfl rfl rfl rfl rfl rfl rfl rfl rfl rfl rfl rfl rfl rfl rfl rfl rfl rfl rfl rfl rfl rfl rfl rfl rfl rfl rfl rfl rfl rfl rfl rfl rfl) ?_
                have hFF : rF (r 0) (n 2) (n 3) 4 = (2, pa7) := (rF_step (by rw [hF3]) (by show m_hr (r 0) (n 2) (sk (r 0) (n 2) (nE (r 0) (n 2) (rwq (r 0) (n 2) (n 3) 2))) = nI 44; rw [← hq2, eb5, eg6]; exact hs6)).trans (by rw [← hq3]; exact (by rw [← ea7]; exact nF_B hA7 hB7 : nF (r 0) (n 2) (pg6 + 1) 0 63 = (2, pa7)))
                have hF5 : rF (r 0) (n 2) (n 3) 5 = (2, pa7) := (rF_up (i := 4) (by decide) (by rw [hFF]; simp)).trans hFF
                refine z_bipush C (v := nI 6) dX4_readSitter_27 (by decide) ?_
                refine z_iload_n C dX4_readSitter_29 rfl (show zlk _ 2 = some (.int (nI 3)) from rfl) ?_
                refine z_imulN C dX4_readSitter_30 ?_
                refine z_top (v' := .int (nI 18)) rfl ?_
                refine z_ishl C dX4_readSitter_31 ?_
                refine z_ior C dX4_readSitter_32 ?_
                refine z_istore_n C [(1, .int ((rS (r 0) (n 2) (n 3) 3) ||| ((nI 0) <<< ((nI 18) &&& 31)))), (2, .int (nI 3)), (0, .ref (ad 1))] dX4_readSitter_33 rfl (by decide) rfl ?_
                refine z_iincN C [(2, .int (nI 4)), (1, .int ((rS (r 0) (n 2) (n 3) 3) ||| ((nI 0) <<< ((nI 18) &&& 31)))), (0, .ref (ad 1))] dX4_readSitter_34 rfl (by decide) rfl ?_
                refine z_goto C 4 dX4_readSitter_37 (by decide) ?_
                refine z_iload_n C dX4_readSitter_4 rfl (show zlk _ 2 = some (.int (nI 4)) from rfl) ?_
                refine z_iconst C (v := nI 5) dX4_readSitter_5 (by decide) ?_
                refine z_icmp_geF C 40 dX4_readSitter_6 (by decide) (by omega) (by omega) (by decide) ?_
                refine z_iload_n C dX4_readSitter_9 rfl (show zlk _ 2 = some (.int (nI 4)) from rfl) ?_
                refine z_if_leN C 19 dX4_readSitter_10 (by decide) (by decide) (fun h => absurd h (by decide)) (fun _ => ?_)
                refine z_aload_n C dX4_readSitter_13 rfl (show zlk _ 0 = some (.ref (ad 1)) from rfl) ?_
                refine z_bipush C (v := nI 44) dX4_readSitter_14 (by decide) ?_
                refine z_callVv C (As := [.int (nI 44)]) (rest := []) (c_X4_readSign_1 l θ ea ad (cnv (n 0) (n 1) (n 2) pb7 2 (n 5) (n 6) (n 7) (n 8) (n 9) (n 10) (n 11) (n 12) (n 13) (n 14) (n 15) (n 16) (n 17) (n 18) (n 19) (n 20)) (cgv (g 0) (g 1) (nI pa7) (g 3) (g 4) (g 5) (g 6)) b r V (nI 44) (show ¬ 2 = 0 by decide) (show 2 < 2 ^ 31 by decide)) gX4_readSitter_X4_readSign rfl 1 (by decide +kernel) (by decide) (by decide) 1 rfl rfl rfl rfl rfl (Nat.le_of_ble_eq_true rfl) dX4_readSitter_16 ?_
                rintro _ rfl
                refine z_iload_n C dX4_readSitter_19 rfl (show zlk _ 1 = some (.int ((rS (r 0) (n 2) (n 3) 3) ||| ((nI 0) <<< ((nI 18) &&& 31)))) from rfl) ?_
                refine z_aload_n C dX4_readSitter_20 rfl (show zlk _ 0 = some (.ref (ad 1)) from rfl) ?_
                refine z_iconst C (v := nI 0) dX4_readSitter_21 (by decide) ?_
                refine z_bipush C (v := nI 63) dX4_readSitter_22 (by decide) ?_
                refine z_callVi C (As := [.int (nI 0), .int (nI 63)]) (rest := [.int ((rS (r 0) (n 2) (n 3) 3) ||| ((nI 0) <<< ((nI 18) &&& 31)))]) (c_X4_readNumber_1 l θ ea ad (cnv (n 0) (n 1) (n 2) pb7 2 (n 5) (n 6) (n 7) (n 8) (n 9) (n 10) (n 11) (n 12) (n 13) (n 14) (n 15) (n 16) (n 17) (n 18) (n 19) (n 20)) (cgv (g 0) (g 1) (nI pa7) (g 3) (g 4) (g 5) (g 6)) b r V 0 63 (show ¬ 2 = 0 by decide) (show 2 < 2 ^ 31 by decide)) gX4_readSitter_X4_readNumber rfl 2 (by decide +kernel) (by decide) (by decide) 1 rfl rfl rfl rfl rfl (Nat.le_of_ble_eq_true rfl) dX4_readSitter_24 ?_
                rintro _ _ ⟨rfl, rfl⟩
                refine z_top (v' := .int (nI 0)) rfl ?_
                refine z_bipush C (v := nI 6) dX4_readSitter_27 (by decide) ?_
                refine z_iload_n C dX4_readSitter_29 rfl (show zlk _ 2 = some (.int (nI 4)) from rfl) ?_
                refine z_imulN C dX4_readSitter_30 ?_
                refine z_top (v' := .int (nI 24)) rfl ?_
                refine z_ishl C dX4_readSitter_31 ?_
                refine z_ior C dX4_readSitter_32 ?_
                refine z_istore_n C [(1, .int (((rS (r 0) (n 2) (n 3) 3) ||| ((nI 0) <<< ((nI 18) &&& 31))) ||| ((nI 0) <<< ((nI 24) &&& 31)))), (2, .int (nI 4)), (0, .ref (ad 1))] dX4_readSitter_33 rfl (by decide) rfl ?_
                refine z_iincN C [(2, .int (nI 5)), (1, .int (((rS (r 0) (n 2) (n 3) 3) ||| ((nI 0) <<< ((nI 18) &&& 31))) ||| ((nI 0) <<< ((nI 24) &&& 31)))), (0, .ref (ad 1))] dX4_readSitter_34 rfl (by decide) rfl ?_
                refine z_goto C 4 dX4_readSitter_37 (by decide) ?_
                refine z_iload_n C dX4_readSitter_4 rfl (show zlk _ 2 = some (.int (nI 5)) from rfl) ?_
                refine z_iconst C (v := nI 5) dX4_readSitter_5 (by decide) ?_
                refine z_icmp_geT C 40 dX4_readSitter_6 (by decide) (by omega) (by omega) (by decide) ?_
                refine z_aload_n C dX4_readSitter_40 rfl (show zlk _ 0 = some (.ref (ad 1)) from rfl) ?_
                refine z_get C hinX4 1 cc_1 rfl 1 (by decide) (by decide +kernel) cg_1_1 dX4_readSitter_41 ?_
                refine z_getN C (host := "GnatPortraits") hinX0 2 cc_2 rfl 2 (by decide) (by decide +kernel) ch_2_2 dX4_readSitter_44 ?_
                refine z_bipush C (v := nI 6) dX4_readSitter_47 (by decide) ?_
                refine z_icmp_geF C 81 dX4_readSitter_49 (by decide) (by omega) (by omega) (by omega) ?_
                refine z_aload_n C dX4_readSitter_52 rfl (show zlk _ 0 = some (.ref (ad 1)) from rfl) ?_
                refine z_get C hinX4 1 cc_1 rfl 1 (by decide) (by decide +kernel) cg_1_1 dX4_readSitter_53 ?_
                refine z_getN C (host := "GnatPortraits") hinX0 2 cc_2 rfl 5 (by decide) (by decide +kernel) cg_2_5 dX4_readSitter_56 ?_
                refine z_aload_n C dX4_readSitter_59 rfl (show zlk _ 0 = some (.ref (ad 1)) from rfl) ?_
                refine z_get C hinX4 1 cc_1 rfl 1 (by decide) (by decide +kernel) cg_1_1 dX4_readSitter_60 ?_
                refine z_getN C (host := "GnatPortraits") hinX0 2 cc_2 rfl 2 (by decide) (by decide +kernel) ch_2_2 dX4_readSitter_63 ?_
                refine z_iload_n C dX4_readSitter_66 rfl (show zlk _ 1 = some (.int (((rS (r 0) (n 2) (n 3) 3) ||| ((nI 0) <<< ((nI 18) &&& 31))) ||| ((nI 0) <<< ((nI 24) &&& 31)))) from rfl) ?_
                refine z_iast C (f := (r 1)) 12 ca_12 (n 6) rfl (by omega) (by decide) _ cs_12 dX4_readSitter_67 ?_
                refine z_aload_n C dX4_readSitter_68 rfl (show zlk _ 0 = some (.ref (ad 1)) from rfl) ?_
                refine z_get C hinX4 1 cc_1 rfl 1 (by decide) (by decide +kernel) cg_1_1 dX4_readSitter_69 ?_
                refine z_dup C dX4_readSitter_72 rfl ?_
                refine z_getN C (host := "GnatPortraits") hinX0 2 cc_2 rfl 2 (by decide) (by decide +kernel) ch_2_2 dX4_readSitter_73 ?_
                refine z_iconst C (v := nI 1) dX4_readSitter_76 (by decide) ?_
                refine z_iaddN C dX4_readSitter_77 ?_
                refine z_putN C (host := "GnatPortraits") hinX0 tyX0 tyX0_ok nmX0 2 cc_2 rfl 2 (by decide) (by decide +kernel) rfl rfl rfl rfl (Nat.le_of_ble_eq_true rfl) _ cv_2_2 dX4_readSitter_78 ?_
                exact E _ _ _ (Or.inl (by rw [hF5]; exact ⟨by simp, _, _, (show pb7 ≤ n 2 by omega), (cw_eq rfl rfl rfl rfl rfl rfl rfl rfl rfl rfl rfl rfl rfl rfl rfl rfl rfl rfl rfl rfl rfl rfl rfl rfl rfl rfl rfl rfl rfl rfl rfl rfl rfl rfl rfl rfl rfl rfl rfl rfl rfl rfl rfl rfl rfl rfl rfl rfl rfl rfl rfl)⟩)) dX4_readSitter_81
              · replace ea7 : sk (r 0) (n 2) (pg6 + 1) = pa7 := ea7
                replace eb7 : nE (r 0) (n 2) (pg6 + 1) = pb7 := eb7
                replace hA7 : nOk (r 0) (n 2) (pg6 + 1) = true := hA7
                replace hB7 : ¬ nBad (r 0) (n 2) (pg6 + 1) 0 63 := hB7
                have lb7 : pb7 ≤ n 2 := by rw [← eb7]; exact (nE_le (lq3)).2
                refine z_top (v' := .int (nI (nV (r 0) (n 2) (pg6 + 1)))) rfl ?_
                refine z_X (Y := CW θ ea ad (cnv (n 0) (n 1) (n 2) pb7 (n 4) (n 5) (n 6) (n 7) (n 8) (n 9) (n 10) (n 11) (n 12) (n 13) (n 14) (n 15) (n 16) (n 17) (n 18) (n 19) (n 20)) g b r V) (cw_eq rfl rfl rfl rfl rfl rfl rfl rfl rfl rfl rfl rfl rfl rfl rfl rfl rfl rfl rfl rfl rfl rfl rfl rfl rfl rfl rfl rfl rfl rfl rfl rfl rfl rfl rfl rfl rfl rfl rfl rfl rfl rfl rfl rfl rfl rfl rfl rfl rfl rfl rfl) ?_
                have hF4 : rF (r 0) (n 2) (n 3) 4 = (0, 0) := (rF_step (by rw [hF3]) (by show m_hr (r 0) (n 2) (sk (r 0) (n 2) (nE (r 0) (n 2) (rwq (r 0) (n 2) (n 3) 2))) = nI 44; rw [← hq2, eb5, eg6]; exact hs6)).trans (by rw [← hq3]; exact nF_C hA7 hB7)
                refine z_bipush C (v := nI 6) dX4_readSitter_27 (by decide) ?_
                refine z_iload_n C dX4_readSitter_29 rfl (show zlk _ 2 = some (.int (nI 3)) from rfl) ?_
                refine z_imulN C dX4_readSitter_30 ?_
                refine z_top (v' := .int (nI 18)) rfl ?_
                refine z_ishl C dX4_readSitter_31 ?_
                refine z_ior C dX4_readSitter_32 ?_
                refine z_top (v' := .int (rS (r 0) (n 2) (n 3) 4)) (by rw [hq3]; rfl) ?_
                refine z_istore_n C [(1, .int (rS (r 0) (n 2) (n 3) 4)), (2, .int (nI 3)), (0, .ref (ad 1))] dX4_readSitter_33 rfl (by decide) rfl ?_
                refine z_iincN C [(2, .int (nI 4)), (1, .int (rS (r 0) (n 2) (n 3) 4)), (0, .ref (ad 1))] dX4_readSitter_34 rfl (by decide) rfl ?_
                refine z_goto C 4 dX4_readSitter_37 (by decide) ?_
                refine z_iload_n C dX4_readSitter_4 rfl (show zlk _ 2 = some (.int (nI 4)) from rfl) ?_
                refine z_iconst C (v := nI 5) dX4_readSitter_5 (by decide) ?_
                refine z_icmp_geF C 40 dX4_readSitter_6 (by decide) (by omega) (by omega) (by decide) ?_
                refine z_iload_n C dX4_readSitter_9 rfl (show zlk _ 2 = some (.int (nI 4)) from rfl) ?_
                refine z_if_leN C 19 dX4_readSitter_10 (by decide) (by decide) (fun h => absurd h (by decide)) (fun _ => ?_)
                refine z_aload_n C dX4_readSitter_13 rfl (show zlk _ 0 = some (.ref (ad 1)) from rfl) ?_
                refine z_bipush C (v := nI 44) dX4_readSitter_14 (by decide) ?_
                refine z_callVv C (As := [.int (nI 44)]) (rest := []) (c_X4_readSign_2 l θ ea ad (cnv (n 0) (n 1) (n 2) pb7 (n 4) (n 5) (n 6) (n 7) (n 8) (n 9) (n 10) (n 11) (n 12) (n 13) (n 14) (n 15) (n 16) (n 17) (n 18) (n 19) (n 20)) g b r V (nI 44) (show n 4 = 0 from hf) (show pb7 ≤ 240 by omega) hL) gX4_readSitter_X4_readSign rfl 1 (by decide +kernel) (by decide) (by decide) 1 rfl rfl rfl rfl rfl (Nat.le_of_ble_eq_true rfl) dX4_readSitter_16 ?_
                rintro _ ⟨pg8, eg8, (⟨hs8, rfl⟩ | ⟨hs8, rfl⟩)⟩
                · replace eg8 : sk (r 0) (n 2) (pb7) = pg8 := eg8
                  replace hs8 : m_hr (r 0) (n 2) pg8 = nI 44 := hs8
                  have lg8 := hr_lt hs8 (by decide)
                  refine z_X (Y := CW θ ea ad (cnv (n 0) (n 1) (n 2) (pg8 + 1) (n 4) (n 5) (n 6) (n 7) (n 8) (n 9) (n 10) (n 11) (n 12) (n 13) (n 14) (n 15) (n 16) (n 17) (n 18) (n 19) (n 20)) g b r V) (cw_eq rfl rfl rfl rfl rfl rfl rfl rfl rfl rfl rfl rfl rfl rfl rfl rfl rfl rfl rfl rfl rfl rfl rfl rfl rfl rfl rfl rfl rfl rfl rfl rfl rfl rfl rfl rfl rfl rfl rfl rfl rfl rfl rfl rfl rfl rfl rfl rfl rfl rfl rfl) ?_
                  have hq4 : pg8 + 1 = rwq (r 0) (n 2) (n 3) 4 := by show pg8 + 1 = sk (r 0) (n 2) (nE (r 0) (n 2) (rwq (r 0) (n 2) (n 3) 3)) + 1; rw [← hq3, eb7, eg8]
                  have lq4 : pg8 + 1 ≤ n 2 := lg8
                  refine z_iload_n C dX4_readSitter_19 rfl (show zlk _ 1 = some (.int (rS (r 0) (n 2) (n 3) 4)) from rfl) ?_
                  refine z_aload_n C dX4_readSitter_20 rfl (show zlk _ 0 = some (.ref (ad 1)) from rfl) ?_
                  refine z_iconst C (v := nI 0) dX4_readSitter_21 (by decide) ?_
                  refine z_bipush C (v := nI 63) dX4_readSitter_22 (by decide) ?_
                  refine z_callVi C (As := [.int (nI 0), .int (nI 63)]) (rest := [.int (rS (r 0) (n 2) (n 3) 4)]) (c_X4_readNumber_2 l θ ea ad (cnv (n 0) (n 1) (n 2) (pg8 + 1) (n 4) (n 5) (n 6) (n 7) (n 8) (n 9) (n 10) (n 11) (n 12) (n 13) (n 14) (n 15) (n 16) (n 17) (n 18) (n 19) (n 20)) g b r V 0 63 (show n 4 = 0 from hf) (show pg8 + 1 ≤ n 2 from (lq4)) hL (by decide) (by decide)) gX4_readSitter_X4_readNumber rfl 2 (by decide +kernel) (by decide) (by decide) 1 rfl rfl rfl rfl rfl (Nat.le_of_ble_eq_true rfl) dX4_readSitter_24 ?_
                  rintro _ _ ⟨pa9, pb9, ea9, eb9, (⟨hA9, rfl, rfl⟩ | ⟨hA9, hB9, rfl, rfl⟩ | ⟨hA9, hB9, rfl, rfl⟩)⟩
                  · replace ea9 : sk (r 0) (n 2) (pg8 + 1) = pa9 := ea9
                    replace eb9 : nE (r 0) (n 2) (pg8 + 1) = pb9 := eb9
                    replace hA9 : nOk (r 0) (n 2) (pg8 + 1) = false := hA9
                    have la9 : pa9 ≤ n 2 := by rw [← ea9]; exact (sk_le (lq4)).2
                    refine z_X (Y := CW θ ea ad (cnv (n 0) (n 1) (n 2) pa9 1 (n 5) (n 6) (n 7) (n 8) (n 9) (n 10) (n 11) (n 12) (n 13) (n 14) (n 15) (n 16) (n 17) (n 18) (n 19) (n 20)) (cgv (g 0) (g 1) (nI pa9) (g 3) (g 4) (g 5) (g 6)) b r V) (cw_eq rfl rfl rfl rfl rfl rfl rfl rfl rfl rfl rfl rfl rfl rfl rfl rfl rfl rfl rfl rfl rfl rfl rfl rfl rfl rfl rfl rfl rfl rfl rfl rfl rfl rfl rfl rfl rfl rfl rfl rfl rfl rfl rfl rfl rfl rfl rfl rfl rfl rfl rfl) ?_
                    have hFF : rF (r 0) (n 2) (n 3) 5 = (1, pa9) := (rF_step (by rw [hF4]) (by show m_hr (r 0) (n 2) (sk (r 0) (n 2) (nE (r 0) (n 2) (rwq (r 0) (n 2) (n 3) 3))) = nI 44; rw [← hq3, eb7, eg8]; exact hs8)).trans (by rw [← hq4]; exact (by rw [← ea9]; exact nF_A hA9 : nF (r 0) (n 2) (pg8 + 1) 0 63 = (1, pa9)))
                    have hF5 : rF (r 0) (n 2) (n 3) 5 = (1, pa9) := (rF_up (i := 5) (by decide) (by rw [hFF]; simp)).trans hFF
                    refine z_bipush C (v := nI 6) dX4_readSitter_27 (by decide) ?_
                    refine z_iload_n C dX4_readSitter_29 rfl (show zlk _ 2 = some (.int (nI 4)) from rfl) ?_
                    refine z_imulN C dX4_readSitter_30 ?_
                    refine z_top (v' := .int (nI 24)) rfl ?_
                    refine z_ishl C dX4_readSitter_31 ?_
                    refine z_ior C dX4_readSitter_32 ?_
                    refine z_istore_n C [(1, .int ((rS (r 0) (n 2) (n 3) 4) ||| ((nI 0) <<< ((nI 24) &&& 31)))), (2, .int (nI 4)), (0, .ref (ad 1))] dX4_readSitter_33 rfl (by decide) rfl ?_
                    refine z_iincN C [(2, .int (nI 5)), (1, .int ((rS (r 0) (n 2) (n 3) 4) ||| ((nI 0) <<< ((nI 24) &&& 31)))), (0, .ref (ad 1))] dX4_readSitter_34 rfl (by decide) rfl ?_
                    refine z_goto C 4 dX4_readSitter_37 (by decide) ?_
                    refine z_iload_n C dX4_readSitter_4 rfl (show zlk _ 2 = some (.int (nI 5)) from rfl) ?_
                    refine z_iconst C (v := nI 5) dX4_readSitter_5 (by decide) ?_
                    refine z_icmp_geT C 40 dX4_readSitter_6 (by decide) (by omega) (by omega) (by decide) ?_
                    refine z_aload_n C dX4_readSitter_40 rfl (show zlk _ 0 = some (.ref (ad 1)) from rfl) ?_
                    refine z_get C hinX4 1 cc_1 rfl 1 (by decide) (by decide +kernel) cg_1_1 dX4_readSitter_41 ?_
                    refine z_getN C (host := "GnatPortraits") hinX0 2 cc_2 rfl 2 (by decide) (by decide +kernel) ch_2_2 dX4_readSitter_44 ?_
                    refine z_bipush C (v := nI 6) dX4_readSitter_47 (by decide) ?_
                    refine z_icmp_geF C 81 dX4_readSitter_49 (by decide) (by omega) (by omega) (by omega) ?_
                    refine z_aload_n C dX4_readSitter_52 rfl (show zlk _ 0 = some (.ref (ad 1)) from rfl) ?_
                    refine z_get C hinX4 1 cc_1 rfl 1 (by decide) (by decide +kernel) cg_1_1 dX4_readSitter_53 ?_
                    refine z_getN C (host := "GnatPortraits") hinX0 2 cc_2 rfl 5 (by decide) (by decide +kernel) cg_2_5 dX4_readSitter_56 ?_
                    refine z_aload_n C dX4_readSitter_59 rfl (show zlk _ 0 = some (.ref (ad 1)) from rfl) ?_
                    refine z_get C hinX4 1 cc_1 rfl 1 (by decide) (by decide +kernel) cg_1_1 dX4_readSitter_60 ?_
                    refine z_getN C (host := "GnatPortraits") hinX0 2 cc_2 rfl 2 (by decide) (by decide +kernel) ch_2_2 dX4_readSitter_63 ?_
                    refine z_iload_n C dX4_readSitter_66 rfl (show zlk _ 1 = some (.int ((rS (r 0) (n 2) (n 3) 4) ||| ((nI 0) <<< ((nI 24) &&& 31)))) from rfl) ?_
                    refine z_iast C (f := (r 1)) 12 ca_12 (n 6) rfl (by omega) (by decide) _ cs_12 dX4_readSitter_67 ?_
                    refine z_aload_n C dX4_readSitter_68 rfl (show zlk _ 0 = some (.ref (ad 1)) from rfl) ?_
                    refine z_get C hinX4 1 cc_1 rfl 1 (by decide) (by decide +kernel) cg_1_1 dX4_readSitter_69 ?_
                    refine z_dup C dX4_readSitter_72 rfl ?_
                    refine z_getN C (host := "GnatPortraits") hinX0 2 cc_2 rfl 2 (by decide) (by decide +kernel) ch_2_2 dX4_readSitter_73 ?_
                    refine z_iconst C (v := nI 1) dX4_readSitter_76 (by decide) ?_
                    refine z_iaddN C dX4_readSitter_77 ?_
                    refine z_putN C (host := "GnatPortraits") hinX0 tyX0 tyX0_ok nmX0 2 cc_2 rfl 2 (by decide) (by decide +kernel) rfl rfl rfl rfl (Nat.le_of_ble_eq_true rfl) _ cv_2_2 dX4_readSitter_78 ?_
                    exact E _ _ _ (Or.inl (by rw [hF5]; exact ⟨by simp, _, _, (show pa9 ≤ n 2 by omega), (cw_eq rfl rfl rfl rfl rfl rfl rfl rfl rfl rfl rfl rfl rfl rfl rfl rfl rfl rfl rfl rfl rfl rfl rfl rfl rfl rfl rfl rfl rfl rfl rfl rfl rfl rfl rfl rfl rfl rfl rfl rfl rfl rfl rfl rfl rfl rfl rfl rfl rfl rfl rfl)⟩)) dX4_readSitter_81
                  · replace ea9 : sk (r 0) (n 2) (pg8 + 1) = pa9 := ea9
                    replace eb9 : nE (r 0) (n 2) (pg8 + 1) = pb9 := eb9
                    replace hA9 : nOk (r 0) (n 2) (pg8 + 1) = true := hA9
                    replace hB9 : nBad (r 0) (n 2) (pg8 + 1) 0 63 := hB9
                    have lb9 : pb9 ≤ n 2 := by rw [← eb9]; exact (nE_le (lq4)).2
                    refine z_X (Y := CW θ ea ad (cnv (n 0) (n 1) (n 2) pb9 2 (n 5) (n 6) (n 7) (n 8) (n 9) (n 10) (n 11) (n 12) (n 13) (n 14) (n 15) (n 16) (n 17) (n 18) (n 19) (n 20)) (cgv (g 0) (g 1) (nI pa9) (g 3) (g 4) (g 5) (g 6)) b r V) (cw_eq rfl rfl rfl rfl rfl rfl rfl rfl rfl rfl rfl rfl rfl rfl rfl rfl rfl rfl rfl rfl rfl rfl rfl rfl rfl rfl rfl rfl rfl rfl rfl rfl rfl rfl rfl rfl rfl rfl rfl rfl rfl rfl rfl rfl rfl rfl rfl rfl rfl rfl rfl) ?_
                    have hFF : rF (r 0) (n 2) (n 3) 5 = (2, pa9) := (rF_step (by rw [hF4]) (by show m_hr (r 0) (n 2) (sk (r 0) (n 2) (nE (r 0) (n 2) (rwq (r 0) (n 2) (n 3) 3))) = nI 44; rw [← hq3, eb7, eg8]; exact hs8)).trans (by rw [← hq4]; exact (by rw [← ea9]; exact nF_B hA9 hB9 : nF (r 0) (n 2) (pg8 + 1) 0 63 = (2, pa9)))
                    have hF5 : rF (r 0) (n 2) (n 3) 5 = (2, pa9) := (rF_up (i := 5) (by decide) (by rw [hFF]; simp)).trans hFF
                    refine z_bipush C (v := nI 6) dX4_readSitter_27 (by decide) ?_
                    refine z_iload_n C dX4_readSitter_29 rfl (show zlk _ 2 = some (.int (nI 4)) from rfl) ?_
                    refine z_imulN C dX4_readSitter_30 ?_
                    refine z_top (v' := .int (nI 24)) rfl ?_
                    refine z_ishl C dX4_readSitter_31 ?_
                    refine z_ior C dX4_readSitter_32 ?_
                    refine z_istore_n C [(1, .int ((rS (r 0) (n 2) (n 3) 4) ||| ((nI 0) <<< ((nI 24) &&& 31)))), (2, .int (nI 4)), (0, .ref (ad 1))] dX4_readSitter_33 rfl (by decide) rfl ?_
                    refine z_iincN C [(2, .int (nI 5)), (1, .int ((rS (r 0) (n 2) (n 3) 4) ||| ((nI 0) <<< ((nI 24) &&& 31)))), (0, .ref (ad 1))] dX4_readSitter_34 rfl (by decide) rfl ?_
                    refine z_goto C 4 dX4_readSitter_37 (by decide) ?_
                    refine z_iload_n C dX4_readSitter_4 rfl (show zlk _ 2 = some (.int (nI 5)) from rfl) ?_
                    refine z_iconst C (v := nI 5) dX4_readSitter_5 (by decide) ?_
                    refine z_icmp_geT C 40 dX4_readSitter_6 (by decide) (by omega) (by omega) (by decide) ?_
                    refine z_aload_n C dX4_readSitter_40 rfl (show zlk _ 0 = some (.ref (ad 1)) from rfl) ?_
                    refine z_get C hinX4 1 cc_1 rfl 1 (by decide) (by decide +kernel) cg_1_1 dX4_readSitter_41 ?_
                    refine z_getN C (host := "GnatPortraits") hinX0 2 cc_2 rfl 2 (by decide) (by decide +kernel) ch_2_2 dX4_readSitter_44 ?_
                    refine z_bipush C (v := nI 6) dX4_readSitter_47 (by decide) ?_
                    refine z_icmp_geF C 81 dX4_readSitter_49 (by decide) (by omega) (by omega) (by omega) ?_
                    refine z_aload_n C dX4_readSitter_52 rfl (show zlk _ 0 = some (.ref (ad 1)) from rfl) ?_
                    refine z_get C hinX4 1 cc_1 rfl 1 (by decide) (by decide +kernel) cg_1_1 dX4_readSitter_53 ?_
                    refine z_getN C (host := "GnatPortraits") hinX0 2 cc_2 rfl 5 (by decide) (by decide +kernel) cg_2_5 dX4_readSitter_56 ?_
                    refine z_aload_n C dX4_readSitter_59 rfl (show zlk _ 0 = some (.ref (ad 1)) from rfl) ?_
                    refine z_get C hinX4 1 cc_1 rfl 1 (by decide) (by decide +kernel) cg_1_1 dX4_readSitter_60 ?_
                    refine z_getN C (host := "GnatPortraits") hinX0 2 cc_2 rfl 2 (by decide) (by decide +kernel) ch_2_2 dX4_readSitter_63 ?_
                    refine z_iload_n C dX4_readSitter_66 rfl (show zlk _ 1 = some (.int ((rS (r 0) (n 2) (n 3) 4) ||| ((nI 0) <<< ((nI 24) &&& 31)))) from rfl) ?_
                    refine z_iast C (f := (r 1)) 12 ca_12 (n 6) rfl (by omega) (by decide) _ cs_12 dX4_readSitter_67 ?_
                    refine z_aload_n C dX4_readSitter_68 rfl (show zlk _ 0 = some (.ref (ad 1)) from rfl) ?_
                    refine z_get C hinX4 1 cc_1 rfl 1 (by decide) (by decide +kernel) cg_1_1 dX4_readSitter_69 ?_
                    refine z_dup C dX4_readSitter_72 rfl ?_
                    refine z_getN C (host := "GnatPortraits") hinX0 2 cc_2 rfl 2 (by decide) (by decide +kernel) ch_2_2 dX4_readSitter_73 ?_
                    refine z_iconst C (v := nI 1) dX4_readSitter_76 (by decide) ?_
                    refine z_iaddN C dX4_readSitter_77 ?_
                    refine z_putN C (host := "GnatPortraits") hinX0 tyX0 tyX0_ok nmX0 2 cc_2 rfl 2 (by decide) (by decide +kernel) rfl rfl rfl rfl (Nat.le_of_ble_eq_true rfl) _ cv_2_2 dX4_readSitter_78 ?_
                    exact E _ _ _ (Or.inl (by rw [hF5]; exact ⟨by simp, _, _, (show pb9 ≤ n 2 by omega), (cw_eq rfl rfl rfl rfl rfl rfl rfl rfl rfl rfl rfl rfl rfl rfl rfl rfl rfl rfl rfl rfl rfl rfl rfl rfl rfl rfl rfl rfl rfl rfl rfl rfl rfl rfl rfl rfl rfl rfl rfl rfl rfl rfl rfl rfl rfl rfl rfl rfl rfl rfl rfl)⟩)) dX4_readSitter_81
                  · replace ea9 : sk (r 0) (n 2) (pg8 + 1) = pa9 := ea9
                    replace eb9 : nE (r 0) (n 2) (pg8 + 1) = pb9 := eb9
                    replace hA9 : nOk (r 0) (n 2) (pg8 + 1) = true := hA9
                    replace hB9 : ¬ nBad (r 0) (n 2) (pg8 + 1) 0 63 := hB9
                    have lb9 : pb9 ≤ n 2 := by rw [← eb9]; exact (nE_le (lq4)).2
                    refine z_top (v' := .int (nI (nV (r 0) (n 2) (pg8 + 1)))) rfl ?_
                    refine z_X (Y := CW θ ea ad (cnv (n 0) (n 1) (n 2) pb9 (n 4) (n 5) (n 6) (n 7) (n 8) (n 9) (n 10) (n 11) (n 12) (n 13) (n 14) (n 15) (n 16) (n 17) (n 18) (n 19) (n 20)) g b r V) (cw_eq rfl rfl rfl rfl rfl rfl rfl rfl rfl rfl rfl rfl rfl rfl rfl rfl rfl rfl rfl rfl rfl rfl rfl rfl rfl rfl rfl rfl rfl rfl rfl rfl rfl rfl rfl rfl rfl rfl rfl rfl rfl rfl rfl rfl rfl rfl rfl rfl rfl rfl rfl) ?_
                    have hF5 : rF (r 0) (n 2) (n 3) 5 = (0, 0) := (rF_step (by rw [hF4]) (by show m_hr (r 0) (n 2) (sk (r 0) (n 2) (nE (r 0) (n 2) (rwq (r 0) (n 2) (n 3) 3))) = nI 44; rw [← hq3, eb7, eg8]; exact hs8)).trans (by rw [← hq4]; exact nF_C hA9 hB9)
                    refine z_bipush C (v := nI 6) dX4_readSitter_27 (by decide) ?_
                    refine z_iload_n C dX4_readSitter_29 rfl (show zlk _ 2 = some (.int (nI 4)) from rfl) ?_
                    refine z_imulN C dX4_readSitter_30 ?_
                    refine z_top (v' := .int (nI 24)) rfl ?_
                    refine z_ishl C dX4_readSitter_31 ?_
                    refine z_ior C dX4_readSitter_32 ?_
                    refine z_top (v' := .int (rS (r 0) (n 2) (n 3) 5)) (by rw [hq4]; rfl) ?_
                    refine z_istore_n C [(1, .int (rS (r 0) (n 2) (n 3) 5)), (2, .int (nI 4)), (0, .ref (ad 1))] dX4_readSitter_33 rfl (by decide) rfl ?_
                    refine z_iincN C [(2, .int (nI 5)), (1, .int (rS (r 0) (n 2) (n 3) 5)), (0, .ref (ad 1))] dX4_readSitter_34 rfl (by decide) rfl ?_
                    refine z_goto C 4 dX4_readSitter_37 (by decide) ?_
                    refine z_iload_n C dX4_readSitter_4 rfl (show zlk _ 2 = some (.int (nI 5)) from rfl) ?_
                    refine z_iconst C (v := nI 5) dX4_readSitter_5 (by decide) ?_
                    refine z_icmp_geT C 40 dX4_readSitter_6 (by decide) (by omega) (by omega) (by decide) ?_
                    refine z_aload_n C dX4_readSitter_40 rfl (show zlk _ 0 = some (.ref (ad 1)) from rfl) ?_
                    refine z_get C hinX4 1 cc_1 rfl 1 (by decide) (by decide +kernel) cg_1_1 dX4_readSitter_41 ?_
                    refine z_getN C (host := "GnatPortraits") hinX0 2 cc_2 rfl 2 (by decide) (by decide +kernel) ch_2_2 dX4_readSitter_44 ?_
                    refine z_bipush C (v := nI 6) dX4_readSitter_47 (by decide) ?_
                    refine z_icmp_geF C 81 dX4_readSitter_49 (by decide) (by omega) (by omega) (by omega) ?_
                    refine z_aload_n C dX4_readSitter_52 rfl (show zlk _ 0 = some (.ref (ad 1)) from rfl) ?_
                    refine z_get C hinX4 1 cc_1 rfl 1 (by decide) (by decide +kernel) cg_1_1 dX4_readSitter_53 ?_
                    refine z_getN C (host := "GnatPortraits") hinX0 2 cc_2 rfl 5 (by decide) (by decide +kernel) cg_2_5 dX4_readSitter_56 ?_
                    refine z_aload_n C dX4_readSitter_59 rfl (show zlk _ 0 = some (.ref (ad 1)) from rfl) ?_
                    refine z_get C hinX4 1 cc_1 rfl 1 (by decide) (by decide +kernel) cg_1_1 dX4_readSitter_60 ?_
                    refine z_getN C (host := "GnatPortraits") hinX0 2 cc_2 rfl 2 (by decide) (by decide +kernel) ch_2_2 dX4_readSitter_63 ?_
                    refine z_iload_n C dX4_readSitter_66 rfl (show zlk _ 1 = some (.int (rS (r 0) (n 2) (n 3) 5)) from rfl) ?_
                    refine z_iast C (f := (r 1)) 12 ca_12 (n 6) rfl (by omega) (by decide) _ cs_12 dX4_readSitter_67 ?_
                    refine z_aload_n C dX4_readSitter_68 rfl (show zlk _ 0 = some (.ref (ad 1)) from rfl) ?_
                    refine z_get C hinX4 1 cc_1 rfl 1 (by decide) (by decide +kernel) cg_1_1 dX4_readSitter_69 ?_
                    refine z_dup C dX4_readSitter_72 rfl ?_
                    refine z_getN C (host := "GnatPortraits") hinX0 2 cc_2 rfl 2 (by decide) (by decide +kernel) ch_2_2 dX4_readSitter_73 ?_
                    refine z_iconst C (v := nI 1) dX4_readSitter_76 (by decide) ?_
                    refine z_iaddN C dX4_readSitter_77 ?_
                    refine z_putN C (host := "GnatPortraits") hinX0 tyX0 tyX0_ok nmX0 2 cc_2 rfl 2 (by decide) (by decide +kernel) rfl rfl rfl rfl (Nat.le_of_ble_eq_true rfl) _ cv_2_2 dX4_readSitter_78 ?_
                    exact E _ _ _ (Or.inr ⟨by rw [hF5], _, by rw [← hq4]; exact eb9.symm, (cw_eq rfl rfl rfl rfl rfl rfl rfl rfl rfl rfl rfl rfl rfl rfl rfl rfl rfl rfl rfl rfl rfl rfl rfl rfl rfl rfl rfl rfl rfl rfl rfl rfl rfl rfl rfl rfl rfl rfl rfl rfl rfl rfl rfl rfl rfl rfl rfl rfl rfl rfl rfl)⟩) dX4_readSitter_81
                · replace eg8 : sk (r 0) (n 2) (pb7) = pg8 := eg8
                  replace hs8 : ¬ m_hr (r 0) (n 2) pg8 = nI 44 := hs8
                  have lf8 : pg8 ≤ n 2 := by rw [← eg8]; exact (sk_le lb7).2
                  refine z_X (Y := CW θ ea ad (cnv (n 0) (n 1) (n 2) pg8 1 (n 5) (n 6) (n 7) (n 8) (n 9) (n 10) (n 11) (n 12) (n 13) (n 14) (n 15) (n 16) (n 17) (n 18) (n 19) (n 20)) (cgv (g 0) (g 1) (nI pg8) (g 3) (g 4) (g 5) (g 6)) b r V) (cw_eq rfl rfl rfl rfl rfl rfl rfl rfl rfl rfl rfl rfl rfl rfl rfl rfl rfl rfl rfl rfl rfl rfl rfl rfl rfl rfl rfl rfl rfl rfl rfl rfl rfl rfl rfl rfl rfl rfl rfl rfl rfl rfl rfl rfl rfl rfl rfl rfl rfl rfl rfl) ?_
                  have hFF : rF (r 0) (n 2) (n 3) 5 = (1, pg8) := (rF_sign (by rw [hF4]) (by show ¬ m_hr (r 0) (n 2) (sk (r 0) (n 2) (nE (r 0) (n 2) (rwq (r 0) (n 2) (n 3) 3))) = nI 44; rw [← hq3, eb7, eg8]; exact hs8)).trans (by rw [show sk (r 0) (n 2) (rE (r 0) (n 2) (n 3) 4) = pg8 by (show sk (r 0) (n 2) (nE (r 0) (n 2) (rwq (r 0) (n 2) (n 3) 3)) = _; rw [← hq3, eb7, eg8])])
                  have hF5 : rF (r 0) (n 2) (n 3) 5 = (1, pg8) := (rF_up (i := 5) (by decide) (by rw [hFF]; simp)).trans hFF
                  refine z_iload_n C dX4_readSitter_19 rfl (show zlk _ 1 = some (.int (rS (r 0) (n 2) (n 3) 4)) from rfl) ?_
                  refine z_aload_n C dX4_readSitter_20 rfl (show zlk _ 0 = some (.ref (ad 1)) from rfl) ?_
                  refine z_iconst C (v := nI 0) dX4_readSitter_21 (by decide) ?_
                  refine z_bipush C (v := nI 63) dX4_readSitter_22 (by decide) ?_
                  refine z_callVi C (As := [.int (nI 0), .int (nI 63)]) (rest := [.int (rS (r 0) (n 2) (n 3) 4)]) (c_X4_readNumber_1 l θ ea ad (cnv (n 0) (n 1) (n 2) pg8 1 (n 5) (n 6) (n 7) (n 8) (n 9) (n 10) (n 11) (n 12) (n 13) (n 14) (n 15) (n 16) (n 17) (n 18) (n 19) (n 20)) (cgv (g 0) (g 1) (nI pg8) (g 3) (g 4) (g 5) (g 6)) b r V 0 63 (show ¬ 1 = 0 by decide) (show 1 < 2 ^ 31 by decide)) gX4_readSitter_X4_readNumber rfl 2 (by decide +kernel) (by decide) (by decide) 1 rfl rfl rfl rfl rfl (Nat.le_of_ble_eq_true rfl) dX4_readSitter_24 ?_
                  rintro _ _ ⟨rfl, rfl⟩
                  refine z_top (v' := .int (nI 0)) rfl ?_
                  refine z_bipush C (v := nI 6) dX4_readSitter_27 (by decide) ?_
                  refine z_iload_n C dX4_readSitter_29 rfl (show zlk _ 2 = some (.int (nI 4)) from rfl) ?_
                  refine z_imulN C dX4_readSitter_30 ?_
                  refine z_top (v' := .int (nI 24)) rfl ?_
                  refine z_ishl C dX4_readSitter_31 ?_
                  refine z_ior C dX4_readSitter_32 ?_
                  refine z_istore_n C [(1, .int ((rS (r 0) (n 2) (n 3) 4) ||| ((nI 0) <<< ((nI 24) &&& 31)))), (2, .int (nI 4)), (0, .ref (ad 1))] dX4_readSitter_33 rfl (by decide) rfl ?_
                  refine z_iincN C [(2, .int (nI 5)), (1, .int ((rS (r 0) (n 2) (n 3) 4) ||| ((nI 0) <<< ((nI 24) &&& 31)))), (0, .ref (ad 1))] dX4_readSitter_34 rfl (by decide) rfl ?_
                  refine z_goto C 4 dX4_readSitter_37 (by decide) ?_
                  refine z_iload_n C dX4_readSitter_4 rfl (show zlk _ 2 = some (.int (nI 5)) from rfl) ?_
                  refine z_iconst C (v := nI 5) dX4_readSitter_5 (by decide) ?_
                  refine z_icmp_geT C 40 dX4_readSitter_6 (by decide) (by omega) (by omega) (by decide) ?_
                  refine z_aload_n C dX4_readSitter_40 rfl (show zlk _ 0 = some (.ref (ad 1)) from rfl) ?_
                  refine z_get C hinX4 1 cc_1 rfl 1 (by decide) (by decide +kernel) cg_1_1 dX4_readSitter_41 ?_
                  refine z_getN C (host := "GnatPortraits") hinX0 2 cc_2 rfl 2 (by decide) (by decide +kernel) ch_2_2 dX4_readSitter_44 ?_
                  refine z_bipush C (v := nI 6) dX4_readSitter_47 (by decide) ?_
                  refine z_icmp_geF C 81 dX4_readSitter_49 (by decide) (by omega) (by omega) (by omega) ?_
                  refine z_aload_n C dX4_readSitter_52 rfl (show zlk _ 0 = some (.ref (ad 1)) from rfl) ?_
                  refine z_get C hinX4 1 cc_1 rfl 1 (by decide) (by decide +kernel) cg_1_1 dX4_readSitter_53 ?_
                  refine z_getN C (host := "GnatPortraits") hinX0 2 cc_2 rfl 5 (by decide) (by decide +kernel) cg_2_5 dX4_readSitter_56 ?_
                  refine z_aload_n C dX4_readSitter_59 rfl (show zlk _ 0 = some (.ref (ad 1)) from rfl) ?_
                  refine z_get C hinX4 1 cc_1 rfl 1 (by decide) (by decide +kernel) cg_1_1 dX4_readSitter_60 ?_
                  refine z_getN C (host := "GnatPortraits") hinX0 2 cc_2 rfl 2 (by decide) (by decide +kernel) ch_2_2 dX4_readSitter_63 ?_
                  refine z_iload_n C dX4_readSitter_66 rfl (show zlk _ 1 = some (.int ((rS (r 0) (n 2) (n 3) 4) ||| ((nI 0) <<< ((nI 24) &&& 31)))) from rfl) ?_
                  refine z_iast C (f := (r 1)) 12 ca_12 (n 6) rfl (by omega) (by decide) _ cs_12 dX4_readSitter_67 ?_
                  refine z_aload_n C dX4_readSitter_68 rfl (show zlk _ 0 = some (.ref (ad 1)) from rfl) ?_
                  refine z_get C hinX4 1 cc_1 rfl 1 (by decide) (by decide +kernel) cg_1_1 dX4_readSitter_69 ?_
                  refine z_dup C dX4_readSitter_72 rfl ?_
                  refine z_getN C (host := "GnatPortraits") hinX0 2 cc_2 rfl 2 (by decide) (by decide +kernel) ch_2_2 dX4_readSitter_73 ?_
                  refine z_iconst C (v := nI 1) dX4_readSitter_76 (by decide) ?_
                  refine z_iaddN C dX4_readSitter_77 ?_
                  refine z_putN C (host := "GnatPortraits") hinX0 tyX0 tyX0_ok nmX0 2 cc_2 rfl 2 (by decide) (by decide +kernel) rfl rfl rfl rfl (Nat.le_of_ble_eq_true rfl) _ cv_2_2 dX4_readSitter_78 ?_
                  exact E _ _ _ (Or.inl (by rw [hF5]; exact ⟨by simp, _, _, (show pg8 ≤ n 2 by omega), (cw_eq rfl rfl rfl rfl rfl rfl rfl rfl rfl rfl rfl rfl rfl rfl rfl rfl rfl rfl rfl rfl rfl rfl rfl rfl rfl rfl rfl rfl rfl rfl rfl rfl rfl rfl rfl rfl rfl rfl rfl rfl rfl rfl rfl rfl rfl rfl rfl rfl rfl rfl rfl)⟩)) dX4_readSitter_81
            · replace eg6 : sk (r 0) (n 2) (pb5) = pg6 := eg6
              replace hs6 : ¬ m_hr (r 0) (n 2) pg6 = nI 44 := hs6
              have lf6 : pg6 ≤ n 2 := by rw [← eg6]; exact (sk_le lb5).2
              refine z_X (Y := CW θ ea ad (cnv (n 0) (n 1) (n 2) pg6 1 (n 5) (n 6) (n 7) (n 8) (n 9) (n 10) (n 11) (n 12) (n 13) (n 14) (n 15) (n 16) (n 17) (n 18) (n 19) (n 20)) (cgv (g 0) (g 1) (nI pg6) (g 3) (g 4) (g 5) (g 6)) b r V) (cw_eq rfl rfl rfl rfl rfl rfl rfl rfl rfl rfl rfl rfl rfl rfl rfl rfl rfl rfl rfl rfl rfl rfl rfl rfl rfl rfl rfl rfl rfl rfl rfl rfl rfl rfl rfl rfl rfl rfl rfl rfl rfl rfl rfl rfl rfl rfl rfl rfl rfl rfl rfl) ?_
              have hFF : rF (r 0) (n 2) (n 3) 4 = (1, pg6) := (rF_sign (by rw [hF3]) (by show ¬ m_hr (r 0) (n 2) (sk (r 0) (n 2) (nE (r 0) (n 2) (rwq (r 0) (n 2) (n 3) 2))) = nI 44; rw [← hq2, eb5, eg6]; exact hs6)).trans (by rw [show sk (r 0) (n 2) (rE (r 0) (n 2) (n 3) 3) = pg6 by (show sk (r 0) (n 2) (nE (r 0) (n 2) (rwq (r 0) (n 2) (n 3) 2)) = _; rw [← hq2, eb5, eg6])])
              have hF5 : rF (r 0) (n 2) (n 3) 5 = (1, pg6) := (rF_up (i := 4) (by decide) (by rw [hFF]; simp)).trans hFF
              refine z_iload_n C dX4_readSitter_19 rfl (show zlk _ 1 = some (.int (rS (r 0) (n 2) (n 3) 3)) from rfl) ?_
              refine z_aload_n C dX4_readSitter_20 rfl (show zlk _ 0 = some (.ref (ad 1)) from rfl) ?_
              refine z_iconst C (v := nI 0) dX4_readSitter_21 (by decide) ?_
              refine z_bipush C (v := nI 63) dX4_readSitter_22 (by decide) ?_
              refine z_callVi C (As := [.int (nI 0), .int (nI 63)]) (rest := [.int (rS (r 0) (n 2) (n 3) 3)]) (c_X4_readNumber_1 l θ ea ad (cnv (n 0) (n 1) (n 2) pg6 1 (n 5) (n 6) (n 7) (n 8) (n 9) (n 10) (n 11) (n 12) (n 13) (n 14) (n 15) (n 16) (n 17) (n 18) (n 19) (n 20)) (cgv (g 0) (g 1) (nI pg6) (g 3) (g 4) (g 5) (g 6)) b r V 0 63 (show ¬ 1 = 0 by decide) (show 1 < 2 ^ 31 by decide)) gX4_readSitter_X4_readNumber rfl 2 (by decide +kernel) (by decide) (by decide) 1 rfl rfl rfl rfl rfl (Nat.le_of_ble_eq_true rfl) dX4_readSitter_24 ?_
              rintro _ _ ⟨rfl, rfl⟩
              refine z_top (v' := .int (nI 0)) rfl ?_
              refine z_bipush C (v := nI 6) dX4_readSitter_27 (by decide) ?_
              refine z_iload_n C dX4_readSitter_29 rfl (show zlk _ 2 = some (.int (nI 3)) from rfl) ?_
              refine z_imulN C dX4_readSitter_30 ?_
              refine z_top (v' := .int (nI 18)) rfl ?_
              refine z_ishl C dX4_readSitter_31 ?_
              refine z_ior C dX4_readSitter_32 ?_
              refine z_istore_n C [(1, .int ((rS (r 0) (n 2) (n 3) 3) ||| ((nI 0) <<< ((nI 18) &&& 31)))), (2, .int (nI 3)), (0, .ref (ad 1))] dX4_readSitter_33 rfl (by decide) rfl ?_
              refine z_iincN C [(2, .int (nI 4)), (1, .int ((rS (r 0) (n 2) (n 3) 3) ||| ((nI 0) <<< ((nI 18) &&& 31)))), (0, .ref (ad 1))] dX4_readSitter_34 rfl (by decide) rfl ?_
              refine z_goto C 4 dX4_readSitter_37 (by decide) ?_
              refine z_iload_n C dX4_readSitter_4 rfl (show zlk _ 2 = some (.int (nI 4)) from rfl) ?_
              refine z_iconst C (v := nI 5) dX4_readSitter_5 (by decide) ?_
              refine z_icmp_geF C 40 dX4_readSitter_6 (by decide) (by omega) (by omega) (by decide) ?_
              refine z_iload_n C dX4_readSitter_9 rfl (show zlk _ 2 = some (.int (nI 4)) from rfl) ?_
              refine z_if_leN C 19 dX4_readSitter_10 (by decide) (by decide) (fun h => absurd h (by decide)) (fun _ => ?_)
              refine z_aload_n C dX4_readSitter_13 rfl (show zlk _ 0 = some (.ref (ad 1)) from rfl) ?_
              refine z_bipush C (v := nI 44) dX4_readSitter_14 (by decide) ?_
              refine z_callVv C (As := [.int (nI 44)]) (rest := []) (c_X4_readSign_1 l θ ea ad (cnv (n 0) (n 1) (n 2) pg6 1 (n 5) (n 6) (n 7) (n 8) (n 9) (n 10) (n 11) (n 12) (n 13) (n 14) (n 15) (n 16) (n 17) (n 18) (n 19) (n 20)) (cgv (g 0) (g 1) (nI pg6) (g 3) (g 4) (g 5) (g 6)) b r V (nI 44) (show ¬ 1 = 0 by decide) (show 1 < 2 ^ 31 by decide)) gX4_readSitter_X4_readSign rfl 1 (by decide +kernel) (by decide) (by decide) 1 rfl rfl rfl rfl rfl (Nat.le_of_ble_eq_true rfl) dX4_readSitter_16 ?_
              rintro _ rfl
              refine z_iload_n C dX4_readSitter_19 rfl (show zlk _ 1 = some (.int ((rS (r 0) (n 2) (n 3) 3) ||| ((nI 0) <<< ((nI 18) &&& 31)))) from rfl) ?_
              refine z_aload_n C dX4_readSitter_20 rfl (show zlk _ 0 = some (.ref (ad 1)) from rfl) ?_
              refine z_iconst C (v := nI 0) dX4_readSitter_21 (by decide) ?_
              refine z_bipush C (v := nI 63) dX4_readSitter_22 (by decide) ?_
              refine z_callVi C (As := [.int (nI 0), .int (nI 63)]) (rest := [.int ((rS (r 0) (n 2) (n 3) 3) ||| ((nI 0) <<< ((nI 18) &&& 31)))]) (c_X4_readNumber_1 l θ ea ad (cnv (n 0) (n 1) (n 2) pg6 1 (n 5) (n 6) (n 7) (n 8) (n 9) (n 10) (n 11) (n 12) (n 13) (n 14) (n 15) (n 16) (n 17) (n 18) (n 19) (n 20)) (cgv (g 0) (g 1) (nI pg6) (g 3) (g 4) (g 5) (g 6)) b r V 0 63 (show ¬ 1 = 0 by decide) (show 1 < 2 ^ 31 by decide)) gX4_readSitter_X4_readNumber rfl 2 (by decide +kernel) (by decide) (by decide) 1 rfl rfl rfl rfl rfl (Nat.le_of_ble_eq_true rfl) dX4_readSitter_24 ?_
              rintro _ _ ⟨rfl, rfl⟩
              refine z_top (v' := .int (nI 0)) rfl ?_
              refine z_bipush C (v := nI 6) dX4_readSitter_27 (by decide) ?_
              refine z_iload_n C dX4_readSitter_29 rfl (show zlk _ 2 = some (.int (nI 4)) from rfl) ?_
              refine z_imulN C dX4_readSitter_30 ?_
              refine z_top (v' := .int (nI 24)) rfl ?_
              refine z_ishl C dX4_readSitter_31 ?_
              refine z_ior C dX4_readSitter_32 ?_
              refine z_istore_n C [(1, .int (((rS (r 0) (n 2) (n 3) 3) ||| ((nI 0) <<< ((nI 18) &&& 31))) ||| ((nI 0) <<< ((nI 24) &&& 31)))), (2, .int (nI 4)), (0, .ref (ad 1))] dX4_readSitter_33 rfl (by decide) rfl ?_
              refine z_iincN C [(2, .int (nI 5)), (1, .int (((rS (r 0) (n 2) (n 3) 3) ||| ((nI 0) <<< ((nI 18) &&& 31))) ||| ((nI 0) <<< ((nI 24) &&& 31)))), (0, .ref (ad 1))] dX4_readSitter_34 rfl (by decide) rfl ?_
              refine z_goto C 4 dX4_readSitter_37 (by decide) ?_
              refine z_iload_n C dX4_readSitter_4 rfl (show zlk _ 2 = some (.int (nI 5)) from rfl) ?_
              refine z_iconst C (v := nI 5) dX4_readSitter_5 (by decide) ?_
              refine z_icmp_geT C 40 dX4_readSitter_6 (by decide) (by omega) (by omega) (by decide) ?_
              refine z_aload_n C dX4_readSitter_40 rfl (show zlk _ 0 = some (.ref (ad 1)) from rfl) ?_
              refine z_get C hinX4 1 cc_1 rfl 1 (by decide) (by decide +kernel) cg_1_1 dX4_readSitter_41 ?_
              refine z_getN C (host := "GnatPortraits") hinX0 2 cc_2 rfl 2 (by decide) (by decide +kernel) ch_2_2 dX4_readSitter_44 ?_
              refine z_bipush C (v := nI 6) dX4_readSitter_47 (by decide) ?_
              refine z_icmp_geF C 81 dX4_readSitter_49 (by decide) (by omega) (by omega) (by omega) ?_
              refine z_aload_n C dX4_readSitter_52 rfl (show zlk _ 0 = some (.ref (ad 1)) from rfl) ?_
              refine z_get C hinX4 1 cc_1 rfl 1 (by decide) (by decide +kernel) cg_1_1 dX4_readSitter_53 ?_
              refine z_getN C (host := "GnatPortraits") hinX0 2 cc_2 rfl 5 (by decide) (by decide +kernel) cg_2_5 dX4_readSitter_56 ?_
              refine z_aload_n C dX4_readSitter_59 rfl (show zlk _ 0 = some (.ref (ad 1)) from rfl) ?_
              refine z_get C hinX4 1 cc_1 rfl 1 (by decide) (by decide +kernel) cg_1_1 dX4_readSitter_60 ?_
              refine z_getN C (host := "GnatPortraits") hinX0 2 cc_2 rfl 2 (by decide) (by decide +kernel) ch_2_2 dX4_readSitter_63 ?_
              refine z_iload_n C dX4_readSitter_66 rfl (show zlk _ 1 = some (.int (((rS (r 0) (n 2) (n 3) 3) ||| ((nI 0) <<< ((nI 18) &&& 31))) ||| ((nI 0) <<< ((nI 24) &&& 31)))) from rfl) ?_
              refine z_iast C (f := (r 1)) 12 ca_12 (n 6) rfl (by omega) (by decide) _ cs_12 dX4_readSitter_67 ?_
              refine z_aload_n C dX4_readSitter_68 rfl (show zlk _ 0 = some (.ref (ad 1)) from rfl) ?_
              refine z_get C hinX4 1 cc_1 rfl 1 (by decide) (by decide +kernel) cg_1_1 dX4_readSitter_69 ?_
              refine z_dup C dX4_readSitter_72 rfl ?_
              refine z_getN C (host := "GnatPortraits") hinX0 2 cc_2 rfl 2 (by decide) (by decide +kernel) ch_2_2 dX4_readSitter_73 ?_
              refine z_iconst C (v := nI 1) dX4_readSitter_76 (by decide) ?_
              refine z_iaddN C dX4_readSitter_77 ?_
              refine z_putN C (host := "GnatPortraits") hinX0 tyX0 tyX0_ok nmX0 2 cc_2 rfl 2 (by decide) (by decide +kernel) rfl rfl rfl rfl (Nat.le_of_ble_eq_true rfl) _ cv_2_2 dX4_readSitter_78 ?_
              exact E _ _ _ (Or.inl (by rw [hF5]; exact ⟨by simp, _, _, (show pg6 ≤ n 2 by omega), (cw_eq rfl rfl rfl rfl rfl rfl rfl rfl rfl rfl rfl rfl rfl rfl rfl rfl rfl rfl rfl rfl rfl rfl rfl rfl rfl rfl rfl rfl rfl rfl rfl rfl rfl rfl rfl rfl rfl rfl rfl rfl rfl rfl rfl rfl rfl rfl rfl rfl rfl rfl rfl)⟩)) dX4_readSitter_81
        · replace eg4 : sk (r 0) (n 2) (pb3) = pg4 := eg4
          replace hs4 : ¬ m_hr (r 0) (n 2) pg4 = nI 44 := hs4
          have lf4 : pg4 ≤ n 2 := by rw [← eg4]; exact (sk_le lb3).2
          refine z_X (Y := CW θ ea ad (cnv (n 0) (n 1) (n 2) pg4 1 (n 5) (n 6) (n 7) (n 8) (n 9) (n 10) (n 11) (n 12) (n 13) (n 14) (n 15) (n 16) (n 17) (n 18) (n 19) (n 20)) (cgv (g 0) (g 1) (nI pg4) (g 3) (g 4) (g 5) (g 6)) b r V) (cw_eq rfl rfl rfl rfl rfl rfl rfl rfl rfl rfl rfl rfl rfl rfl rfl rfl rfl rfl rfl rfl rfl rfl rfl rfl rfl rfl rfl rfl rfl rfl rfl rfl rfl rfl rfl rfl rfl rfl rfl rfl rfl rfl rfl rfl rfl rfl rfl rfl rfl rfl rfl) ?_
          have hFF : rF (r 0) (n 2) (n 3) 3 = (1, pg4) := (rF_sign (by rw [hF2]) (by show ¬ m_hr (r 0) (n 2) (sk (r 0) (n 2) (nE (r 0) (n 2) (rwq (r 0) (n 2) (n 3) 1))) = nI 44; rw [← hq1, eb3, eg4]; exact hs4)).trans (by rw [show sk (r 0) (n 2) (rE (r 0) (n 2) (n 3) 2) = pg4 by (show sk (r 0) (n 2) (nE (r 0) (n 2) (rwq (r 0) (n 2) (n 3) 1)) = _; rw [← hq1, eb3, eg4])])
          have hF5 : rF (r 0) (n 2) (n 3) 5 = (1, pg4) := (rF_up (i := 3) (by decide) (by rw [hFF]; simp)).trans hFF
          refine z_iload_n C dX4_readSitter_19 rfl (show zlk _ 1 = some (.int (rS (r 0) (n 2) (n 3) 2)) from rfl) ?_
          refine z_aload_n C dX4_readSitter_20 rfl (show zlk _ 0 = some (.ref (ad 1)) from rfl) ?_
          refine z_iconst C (v := nI 0) dX4_readSitter_21 (by decide) ?_
          refine z_bipush C (v := nI 63) dX4_readSitter_22 (by decide) ?_
          refine z_callVi C (As := [.int (nI 0), .int (nI 63)]) (rest := [.int (rS (r 0) (n 2) (n 3) 2)]) (c_X4_readNumber_1 l θ ea ad (cnv (n 0) (n 1) (n 2) pg4 1 (n 5) (n 6) (n 7) (n 8) (n 9) (n 10) (n 11) (n 12) (n 13) (n 14) (n 15) (n 16) (n 17) (n 18) (n 19) (n 20)) (cgv (g 0) (g 1) (nI pg4) (g 3) (g 4) (g 5) (g 6)) b r V 0 63 (show ¬ 1 = 0 by decide) (show 1 < 2 ^ 31 by decide)) gX4_readSitter_X4_readNumber rfl 2 (by decide +kernel) (by decide) (by decide) 1 rfl rfl rfl rfl rfl (Nat.le_of_ble_eq_true rfl) dX4_readSitter_24 ?_
          rintro _ _ ⟨rfl, rfl⟩
          refine z_top (v' := .int (nI 0)) rfl ?_
          refine z_bipush C (v := nI 6) dX4_readSitter_27 (by decide) ?_
          refine z_iload_n C dX4_readSitter_29 rfl (show zlk _ 2 = some (.int (nI 2)) from rfl) ?_
          refine z_imulN C dX4_readSitter_30 ?_
          refine z_top (v' := .int (nI 12)) rfl ?_
          refine z_ishl C dX4_readSitter_31 ?_
          refine z_ior C dX4_readSitter_32 ?_
          refine z_istore_n C [(1, .int ((rS (r 0) (n 2) (n 3) 2) ||| ((nI 0) <<< ((nI 12) &&& 31)))), (2, .int (nI 2)), (0, .ref (ad 1))] dX4_readSitter_33 rfl (by decide) rfl ?_
          refine z_iincN C [(2, .int (nI 3)), (1, .int ((rS (r 0) (n 2) (n 3) 2) ||| ((nI 0) <<< ((nI 12) &&& 31)))), (0, .ref (ad 1))] dX4_readSitter_34 rfl (by decide) rfl ?_
          refine z_goto C 4 dX4_readSitter_37 (by decide) ?_
          refine z_iload_n C dX4_readSitter_4 rfl (show zlk _ 2 = some (.int (nI 3)) from rfl) ?_
          refine z_iconst C (v := nI 5) dX4_readSitter_5 (by decide) ?_
          refine z_icmp_geF C 40 dX4_readSitter_6 (by decide) (by omega) (by omega) (by decide) ?_
          refine z_iload_n C dX4_readSitter_9 rfl (show zlk _ 2 = some (.int (nI 3)) from rfl) ?_
          refine z_if_leN C 19 dX4_readSitter_10 (by decide) (by decide) (fun h => absurd h (by decide)) (fun _ => ?_)
          refine z_aload_n C dX4_readSitter_13 rfl (show zlk _ 0 = some (.ref (ad 1)) from rfl) ?_
          refine z_bipush C (v := nI 44) dX4_readSitter_14 (by decide) ?_
          refine z_callVv C (As := [.int (nI 44)]) (rest := []) (c_X4_readSign_1 l θ ea ad (cnv (n 0) (n 1) (n 2) pg4 1 (n 5) (n 6) (n 7) (n 8) (n 9) (n 10) (n 11) (n 12) (n 13) (n 14) (n 15) (n 16) (n 17) (n 18) (n 19) (n 20)) (cgv (g 0) (g 1) (nI pg4) (g 3) (g 4) (g 5) (g 6)) b r V (nI 44) (show ¬ 1 = 0 by decide) (show 1 < 2 ^ 31 by decide)) gX4_readSitter_X4_readSign rfl 1 (by decide +kernel) (by decide) (by decide) 1 rfl rfl rfl rfl rfl (Nat.le_of_ble_eq_true rfl) dX4_readSitter_16 ?_
          rintro _ rfl
          refine z_iload_n C dX4_readSitter_19 rfl (show zlk _ 1 = some (.int ((rS (r 0) (n 2) (n 3) 2) ||| ((nI 0) <<< ((nI 12) &&& 31)))) from rfl) ?_
          refine z_aload_n C dX4_readSitter_20 rfl (show zlk _ 0 = some (.ref (ad 1)) from rfl) ?_
          refine z_iconst C (v := nI 0) dX4_readSitter_21 (by decide) ?_
          refine z_bipush C (v := nI 63) dX4_readSitter_22 (by decide) ?_
          refine z_callVi C (As := [.int (nI 0), .int (nI 63)]) (rest := [.int ((rS (r 0) (n 2) (n 3) 2) ||| ((nI 0) <<< ((nI 12) &&& 31)))]) (c_X4_readNumber_1 l θ ea ad (cnv (n 0) (n 1) (n 2) pg4 1 (n 5) (n 6) (n 7) (n 8) (n 9) (n 10) (n 11) (n 12) (n 13) (n 14) (n 15) (n 16) (n 17) (n 18) (n 19) (n 20)) (cgv (g 0) (g 1) (nI pg4) (g 3) (g 4) (g 5) (g 6)) b r V 0 63 (show ¬ 1 = 0 by decide) (show 1 < 2 ^ 31 by decide)) gX4_readSitter_X4_readNumber rfl 2 (by decide +kernel) (by decide) (by decide) 1 rfl rfl rfl rfl rfl (Nat.le_of_ble_eq_true rfl) dX4_readSitter_24 ?_
          rintro _ _ ⟨rfl, rfl⟩
          refine z_top (v' := .int (nI 0)) rfl ?_
          refine z_bipush C (v := nI 6) dX4_readSitter_27 (by decide) ?_
          refine z_iload_n C dX4_readSitter_29 rfl (show zlk _ 2 = some (.int (nI 3)) from rfl) ?_
          refine z_imulN C dX4_readSitter_30 ?_
          refine z_top (v' := .int (nI 18)) rfl ?_
          refine z_ishl C dX4_readSitter_31 ?_
          refine z_ior C dX4_readSitter_32 ?_
          refine z_istore_n C [(1, .int (((rS (r 0) (n 2) (n 3) 2) ||| ((nI 0) <<< ((nI 12) &&& 31))) ||| ((nI 0) <<< ((nI 18) &&& 31)))), (2, .int (nI 3)), (0, .ref (ad 1))] dX4_readSitter_33 rfl (by decide) rfl ?_
          refine z_iincN C [(2, .int (nI 4)), (1, .int (((rS (r 0) (n 2) (n 3) 2) ||| ((nI 0) <<< ((nI 12) &&& 31))) ||| ((nI 0) <<< ((nI 18) &&& 31)))), (0, .ref (ad 1))] dX4_readSitter_34 rfl (by decide) rfl ?_
          refine z_goto C 4 dX4_readSitter_37 (by decide) ?_
          refine z_iload_n C dX4_readSitter_4 rfl (show zlk _ 2 = some (.int (nI 4)) from rfl) ?_
          refine z_iconst C (v := nI 5) dX4_readSitter_5 (by decide) ?_
          refine z_icmp_geF C 40 dX4_readSitter_6 (by decide) (by omega) (by omega) (by decide) ?_
          refine z_iload_n C dX4_readSitter_9 rfl (show zlk _ 2 = some (.int (nI 4)) from rfl) ?_
          refine z_if_leN C 19 dX4_readSitter_10 (by decide) (by decide) (fun h => absurd h (by decide)) (fun _ => ?_)
          refine z_aload_n C dX4_readSitter_13 rfl (show zlk _ 0 = some (.ref (ad 1)) from rfl) ?_
          refine z_bipush C (v := nI 44) dX4_readSitter_14 (by decide) ?_
          refine z_callVv C (As := [.int (nI 44)]) (rest := []) (c_X4_readSign_1 l θ ea ad (cnv (n 0) (n 1) (n 2) pg4 1 (n 5) (n 6) (n 7) (n 8) (n 9) (n 10) (n 11) (n 12) (n 13) (n 14) (n 15) (n 16) (n 17) (n 18) (n 19) (n 20)) (cgv (g 0) (g 1) (nI pg4) (g 3) (g 4) (g 5) (g 6)) b r V (nI 44) (show ¬ 1 = 0 by decide) (show 1 < 2 ^ 31 by decide)) gX4_readSitter_X4_readSign rfl 1 (by decide +kernel) (by decide) (by decide) 1 rfl rfl rfl rfl rfl (Nat.le_of_ble_eq_true rfl) dX4_readSitter_16 ?_
          rintro _ rfl
          refine z_iload_n C dX4_readSitter_19 rfl (show zlk _ 1 = some (.int (((rS (r 0) (n 2) (n 3) 2) ||| ((nI 0) <<< ((nI 12) &&& 31))) ||| ((nI 0) <<< ((nI 18) &&& 31)))) from rfl) ?_
          refine z_aload_n C dX4_readSitter_20 rfl (show zlk _ 0 = some (.ref (ad 1)) from rfl) ?_
          refine z_iconst C (v := nI 0) dX4_readSitter_21 (by decide) ?_
          refine z_bipush C (v := nI 63) dX4_readSitter_22 (by decide) ?_
          refine z_callVi C (As := [.int (nI 0), .int (nI 63)]) (rest := [.int (((rS (r 0) (n 2) (n 3) 2) ||| ((nI 0) <<< ((nI 12) &&& 31))) ||| ((nI 0) <<< ((nI 18) &&& 31)))]) (c_X4_readNumber_1 l θ ea ad (cnv (n 0) (n 1) (n 2) pg4 1 (n 5) (n 6) (n 7) (n 8) (n 9) (n 10) (n 11) (n 12) (n 13) (n 14) (n 15) (n 16) (n 17) (n 18) (n 19) (n 20)) (cgv (g 0) (g 1) (nI pg4) (g 3) (g 4) (g 5) (g 6)) b r V 0 63 (show ¬ 1 = 0 by decide) (show 1 < 2 ^ 31 by decide)) gX4_readSitter_X4_readNumber rfl 2 (by decide +kernel) (by decide) (by decide) 1 rfl rfl rfl rfl rfl (Nat.le_of_ble_eq_true rfl) dX4_readSitter_24 ?_
          rintro _ _ ⟨rfl, rfl⟩
          refine z_top (v' := .int (nI 0)) rfl ?_
          refine z_bipush C (v := nI 6) dX4_readSitter_27 (by decide) ?_
          refine z_iload_n C dX4_readSitter_29 rfl (show zlk _ 2 = some (.int (nI 4)) from rfl) ?_
          refine z_imulN C dX4_readSitter_30 ?_
          refine z_top (v' := .int (nI 24)) rfl ?_
          refine z_ishl C dX4_readSitter_31 ?_
          refine z_ior C dX4_readSitter_32 ?_
          refine z_istore_n C [(1, .int ((((rS (r 0) (n 2) (n 3) 2) ||| ((nI 0) <<< ((nI 12) &&& 31))) ||| ((nI 0) <<< ((nI 18) &&& 31))) ||| ((nI 0) <<< ((nI 24) &&& 31)))), (2, .int (nI 4)), (0, .ref (ad 1))] dX4_readSitter_33 rfl (by decide) rfl ?_
          refine z_iincN C [(2, .int (nI 5)), (1, .int ((((rS (r 0) (n 2) (n 3) 2) ||| ((nI 0) <<< ((nI 12) &&& 31))) ||| ((nI 0) <<< ((nI 18) &&& 31))) ||| ((nI 0) <<< ((nI 24) &&& 31)))), (0, .ref (ad 1))] dX4_readSitter_34 rfl (by decide) rfl ?_
          refine z_goto C 4 dX4_readSitter_37 (by decide) ?_
          refine z_iload_n C dX4_readSitter_4 rfl (show zlk _ 2 = some (.int (nI 5)) from rfl) ?_
          refine z_iconst C (v := nI 5) dX4_readSitter_5 (by decide) ?_
          refine z_icmp_geT C 40 dX4_readSitter_6 (by decide) (by omega) (by omega) (by decide) ?_
          refine z_aload_n C dX4_readSitter_40 rfl (show zlk _ 0 = some (.ref (ad 1)) from rfl) ?_
          refine z_get C hinX4 1 cc_1 rfl 1 (by decide) (by decide +kernel) cg_1_1 dX4_readSitter_41 ?_
          refine z_getN C (host := "GnatPortraits") hinX0 2 cc_2 rfl 2 (by decide) (by decide +kernel) ch_2_2 dX4_readSitter_44 ?_
          refine z_bipush C (v := nI 6) dX4_readSitter_47 (by decide) ?_
          refine z_icmp_geF C 81 dX4_readSitter_49 (by decide) (by omega) (by omega) (by omega) ?_
          refine z_aload_n C dX4_readSitter_52 rfl (show zlk _ 0 = some (.ref (ad 1)) from rfl) ?_
          refine z_get C hinX4 1 cc_1 rfl 1 (by decide) (by decide +kernel) cg_1_1 dX4_readSitter_53 ?_
          refine z_getN C (host := "GnatPortraits") hinX0 2 cc_2 rfl 5 (by decide) (by decide +kernel) cg_2_5 dX4_readSitter_56 ?_
          refine z_aload_n C dX4_readSitter_59 rfl (show zlk _ 0 = some (.ref (ad 1)) from rfl) ?_
          refine z_get C hinX4 1 cc_1 rfl 1 (by decide) (by decide +kernel) cg_1_1 dX4_readSitter_60 ?_
          refine z_getN C (host := "GnatPortraits") hinX0 2 cc_2 rfl 2 (by decide) (by decide +kernel) ch_2_2 dX4_readSitter_63 ?_
          refine z_iload_n C dX4_readSitter_66 rfl (show zlk _ 1 = some (.int ((((rS (r 0) (n 2) (n 3) 2) ||| ((nI 0) <<< ((nI 12) &&& 31))) ||| ((nI 0) <<< ((nI 18) &&& 31))) ||| ((nI 0) <<< ((nI 24) &&& 31)))) from rfl) ?_
          refine z_iast C (f := (r 1)) 12 ca_12 (n 6) rfl (by omega) (by decide) _ cs_12 dX4_readSitter_67 ?_
          refine z_aload_n C dX4_readSitter_68 rfl (show zlk _ 0 = some (.ref (ad 1)) from rfl) ?_
          refine z_get C hinX4 1 cc_1 rfl 1 (by decide) (by decide +kernel) cg_1_1 dX4_readSitter_69 ?_
          refine z_dup C dX4_readSitter_72 rfl ?_
          refine z_getN C (host := "GnatPortraits") hinX0 2 cc_2 rfl 2 (by decide) (by decide +kernel) ch_2_2 dX4_readSitter_73 ?_
          refine z_iconst C (v := nI 1) dX4_readSitter_76 (by decide) ?_
          refine z_iaddN C dX4_readSitter_77 ?_
          refine z_putN C (host := "GnatPortraits") hinX0 tyX0 tyX0_ok nmX0 2 cc_2 rfl 2 (by decide) (by decide +kernel) rfl rfl rfl rfl (Nat.le_of_ble_eq_true rfl) _ cv_2_2 dX4_readSitter_78 ?_
          exact E _ _ _ (Or.inl (by rw [hF5]; exact ⟨by simp, _, _, (show pg4 ≤ n 2 by omega), (cw_eq rfl rfl rfl rfl rfl rfl rfl rfl rfl rfl rfl rfl rfl rfl rfl rfl rfl rfl rfl rfl rfl rfl rfl rfl rfl rfl rfl rfl rfl rfl rfl rfl rfl rfl rfl rfl rfl rfl rfl rfl rfl rfl rfl rfl rfl rfl rfl rfl rfl rfl rfl)⟩)) dX4_readSitter_81
    · replace eg2 : sk (r 0) (n 2) (pb1) = pg2 := eg2
      replace hs2 : ¬ m_hr (r 0) (n 2) pg2 = nI 44 := hs2
      have lf2 : pg2 ≤ n 2 := by rw [← eg2]; exact (sk_le lb1).2
      refine z_X (Y := CW θ ea ad (cnv (n 0) (n 1) (n 2) pg2 1 (n 5) (n 6) (n 7) (n 8) (n 9) (n 10) (n 11) (n 12) (n 13) (n 14) (n 15) (n 16) (n 17) (n 18) (n 19) (n 20)) (cgv (g 0) (g 1) (nI pg2) (g 3) (g 4) (g 5) (g 6)) b r V) (cw_eq rfl rfl rfl rfl rfl rfl rfl rfl rfl rfl rfl rfl rfl rfl rfl rfl rfl rfl rfl rfl rfl rfl rfl rfl rfl rfl rfl rfl rfl rfl rfl rfl rfl rfl rfl rfl rfl rfl rfl rfl rfl rfl rfl rfl rfl rfl rfl rfl rfl rfl rfl) ?_
      have hFF : rF (r 0) (n 2) (n 3) 2 = (1, pg2) := (rF_sign (by rw [hF1]) (by show ¬ m_hr (r 0) (n 2) (sk (r 0) (n 2) (nE (r 0) (n 2) (rwq (r 0) (n 2) (n 3) 0))) = nI 44; rw [← hq0, eb1, eg2]; exact hs2)).trans (by rw [show sk (r 0) (n 2) (rE (r 0) (n 2) (n 3) 1) = pg2 by (show sk (r 0) (n 2) (nE (r 0) (n 2) (rwq (r 0) (n 2) (n 3) 0)) = _; rw [← hq0, eb1, eg2])])
      have hF5 : rF (r 0) (n 2) (n 3) 5 = (1, pg2) := (rF_up (i := 2) (by decide) (by rw [hFF]; simp)).trans hFF
      refine z_iload_n C dX4_readSitter_19 rfl (show zlk _ 1 = some (.int (rS (r 0) (n 2) (n 3) 1)) from rfl) ?_
      refine z_aload_n C dX4_readSitter_20 rfl (show zlk _ 0 = some (.ref (ad 1)) from rfl) ?_
      refine z_iconst C (v := nI 0) dX4_readSitter_21 (by decide) ?_
      refine z_bipush C (v := nI 63) dX4_readSitter_22 (by decide) ?_
      refine z_callVi C (As := [.int (nI 0), .int (nI 63)]) (rest := [.int (rS (r 0) (n 2) (n 3) 1)]) (c_X4_readNumber_1 l θ ea ad (cnv (n 0) (n 1) (n 2) pg2 1 (n 5) (n 6) (n 7) (n 8) (n 9) (n 10) (n 11) (n 12) (n 13) (n 14) (n 15) (n 16) (n 17) (n 18) (n 19) (n 20)) (cgv (g 0) (g 1) (nI pg2) (g 3) (g 4) (g 5) (g 6)) b r V 0 63 (show ¬ 1 = 0 by decide) (show 1 < 2 ^ 31 by decide)) gX4_readSitter_X4_readNumber rfl 2 (by decide +kernel) (by decide) (by decide) 1 rfl rfl rfl rfl rfl (Nat.le_of_ble_eq_true rfl) dX4_readSitter_24 ?_
      rintro _ _ ⟨rfl, rfl⟩
      refine z_top (v' := .int (nI 0)) rfl ?_
      refine z_bipush C (v := nI 6) dX4_readSitter_27 (by decide) ?_
      refine z_iload_n C dX4_readSitter_29 rfl (show zlk _ 2 = some (.int (nI 1)) from rfl) ?_
      refine z_imulN C dX4_readSitter_30 ?_
      refine z_top (v' := .int (nI 6)) rfl ?_
      refine z_ishl C dX4_readSitter_31 ?_
      refine z_ior C dX4_readSitter_32 ?_
      refine z_istore_n C [(1, .int ((rS (r 0) (n 2) (n 3) 1) ||| ((nI 0) <<< ((nI 6) &&& 31)))), (2, .int (nI 1)), (0, .ref (ad 1))] dX4_readSitter_33 rfl (by decide) rfl ?_
      refine z_iincN C [(2, .int (nI 2)), (1, .int ((rS (r 0) (n 2) (n 3) 1) ||| ((nI 0) <<< ((nI 6) &&& 31)))), (0, .ref (ad 1))] dX4_readSitter_34 rfl (by decide) rfl ?_
      refine z_goto C 4 dX4_readSitter_37 (by decide) ?_
      refine z_iload_n C dX4_readSitter_4 rfl (show zlk _ 2 = some (.int (nI 2)) from rfl) ?_
      refine z_iconst C (v := nI 5) dX4_readSitter_5 (by decide) ?_
      refine z_icmp_geF C 40 dX4_readSitter_6 (by decide) (by omega) (by omega) (by decide) ?_
      refine z_iload_n C dX4_readSitter_9 rfl (show zlk _ 2 = some (.int (nI 2)) from rfl) ?_
      refine z_if_leN C 19 dX4_readSitter_10 (by decide) (by decide) (fun h => absurd h (by decide)) (fun _ => ?_)
      refine z_aload_n C dX4_readSitter_13 rfl (show zlk _ 0 = some (.ref (ad 1)) from rfl) ?_
      refine z_bipush C (v := nI 44) dX4_readSitter_14 (by decide) ?_
      refine z_callVv C (As := [.int (nI 44)]) (rest := []) (c_X4_readSign_1 l θ ea ad (cnv (n 0) (n 1) (n 2) pg2 1 (n 5) (n 6) (n 7) (n 8) (n 9) (n 10) (n 11) (n 12) (n 13) (n 14) (n 15) (n 16) (n 17) (n 18) (n 19) (n 20)) (cgv (g 0) (g 1) (nI pg2) (g 3) (g 4) (g 5) (g 6)) b r V (nI 44) (show ¬ 1 = 0 by decide) (show 1 < 2 ^ 31 by decide)) gX4_readSitter_X4_readSign rfl 1 (by decide +kernel) (by decide) (by decide) 1 rfl rfl rfl rfl rfl (Nat.le_of_ble_eq_true rfl) dX4_readSitter_16 ?_
      rintro _ rfl
      refine z_iload_n C dX4_readSitter_19 rfl (show zlk _ 1 = some (.int ((rS (r 0) (n 2) (n 3) 1) ||| ((nI 0) <<< ((nI 6) &&& 31)))) from rfl) ?_
      refine z_aload_n C dX4_readSitter_20 rfl (show zlk _ 0 = some (.ref (ad 1)) from rfl) ?_
      refine z_iconst C (v := nI 0) dX4_readSitter_21 (by decide) ?_
      refine z_bipush C (v := nI 63) dX4_readSitter_22 (by decide) ?_
      refine z_callVi C (As := [.int (nI 0), .int (nI 63)]) (rest := [.int ((rS (r 0) (n 2) (n 3) 1) ||| ((nI 0) <<< ((nI 6) &&& 31)))]) (c_X4_readNumber_1 l θ ea ad (cnv (n 0) (n 1) (n 2) pg2 1 (n 5) (n 6) (n 7) (n 8) (n 9) (n 10) (n 11) (n 12) (n 13) (n 14) (n 15) (n 16) (n 17) (n 18) (n 19) (n 20)) (cgv (g 0) (g 1) (nI pg2) (g 3) (g 4) (g 5) (g 6)) b r V 0 63 (show ¬ 1 = 0 by decide) (show 1 < 2 ^ 31 by decide)) gX4_readSitter_X4_readNumber rfl 2 (by decide +kernel) (by decide) (by decide) 1 rfl rfl rfl rfl rfl (Nat.le_of_ble_eq_true rfl) dX4_readSitter_24 ?_
      rintro _ _ ⟨rfl, rfl⟩
      refine z_top (v' := .int (nI 0)) rfl ?_
      refine z_bipush C (v := nI 6) dX4_readSitter_27 (by decide) ?_
      refine z_iload_n C dX4_readSitter_29 rfl (show zlk _ 2 = some (.int (nI 2)) from rfl) ?_
      refine z_imulN C dX4_readSitter_30 ?_
      refine z_top (v' := .int (nI 12)) rfl ?_
      refine z_ishl C dX4_readSitter_31 ?_
      refine z_ior C dX4_readSitter_32 ?_
      refine z_istore_n C [(1, .int (((rS (r 0) (n 2) (n 3) 1) ||| ((nI 0) <<< ((nI 6) &&& 31))) ||| ((nI 0) <<< ((nI 12) &&& 31)))), (2, .int (nI 2)), (0, .ref (ad 1))] dX4_readSitter_33 rfl (by decide) rfl ?_
      refine z_iincN C [(2, .int (nI 3)), (1, .int (((rS (r 0) (n 2) (n 3) 1) ||| ((nI 0) <<< ((nI 6) &&& 31))) ||| ((nI 0) <<< ((nI 12) &&& 31)))), (0, .ref (ad 1))] dX4_readSitter_34 rfl (by decide) rfl ?_
      refine z_goto C 4 dX4_readSitter_37 (by decide) ?_
      refine z_iload_n C dX4_readSitter_4 rfl (show zlk _ 2 = some (.int (nI 3)) from rfl) ?_
      refine z_iconst C (v := nI 5) dX4_readSitter_5 (by decide) ?_
      refine z_icmp_geF C 40 dX4_readSitter_6 (by decide) (by omega) (by omega) (by decide) ?_
      refine z_iload_n C dX4_readSitter_9 rfl (show zlk _ 2 = some (.int (nI 3)) from rfl) ?_
      refine z_if_leN C 19 dX4_readSitter_10 (by decide) (by decide) (fun h => absurd h (by decide)) (fun _ => ?_)
      refine z_aload_n C dX4_readSitter_13 rfl (show zlk _ 0 = some (.ref (ad 1)) from rfl) ?_
      refine z_bipush C (v := nI 44) dX4_readSitter_14 (by decide) ?_
      refine z_callVv C (As := [.int (nI 44)]) (rest := []) (c_X4_readSign_1 l θ ea ad (cnv (n 0) (n 1) (n 2) pg2 1 (n 5) (n 6) (n 7) (n 8) (n 9) (n 10) (n 11) (n 12) (n 13) (n 14) (n 15) (n 16) (n 17) (n 18) (n 19) (n 20)) (cgv (g 0) (g 1) (nI pg2) (g 3) (g 4) (g 5) (g 6)) b r V (nI 44) (show ¬ 1 = 0 by decide) (show 1 < 2 ^ 31 by decide)) gX4_readSitter_X4_readSign rfl 1 (by decide +kernel) (by decide) (by decide) 1 rfl rfl rfl rfl rfl (Nat.le_of_ble_eq_true rfl) dX4_readSitter_16 ?_
      rintro _ rfl
      refine z_iload_n C dX4_readSitter_19 rfl (show zlk _ 1 = some (.int (((rS (r 0) (n 2) (n 3) 1) ||| ((nI 0) <<< ((nI 6) &&& 31))) ||| ((nI 0) <<< ((nI 12) &&& 31)))) from rfl) ?_
      refine z_aload_n C dX4_readSitter_20 rfl (show zlk _ 0 = some (.ref (ad 1)) from rfl) ?_
      refine z_iconst C (v := nI 0) dX4_readSitter_21 (by decide) ?_
      refine z_bipush C (v := nI 63) dX4_readSitter_22 (by decide) ?_
      refine z_callVi C (As := [.int (nI 0), .int (nI 63)]) (rest := [.int (((rS (r 0) (n 2) (n 3) 1) ||| ((nI 0) <<< ((nI 6) &&& 31))) ||| ((nI 0) <<< ((nI 12) &&& 31)))]) (c_X4_readNumber_1 l θ ea ad (cnv (n 0) (n 1) (n 2) pg2 1 (n 5) (n 6) (n 7) (n 8) (n 9) (n 10) (n 11) (n 12) (n 13) (n 14) (n 15) (n 16) (n 17) (n 18) (n 19) (n 20)) (cgv (g 0) (g 1) (nI pg2) (g 3) (g 4) (g 5) (g 6)) b r V 0 63 (show ¬ 1 = 0 by decide) (show 1 < 2 ^ 31 by decide)) gX4_readSitter_X4_readNumber rfl 2 (by decide +kernel) (by decide) (by decide) 1 rfl rfl rfl rfl rfl (Nat.le_of_ble_eq_true rfl) dX4_readSitter_24 ?_
      rintro _ _ ⟨rfl, rfl⟩
      refine z_top (v' := .int (nI 0)) rfl ?_
      refine z_bipush C (v := nI 6) dX4_readSitter_27 (by decide) ?_
      refine z_iload_n C dX4_readSitter_29 rfl (show zlk _ 2 = some (.int (nI 3)) from rfl) ?_
      refine z_imulN C dX4_readSitter_30 ?_
      refine z_top (v' := .int (nI 18)) rfl ?_
      refine z_ishl C dX4_readSitter_31 ?_
      refine z_ior C dX4_readSitter_32 ?_
      refine z_istore_n C [(1, .int ((((rS (r 0) (n 2) (n 3) 1) ||| ((nI 0) <<< ((nI 6) &&& 31))) ||| ((nI 0) <<< ((nI 12) &&& 31))) ||| ((nI 0) <<< ((nI 18) &&& 31)))), (2, .int (nI 3)), (0, .ref (ad 1))] dX4_readSitter_33 rfl (by decide) rfl ?_
      refine z_iincN C [(2, .int (nI 4)), (1, .int ((((rS (r 0) (n 2) (n 3) 1) ||| ((nI 0) <<< ((nI 6) &&& 31))) ||| ((nI 0) <<< ((nI 12) &&& 31))) ||| ((nI 0) <<< ((nI 18) &&& 31)))), (0, .ref (ad 1))] dX4_readSitter_34 rfl (by decide) rfl ?_
      refine z_goto C 4 dX4_readSitter_37 (by decide) ?_
      refine z_iload_n C dX4_readSitter_4 rfl (show zlk _ 2 = some (.int (nI 4)) from rfl) ?_
      refine z_iconst C (v := nI 5) dX4_readSitter_5 (by decide) ?_
      refine z_icmp_geF C 40 dX4_readSitter_6 (by decide) (by omega) (by omega) (by decide) ?_
      refine z_iload_n C dX4_readSitter_9 rfl (show zlk _ 2 = some (.int (nI 4)) from rfl) ?_
      refine z_if_leN C 19 dX4_readSitter_10 (by decide) (by decide) (fun h => absurd h (by decide)) (fun _ => ?_)
      refine z_aload_n C dX4_readSitter_13 rfl (show zlk _ 0 = some (.ref (ad 1)) from rfl) ?_
      refine z_bipush C (v := nI 44) dX4_readSitter_14 (by decide) ?_
      refine z_callVv C (As := [.int (nI 44)]) (rest := []) (c_X4_readSign_1 l θ ea ad (cnv (n 0) (n 1) (n 2) pg2 1 (n 5) (n 6) (n 7) (n 8) (n 9) (n 10) (n 11) (n 12) (n 13) (n 14) (n 15) (n 16) (n 17) (n 18) (n 19) (n 20)) (cgv (g 0) (g 1) (nI pg2) (g 3) (g 4) (g 5) (g 6)) b r V (nI 44) (show ¬ 1 = 0 by decide) (show 1 < 2 ^ 31 by decide)) gX4_readSitter_X4_readSign rfl 1 (by decide +kernel) (by decide) (by decide) 1 rfl rfl rfl rfl rfl (Nat.le_of_ble_eq_true rfl) dX4_readSitter_16 ?_
      rintro _ rfl
      refine z_iload_n C dX4_readSitter_19 rfl (show zlk _ 1 = some (.int ((((rS (r 0) (n 2) (n 3) 1) ||| ((nI 0) <<< ((nI 6) &&& 31))) ||| ((nI 0) <<< ((nI 12) &&& 31))) ||| ((nI 0) <<< ((nI 18) &&& 31)))) from rfl) ?_
      refine z_aload_n C dX4_readSitter_20 rfl (show zlk _ 0 = some (.ref (ad 1)) from rfl) ?_
      refine z_iconst C (v := nI 0) dX4_readSitter_21 (by decide) ?_
      refine z_bipush C (v := nI 63) dX4_readSitter_22 (by decide) ?_
      refine z_callVi C (As := [.int (nI 0), .int (nI 63)]) (rest := [.int ((((rS (r 0) (n 2) (n 3) 1) ||| ((nI 0) <<< ((nI 6) &&& 31))) ||| ((nI 0) <<< ((nI 12) &&& 31))) ||| ((nI 0) <<< ((nI 18) &&& 31)))]) (c_X4_readNumber_1 l θ ea ad (cnv (n 0) (n 1) (n 2) pg2 1 (n 5) (n 6) (n 7) (n 8) (n 9) (n 10) (n 11) (n 12) (n 13) (n 14) (n 15) (n 16) (n 17) (n 18) (n 19) (n 20)) (cgv (g 0) (g 1) (nI pg2) (g 3) (g 4) (g 5) (g 6)) b r V 0 63 (show ¬ 1 = 0 by decide) (show 1 < 2 ^ 31 by decide)) gX4_readSitter_X4_readNumber rfl 2 (by decide +kernel) (by decide) (by decide) 1 rfl rfl rfl rfl rfl (Nat.le_of_ble_eq_true rfl) dX4_readSitter_24 ?_
      rintro _ _ ⟨rfl, rfl⟩
      refine z_top (v' := .int (nI 0)) rfl ?_
      refine z_bipush C (v := nI 6) dX4_readSitter_27 (by decide) ?_
      refine z_iload_n C dX4_readSitter_29 rfl (show zlk _ 2 = some (.int (nI 4)) from rfl) ?_
      refine z_imulN C dX4_readSitter_30 ?_
      refine z_top (v' := .int (nI 24)) rfl ?_
      refine z_ishl C dX4_readSitter_31 ?_
      refine z_ior C dX4_readSitter_32 ?_
      refine z_istore_n C [(1, .int (((((rS (r 0) (n 2) (n 3) 1) ||| ((nI 0) <<< ((nI 6) &&& 31))) ||| ((nI 0) <<< ((nI 12) &&& 31))) ||| ((nI 0) <<< ((nI 18) &&& 31))) ||| ((nI 0) <<< ((nI 24) &&& 31)))), (2, .int (nI 4)), (0, .ref (ad 1))] dX4_readSitter_33 rfl (by decide) rfl ?_
      refine z_iincN C [(2, .int (nI 5)), (1, .int (((((rS (r 0) (n 2) (n 3) 1) ||| ((nI 0) <<< ((nI 6) &&& 31))) ||| ((nI 0) <<< ((nI 12) &&& 31))) ||| ((nI 0) <<< ((nI 18) &&& 31))) ||| ((nI 0) <<< ((nI 24) &&& 31)))), (0, .ref (ad 1))] dX4_readSitter_34 rfl (by decide) rfl ?_
      refine z_goto C 4 dX4_readSitter_37 (by decide) ?_
      refine z_iload_n C dX4_readSitter_4 rfl (show zlk _ 2 = some (.int (nI 5)) from rfl) ?_
      refine z_iconst C (v := nI 5) dX4_readSitter_5 (by decide) ?_
      refine z_icmp_geT C 40 dX4_readSitter_6 (by decide) (by omega) (by omega) (by decide) ?_
      refine z_aload_n C dX4_readSitter_40 rfl (show zlk _ 0 = some (.ref (ad 1)) from rfl) ?_
      refine z_get C hinX4 1 cc_1 rfl 1 (by decide) (by decide +kernel) cg_1_1 dX4_readSitter_41 ?_
      refine z_getN C (host := "GnatPortraits") hinX0 2 cc_2 rfl 2 (by decide) (by decide +kernel) ch_2_2 dX4_readSitter_44 ?_
      refine z_bipush C (v := nI 6) dX4_readSitter_47 (by decide) ?_
      refine z_icmp_geF C 81 dX4_readSitter_49 (by decide) (by omega) (by omega) (by omega) ?_
      refine z_aload_n C dX4_readSitter_52 rfl (show zlk _ 0 = some (.ref (ad 1)) from rfl) ?_
      refine z_get C hinX4 1 cc_1 rfl 1 (by decide) (by decide +kernel) cg_1_1 dX4_readSitter_53 ?_
      refine z_getN C (host := "GnatPortraits") hinX0 2 cc_2 rfl 5 (by decide) (by decide +kernel) cg_2_5 dX4_readSitter_56 ?_
      refine z_aload_n C dX4_readSitter_59 rfl (show zlk _ 0 = some (.ref (ad 1)) from rfl) ?_
      refine z_get C hinX4 1 cc_1 rfl 1 (by decide) (by decide +kernel) cg_1_1 dX4_readSitter_60 ?_
      refine z_getN C (host := "GnatPortraits") hinX0 2 cc_2 rfl 2 (by decide) (by decide +kernel) ch_2_2 dX4_readSitter_63 ?_
      refine z_iload_n C dX4_readSitter_66 rfl (show zlk _ 1 = some (.int (((((rS (r 0) (n 2) (n 3) 1) ||| ((nI 0) <<< ((nI 6) &&& 31))) ||| ((nI 0) <<< ((nI 12) &&& 31))) ||| ((nI 0) <<< ((nI 18) &&& 31))) ||| ((nI 0) <<< ((nI 24) &&& 31)))) from rfl) ?_
      refine z_iast C (f := (r 1)) 12 ca_12 (n 6) rfl (by omega) (by decide) _ cs_12 dX4_readSitter_67 ?_
      refine z_aload_n C dX4_readSitter_68 rfl (show zlk _ 0 = some (.ref (ad 1)) from rfl) ?_
      refine z_get C hinX4 1 cc_1 rfl 1 (by decide) (by decide +kernel) cg_1_1 dX4_readSitter_69 ?_
      refine z_dup C dX4_readSitter_72 rfl ?_
      refine z_getN C (host := "GnatPortraits") hinX0 2 cc_2 rfl 2 (by decide) (by decide +kernel) ch_2_2 dX4_readSitter_73 ?_
      refine z_iconst C (v := nI 1) dX4_readSitter_76 (by decide) ?_
      refine z_iaddN C dX4_readSitter_77 ?_
      refine z_putN C (host := "GnatPortraits") hinX0 tyX0 tyX0_ok nmX0 2 cc_2 rfl 2 (by decide) (by decide +kernel) rfl rfl rfl rfl (Nat.le_of_ble_eq_true rfl) _ cv_2_2 dX4_readSitter_78 ?_
      exact E _ _ _ (Or.inl (by rw [hF5]; exact ⟨by simp, _, _, (show pg2 ≤ n 2 by omega), (cw_eq rfl rfl rfl rfl rfl rfl rfl rfl rfl rfl rfl rfl rfl rfl rfl rfl rfl rfl rfl rfl rfl rfl rfl rfl rfl rfl rfl rfl rfl rfl rfl rfl rfl rfl rfl rfl rfl rfl rfl rfl rfl rfl rfl rfl rfl rfl rfl rfl rfl rfl rfl)⟩)) dX4_readSitter_81

