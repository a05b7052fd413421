set_option maxHeartbeats 4000000 in
set_option maxRecDepth 100000 in
theorem c_X2_remember (l : Launch) (θ : zH) (ea : Nat → Nat → Nat) (ad : Nat → Nat) (n : Nat → Nat) (g : Nat → Int32) (b : Nat → Bool) (r : Nat → Nat → Int32) (V : Nat → Ev)  (h17 : n 17 < 16) (h16 : n 16 ≤ 16) : cV l yX2_remember wsX2_remember 2 θ [.ref (ad 5), .ref (ad 4)] (CW θ ea ad n g b r V) (fun Y => Y = CW θ ea ad (cnv (n 0) (n 1) (n 2) (n 3) (n 4) (n 5) (n 6) (n 7) (n 8) (n 9) (n 10) (n 11) (n 12) (n 13) (n 14) (n 15) (min (n 16 + 1) 16) ((n 17 + 1) % 16) (n 18) (n 19) (n 20)) g b r (va_up V (2 + n 17) ((g 3, g 4, g 5, b 2, g 6, n 13, n 14, n 15), (va_cpy (r 7) (V (2 + n 17)).2.1 0 0 5, va_cpy (r 8) (V (2 + n 17)).2.2.1 0 0 5, va_cpy (r 9) (V (2 + n 17)).2.2.2.1 0 0 4, va_cpy (r 10) (V (2 + n 17)).2.2.2.2.1 0 0 20, va_cpy (r 11) (V (2 + n 17)).2.2.2.2.2.1 0 0 20, va_cpy (r 12) (V (2 + n 17)).2.2.2.2.2.2 0 0 20)))) := by
  refine z_cV (by decide) rfl rfl (Nat.le_of_ble_eq_true rfl) (lv := [(0, .ref (ad 5)), (1, .ref (ad 4))]) rfl (fun κ C E => ?_)
  have hinX2 : ∀ w ∈ wsX20, w ∈ wsX2_remember := by decide +kernel
  refine z_aload_n C dX2_remember_0 rfl (show zlk _ 0 = some (.ref (ad 5)) from rfl) ?_
  refine z_get C hinX2 5 cc_5 rfl 2 (by decide) (by decide +kernel) cg_5_2 dX2_remember_1 ?_
  refine z_if_ltN C 16 dX2_remember_4 (by decide) (by omega) ?_
  refine z_aload_n C dX2_remember_7 rfl (show zlk _ 0 = some (.ref (ad 5)) from rfl) ?_
  refine z_get C hinX2 5 cc_5 rfl 2 (by decide) (by decide +kernel) cg_5_2 dX2_remember_8 ?_
  refine z_bipush C (v := nI 16) dX2_remember_11 (by decide) ?_
  refine z_icmp_ltT C 17 dX2_remember_13 (by decide) (by omega) (by omega) (by omega) ?_
  refine z_aload_n C dX2_remember_17 rfl (show zlk _ 1 = some (.ref (ad 4)) from rfl) ?_
  refine z_aload_n C dX2_remember_18 rfl (show zlk _ 0 = some (.ref (ad 5)) from rfl) ?_
  refine z_get C hinX2 5 cc_5 rfl 0 (by decide) (by decide +kernel) cg_5_0 dX2_remember_19 ?_
  refine z_aload_n C dX2_remember_22 rfl (show zlk _ 0 = some (.ref (ad 5)) from rfl) ?_
  refine z_get C hinX2 5 cc_5 rfl 2 (by decide) (by decide +kernel) cg_5_2 dX2_remember_23 ?_
  refine z_aald C (v := ea (2 + (n 17)) 0) 24 rfl (n 17) rfl (by omega) (by decide) rfl dX2_remember_26 ?_
  refine z_callTv C (As := [.ref (ad 4), .ref (ea (2 + (n 17)) 0)]) (rest := []) (host := "GnatPortraits") (c_X1_copy_out l θ ea ad n g b r V (2 + (n 17)) (by omega)) gX2_remember_X1_copy_n25 rfl 2 (by decide +kernel) (by decide +kernel) (by decide +kernel) (by decide +kernel) (by decide) (by decide) rfl rfl (Nat.le_of_ble_eq_true rfl) dX2_remember_27 ?_
  rintro _ rfl
  refine z_X (Y := CW θ ea ad n g b r (va_up V (2 + (n 17)) ((g 3, g 4, g 5, b 2, g 6, n 13, n 14, n 15), (va_cpy (r 7) (V (2 + (n 17))).2.1 0 0 5, va_cpy (r 8) (V (2 + (n 17))).2.2.1 0 0 5, va_cpy (r 9) (V (2 + (n 17))).2.2.2.1 0 0 4, va_cpy (r 10) (V (2 + (n 17))).2.2.2.2.1 0 0 20, va_cpy (r 11) (V (2 + (n 17))).2.2.2.2.2.1 0 0 20, va_cpy (r 12) (V (2 + (n 17))).2.2.2.2.2.2 0 0 20)))) (cw_eq rfl rfl rfl rfl rfl rfl rfl rfl rfl rfl rfl rfl rfl rfl rfl rfl rfl rfl rfl rfl rfl rfl rfl rfl rfl rfl rfl rfl rfl rfl rfl rfl rfl rfl rfl rfl rfl rfl rfl rfl rfl rfl rfl rfl rfl rfl rfl rfl rfl rfl rfl) ?_
  refine z_aload_n C dX2_remember_30 rfl (show zlk _ 0 = some (.ref (ad 5)) from rfl) ?_
  refine z_aload_n C dX2_remember_31 rfl (show zlk _ 0 = some (.ref (ad 5)) from rfl) ?_
  refine z_get C hinX2 5 cc_5 rfl 2 (by decide) (by decide +kernel) cg_5_2 dX2_remember_32 ?_
  refine z_iconst C (v := nI 1) dX2_remember_35 (by decide) ?_
  refine z_iaddN C dX2_remember_36 ?_
  refine z_bipush C (v := nI 16) dX2_remember_37 (by decide) ?_
  refine z_iremN C dX2_remember_39 (by omega) (by decide) (by decide) ?_
  refine z_put C hinX2 tyX2 tyX2_ok nmX2 5 cc_5 rfl 2 (by decide) (by decide +kernel) rfl rfl rfl rfl (Nat.le_of_ble_eq_true rfl) _ cp_5_2 dX2_remember_40 ?_
  refine z_aload_n C dX2_remember_43 rfl (show zlk _ 0 = some (.ref (ad 5)) from rfl) ?_
  refine z_aload_n C dX2_remember_44 rfl (show zlk _ 0 = some (.ref (ad 5)) from rfl) ?_
  refine z_get C hinX2 5 cc_5 rfl 1 (by decide) (by decide +kernel) ch_5_1 dX2_remember_45 ?_
  refine z_iconst C (v := nI 1) dX2_remember_48 (by decide) ?_
  refine z_iaddN C dX2_remember_49 ?_
  refine z_bipush C (v := nI 16) dX2_remember_50 (by decide) ?_
  refine z_mminN C (by decide +kernel) (by decide +kernel) (by decide +kernel) (by decide +kernel) (by decide) (Nat.le_of_ble_eq_true rfl) (by omega) (by omega) dX2_remember_52 ?_
  refine z_put C hinX2 tyX2 tyX2_ok nmX2 5 cc_5 rfl 1 (by decide) (by decide +kernel) rfl rfl rfl rfl (Nat.le_of_ble_eq_true rfl) _ cv_5_1 dX2_remember_55 ?_
  exact E _ _ _ ((cw_eq rfl rfl rfl rfl rfl rfl rfl rfl rfl rfl rfl rfl rfl rfl rfl rfl rfl rfl rfl rfl rfl rfl rfl rfl rfl rfl rfl rfl rfl rfl rfl rfl rfl rfl rfl rfl rfl rfl rfl rfl rfl rfl rfl rfl rfl rfl rfl rfl rfl rfl rfl)) dX2_remember_58

theorem k_fm_16 {nx : Nat} (hn : nx < 16) : k_fm (nI nx - nI 1) (nI 16) = nI ((nx + 15) % 16) := by
  have key : ∀ a : Fin 16, k_fm (nI a.val - nI 1) (nI 16) = nI ((a.val + 15) % 16) := by decide +kernel
  exact key ⟨nx, hn⟩
set_option maxHeartbeats 4000000 in
set_option maxRecDepth 100000 in
theorem c_X2_recall (l : Launch) (θ : zH) (ea : Nat → Nat → Nat) (ad : Nat → Nat) (n : Nat → Nat) (g : Nat → Int32) (b : Nat → Bool) (r : Nat → Nat → Int32) (V : Nat → Ev)  (h17 : n 17 < 16) (h16 : n 16 ≤ 16) (h1 : 1 ≤ n 16) : cV l yX2_recall wsX2_recall 2 θ [.ref (ad 5), .ref (ad 4)] (CW θ ea ad n g b r V) (fun Y => Y = CW θ ea ad (cnv (n 0) (n 1) (n 2) (n 3) (n 4) (n 5) (n 6) (n 7) (n 8) (n 9) (n 10) (n 11) (n 12) ((V (2 + (n 17 + 15) % 16)).1.2.2.2.2.2.1) ((V (2 + (n 17 + 15) % 16)).1.2.2.2.2.2.2.1) ((V (2 + (n 17 + 15) % 16)).1.2.2.2.2.2.2.2) (max (n 16 - 1) 0) ((n 17 + 15) % 16) (n 18) (n 19) (n 20)) (cgv (g 0) (g 1) (g 2) ((V (2 + (n 17 + 15) % 16)).1.1) ((V (2 + (n 17 + 15) % 16)).1.2.1) ((V (2 + (n 17 + 15) % 16)).1.2.2.1) ((V (2 + (n 17 + 15) % 16)).1.2.2.2.2.1)) (cbv (b 0) (b 1) ((V (2 + (n 17 + 15) % 16)).1.2.2.2.1)) (crv (r 0) (r 1) (r 2) (r 3) (r 4) (r 5) (r 6) (va_cpy (V (2 + (n 17 + 15) % 16)).2.1 (r 7) 0 0 5) (va_cpy (V (2 + (n 17 + 15) % 16)).2.2.1 (r 8) 0 0 5) (va_cpy (V (2 + (n 17 + 15) % 16)).2.2.2.1 (r 9) 0 0 4) (va_cpy (V (2 + (n 17 + 15) % 16)).2.2.2.2.1 (r 10) 0 0 20) (va_cpy (V (2 + (n 17 + 15) % 16)).2.2.2.2.2.1 (r 11) 0 0 20) (va_cpy (V (2 + (n 17 + 15) % 16)).2.2.2.2.2.2 (r 12) 0 0 20) (r 13) (r 14) (r 15) (r 16) (r 17) (r 18)) V) := by
  refine z_cV (by decide) rfl rfl (Nat.le_of_ble_eq_true rfl) (lv := [(0, .ref (ad 5)), (1, .ref (ad 4))]) rfl (fun κ C E => ?_)
  have hinX2 : ∀ w ∈ wsX20, w ∈ wsX2_recall := by decide +kernel
  refine z_aload_n C dX2_recall_0 rfl (show zlk _ 0 = some (.ref (ad 5)) from rfl) ?_
  refine z_aload_n C dX2_recall_1 rfl (show zlk _ 0 = some (.ref (ad 5)) from rfl) ?_
  refine z_get C hinX2 5 cc_5 rfl 2 (by decide) (by decide +kernel) cg_5_2 dX2_recall_2 ?_
  refine z_iconst C (v := nI 1) dX2_recall_5 (by decide) ?_
  refine z_isub C dX2_recall_6 ?_
  refine z_bipush C (v := nI 16) dX2_recall_7 (by decide) ?_
  refine z_callSi C (As := [.int ((nI (n 17)) - (nI 1)), .int (nI 16)]) (rest := [.ref (ad 5)]) (c_J9_floorMod_7cf53 l θ _ ((nI (n 17)) - (nI 1)) (nI 16) (by decide)) gX2_recall_J9_floorMod_7cf53 rfl 2 (by decide +kernel) (by decide) (by decide) rfl rfl (Nat.le_of_ble_eq_true rfl) dX2_recall_9 ?_
  rintro _ _ ⟨rfl, rfl⟩
  refine z_top (v' := .int (nI ((n 17 + 15) % 16))) (congrArg Value.int (k_fm_16 h17)) ?_
  refine z_put C hinX2 tyX2 tyX2_ok nmX2 5 cc_5 rfl 2 (by decide) (by decide +kernel) rfl rfl rfl rfl (Nat.le_of_ble_eq_true rfl) _ cp_5_2 dX2_recall_12 ?_
  refine z_aload_n C dX2_recall_15 rfl (show zlk _ 0 = some (.ref (ad 5)) from rfl) ?_
  refine z_aload_n C dX2_recall_16 rfl (show zlk _ 0 = some (.ref (ad 5)) from rfl) ?_
  refine z_get C hinX2 5 cc_5 rfl 1 (by decide) (by decide +kernel) ch_5_1 dX2_recall_17 ?_
  refine z_iconst C (v := nI 1) dX2_recall_20 (by decide) ?_
  refine z_isubN C dX2_recall_21 (by omega) ?_
  refine z_iconst C (v := nI 0) dX2_recall_22 (by decide) ?_
  refine z_mmaxN C (by decide +kernel) (by decide +kernel) (by decide +kernel) (by decide +kernel) (by decide) (Nat.le_of_ble_eq_true rfl) (by omega) (by omega) dX2_recall_23 ?_
  refine z_put C hinX2 tyX2 tyX2_ok nmX2 5 cc_5 rfl 1 (by decide) (by decide +kernel) rfl rfl rfl rfl (Nat.le_of_ble_eq_true rfl) _ cv_5_1 dX2_recall_26 ?_
  refine z_aload_n C dX2_recall_29 rfl (show zlk _ 0 = some (.ref (ad 5)) from rfl) ?_
  refine z_get C hinX2 5 cc_5 rfl 0 (by decide) (by decide +kernel) cg_5_0 dX2_recall_30 ?_
  refine z_aload_n C dX2_recall_33 rfl (show zlk _ 0 = some (.ref (ad 5)) from rfl) ?_
  refine z_get C hinX2 5 cc_5 rfl 2 (by decide) (by decide +kernel) ch_5_2 dX2_recall_34 ?_
  refine z_aald C (v := ea (2 + ((n 17 + 15) % 16)) 0) 24 rfl ((n 17 + 15) % 16) rfl (by omega) (by decide) rfl dX2_recall_37 ?_
  refine z_aload_n C dX2_recall_38 rfl (show zlk _ 1 = some (.ref (ad 4)) from rfl) ?_
  refine z_callTv C (As := [.ref (ea (2 + ((n 17 + 15) % 16)) 0), .ref (ad 4)]) (rest := []) (host := "GnatPortraits") (c_X1_copy_in l θ ea ad (cnv (n 0) (n 1) (n 2) (n 3) (n 4) (n 5) (n 6) (n 7) (n 8) (n 9) (n 10) (n 11) (n 12) (n 13) (n 14) (n 15) (max (n 16 - 1) 0) ((n 17 + 15) % 16) (n 18) (n 19) (n 20)) g b r V (2 + ((n 17 + 15) % 16)) (by omega)) gX2_recall_X1_copy_n25 rfl 2 (by decide +kernel) (by decide +kernel) (by decide +kernel) (by decide +kernel) (by decide) (by decide) rfl rfl (Nat.le_of_ble_eq_true rfl) dX2_recall_39 ?_
  rintro _ rfl
  refine z_X (Y := CW θ ea ad (cnv (n 0) (n 1) (n 2) (n 3) (n 4) (n 5) (n 6) (n 7) (n 8) (n 9) (n 10) (n 11) (n 12) ((V (2 + ((n 17 + 15) % 16))).1.2.2.2.2.2.1) ((V (2 + ((n 17 + 15) % 16))).1.2.2.2.2.2.2.1) ((V (2 + ((n 17 + 15) % 16))).1.2.2.2.2.2.2.2) (max (n 16 - 1) 0) ((n 17 + 15) % 16) (n 18) (n 19) (n 20)) (cgv (g 0) (g 1) (g 2) ((V (2 + ((n 17 + 15) % 16))).1.1) ((V (2 + ((n 17 + 15) % 16))).1.2.1) ((V (2 + ((n 17 + 15) % 16))).1.2.2.1) ((V (2 + ((n 17 + 15) % 16))).1.2.2.2.2.1)) (cbv (b 0) (b 1) ((V (2 + ((n 17 + 15) % 16))).1.2.2.2.1)) (crv (r 0) (r 1) (r 2) (r 3) (r 4) (r 5) (r 6) (va_cpy (V (2 + ((n 17 + 15) % 16))).2.1 (r 7) 0 0 5) (va_cpy (V (2 + ((n 17 + 15) % 16))).2.2.1 (r 8) 0 0 5) (va_cpy (V (2 + ((n 17 + 15) % 16))).2.2.2.1 (r 9) 0 0 4) (va_cpy (V (2 + ((n 17 + 15) % 16))).2.2.2.2.1 (r 10) 0 0 20) (va_cpy (V (2 + ((n 17 + 15) % 16))).2.2.2.2.2.1 (r 11) 0 0 20) (va_cpy (V (2 + ((n 17 + 15) % 16))).2.2.2.2.2.2 (r 12) 0 0 20) (r 13) (r 14) (r 15) (r 16) (r 17) (r 18)) V) (cw_eq rfl rfl rfl rfl rfl rfl rfl rfl rfl rfl rfl rfl rfl rfl rfl rfl rfl rfl rfl rfl rfl rfl rfl rfl rfl rfl rfl rfl rfl rfl rfl rfl rfl rfl rfl rfl rfl rfl rfl rfl rfl rfl rfl rfl rfl rfl rfl rfl rfl rfl rfl) ?_
  exact E _ _ _ ((cw_eq rfl rfl rfl rfl rfl rfl rfl rfl rfl rfl rfl rfl rfl rfl rfl rfl rfl rfl rfl rfl rfl rfl rfl rfl rfl rfl rfl rfl rfl rfl rfl rfl rfl rfl rfl rfl rfl rfl rfl rfl rfl rfl rfl rfl rfl rfl rfl rfl rfl rfl rfl)) dX2_recall_42

