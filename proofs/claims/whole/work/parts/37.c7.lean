theorem okN_n0 {x : Int32} {N : Nat} (h : okN x N = true) : ¬ x < 0 := fun z => by rw [okN_f1 z] at h; cases h
theorem okN_le {x : Int32} {N : Nat} (h : okN x (N + 1) = true) (hN : N < 2 ^ 31 - 1) : x ≤ nI N := by
  have h2 : ¬ nI N < x := fun z => by rw [okN_g2 z hN] at h; cases h
  rw [zf_lt] at h2
  rw [zf_le]
  omega
theorem okN_nle {x : Int32} {N : Nat} (h : okN x (N + 1) = false) (h0 : ¬ x < 0) (hN : N < 2 ^ 31 - 1) : ¬ x ≤ nI N := fun z => by
  have h2 : ¬ nI N < x := by rw [zf_le] at z; rw [zf_lt]; omega
  rw [okN_g h0 h2 hN] at h
  cases h
set_option maxHeartbeats 4000000 in
set_option maxRecDepth 100000 in
theorem c_X5_feed_1 (l : Launch) (θ : zH) (ea : Nat → Nat → Nat) (ad : Nat → Nat) (n : Nat → Nat) (g : Nat → Int32) (b : Nat → Bool) (r : Nat → Nat → Int32) (V : Nat → Ev) (x : Int32) (hx : okN x 256 = false) : cI l yX5_feed wsX5_feed 1 θ [.ref (ad 0), .int x] (CW θ ea ad n g b r V) (fun r0 Y => r0 = (-1000000002) ∧ Y = CW θ ea ad n g b r V) := by
  refine z_cI (by decide) rfl rfl (Nat.le_of_ble_eq_true rfl) (lv := [(0, .ref (ad 0)), (1, .int x)]) rfl (fun κ C E => ?_)
  refine z_iload_n C dX5_feed_0 rfl (show zlk _ 1 = some (.int x) from rfl) ?_
  refine z_if_lt C 11 dX5_feed_1 (by decide) (fun h1t_1 => ?_) (fun h1n_1 => ?_)
  · refine z_ldc C (v := (-1000000002)) (by decide +kernel) dX5_feed_11 ?_
    exact E _ _ _ _ (⟨rfl, rfl⟩) (rfl) dX5_feed_13
  · refine z_iload_n C dX5_feed_4 rfl (show zlk _ 1 = some (.int x) from rfl) ?_
    refine z_sipush C (v := nI 255) dX5_feed_5 (by decide) ?_
    refine z_icmp_le C 14 dX5_feed_8 (by decide) (fun h8n_2 => absurd h8n_2 (okN_nle (N := 255) hx h1n_1 (by decide))) (fun h8n_2 => ?_)
    refine z_ldc C (v := (-1000000002)) (by decide +kernel) dX5_feed_11 ?_
    exact E _ _ _ _ (⟨rfl, rfl⟩) (rfl) dX5_feed_13

set_option maxHeartbeats 4000000 in
set_option maxRecDepth 100000 in
theorem c_X5_feed_2 (l : Launch) (θ : zH) (ea : Nat → Nat → Nat) (ad : Nat → Nat) (n : Nat → Nat) (g : Nat → Int32) (b : Nat → Bool) (r : Nat → Nat → Int32) (V : Nat → Ev) (x : Int32) (hx : okN x 256 = true) (hL : n 2 = 240) : cI l yX5_feed wsX5_feed 1 θ [.ref (ad 0), .int x] (CW θ ea ad n g b r V) (fun r0 Y => r0 = (-1000000004) ∧ Y = CW θ ea ad n g b r V) := by
  refine z_cI (by decide) rfl rfl (Nat.le_of_ble_eq_true rfl) (lv := [(0, .ref (ad 0)), (1, .int x)]) rfl (fun κ C E => ?_)
  have hinX4 : ∀ w ∈ wsX40, w ∈ wsX5_feed := by decide +kernel
  have hinX5 : ∀ w ∈ wsX50, w ∈ wsX5_feed := by decide +kernel
  refine z_iload_n C dX5_feed_0 rfl (show zlk _ 1 = some (.int x) from rfl) ?_
  refine z_if_lt C 11 dX5_feed_1 (by decide) (fun h1n_1 => absurd h1n_1 (okN_n0 hx)) (fun h1n_1 => ?_)
  refine z_iload_n C dX5_feed_4 rfl (show zlk _ 1 = some (.int x) from rfl) ?_
  refine z_sipush C (v := nI 255) dX5_feed_5 (by decide) ?_
  refine z_icmp_le C 14 dX5_feed_8 (by decide) (fun h8t_2 => ?_) (fun h8t_2 => absurd h8t_2 (fun z => z (okN_le (N := 255) hx (by decide))))
  refine z_aload_n C dX5_feed_14 rfl (show zlk _ 0 = some (.ref (ad 0)) from rfl) ?_
  refine z_get C hinX5 0 cc_0 rfl 0 (by decide) (by decide +kernel) cg_0_0 dX5_feed_15 ?_
  refine z_getN C (host := "GnatPortraits") hinX4 1 cc_1 rfl 2 (by decide) (by decide +kernel) cg_1_2 dX5_feed_18 ?_
  refine z_sipush C (v := nI 240) dX5_feed_21 (by decide) ?_
  refine z_icmp_ltF C 30 dX5_feed_24 (by decide) (by omega) (by omega) (by omega) ?_
  refine z_ldc C (v := (-1000000004)) (by decide +kernel) dX5_feed_27 ?_
  exact E _ _ _ _ (⟨rfl, rfl⟩) (rfl) dX5_feed_29

set_option maxHeartbeats 4000000 in
set_option maxRecDepth 100000 in
theorem c_X5_feed_3 (l : Launch) (θ : zH) (ea : Nat → Nat → Nat) (ad : Nat → Nat) (n : Nat → Nat) (g : Nat → Int32) (b : Nat → Bool) (r : Nat → Nat → Int32) (V : Nat → Ev) (x : Int32) (hx : okN x 256 = true) (hL : n 2 < 240) : cI l yX5_feed wsX5_feed 1 θ [.ref (ad 0), .int x] (CW θ ea ad n g b r V) (fun r0 Y => r0 = nI (n 2 + 1) ∧ Y = CW θ ea ad (cnv (n 0) (n 1) (n 2 + 1) (n 3) (n 4) (n 5) (n 6) (n 7) (n 8) (n 9) (n 10) (n 11) (n 12) (n 13) (n 14) (n 15) (n 16) (n 17) (n 18) (n 19) (n 20)) g b (crv (upd (r 0) (n 2) x) (r 1) (r 2) (r 3) (r 4) (r 5) (r 6) (r 7) (r 8) (r 9) (r 10) (r 11) (r 12) (r 13) (r 14) (r 15) (r 16) (r 17) (r 18)) V) := by
  refine z_cI (by decide) rfl rfl (Nat.le_of_ble_eq_true rfl) (lv := [(0, .ref (ad 0)), (1, .int x)]) rfl (fun κ C E => ?_)
  have hinX4 : ∀ w ∈ wsX40, w ∈ wsX5_feed := by decide +kernel
  have hinX5 : ∀ w ∈ wsX50, w ∈ wsX5_feed := by decide +kernel
  refine z_iload_n C dX5_feed_0 rfl (show zlk _ 1 = some (.int x) from rfl) ?_
  refine z_if_lt C 11 dX5_feed_1 (by decide) (fun h1n_1 => absurd h1n_1 (okN_n0 hx)) (fun h1n_1 => ?_)
  refine z_iload_n C dX5_feed_4 rfl (show zlk _ 1 = some (.int x) from rfl) ?_
  refine z_sipush C (v := nI 255) dX5_feed_5 (by decide) ?_
  refine z_icmp_le C 14 dX5_feed_8 (by decide) (fun h8t_2 => ?_) (fun h8t_2 => absurd h8t_2 (fun z => z (okN_le (N := 255) hx (by decide))))
  refine z_aload_n C dX5_feed_14 rfl (show zlk _ 0 = some (.ref (ad 0)) from rfl) ?_
  refine z_get C hinX5 0 cc_0 rfl 0 (by decide) (by decide +kernel) cg_0_0 dX5_feed_15 ?_
  refine z_getN C (host := "GnatPortraits") hinX4 1 cc_1 rfl 2 (by decide) (by decide +kernel) cg_1_2 dX5_feed_18 ?_
  refine z_sipush C (v := nI 240) dX5_feed_21 (by decide) ?_
  refine z_icmp_ltT C 30 dX5_feed_24 (by decide) (by omega) (by omega) (by omega) ?_
  refine z_aload_n C dX5_feed_30 rfl (show zlk _ 0 = some (.ref (ad 0)) from rfl) ?_
  refine z_get C hinX5 0 cc_0 rfl 0 (by decide) (by decide +kernel) cg_0_0 dX5_feed_31 ?_
  refine z_iload_n C dX5_feed_34 rfl (show zlk _ 1 = some (.int x) from rfl) ?_
  refine z_callNv C (As := [.int x]) (rest := []) (host := "GnatPortraits") (c_X4_add l θ ea ad n g b r V x hL) gX5_feed_X4_add_n65 rfl 1 (by decide +kernel) (by decide +kernel) (by decide +kernel) (by decide +kernel) (by decide +kernel) (by decide) (by decide) 1 rfl rfl rfl rfl rfl (Nat.le_of_ble_eq_true rfl) dX5_feed_35 ?_
  rintro _ rfl
  refine z_X (Y := CW θ ea ad (cnv (n 0) (n 1) (n 2 + 1) (n 3) (n 4) (n 5) (n 6) (n 7) (n 8) (n 9) (n 10) (n 11) (n 12) (n 13) (n 14) (n 15) (n 16) (n 17) (n 18) (n 19) (n 20)) g b (crv (upd (r 0) (n 2) x) (r 1) (r 2) (r 3) (r 4) (r 5) (r 6) (r 7) (r 8) (r 9) (r 10) (r 11) (r 12) (r 13) (r 14) (r 15) (r 16) (r 17) (r 18)) V) (cw_eq rfl rfl rfl rfl rfl rfl rfl rfl rfl rfl rfl rfl rfl rfl rfl rfl rfl rfl rfl rfl rfl rfl rfl rfl rfl rfl rfl rfl rfl rfl rfl rfl rfl rfl rfl rfl rfl rfl rfl rfl rfl rfl rfl rfl rfl rfl rfl rfl rfl rfl rfl) ?_
  refine z_aload_n C dX5_feed_38 rfl (show zlk _ 0 = some (.ref (ad 0)) from rfl) ?_
  refine z_get C hinX5 0 cc_0 rfl 0 (by decide) (by decide +kernel) cg_0_0 dX5_feed_39 ?_
  refine z_getN C (host := "GnatPortraits") hinX4 1 cc_1 rfl 2 (by decide) (by decide +kernel) ch_1_2 dX5_feed_42 ?_
  exact E _ _ _ _ (⟨rfl, (cw_eq rfl rfl rfl rfl rfl rfl rfl rfl rfl rfl rfl rfl rfl rfl rfl rfl rfl rfl rfl rfl rfl rfl rfl rfl rfl rfl rfl rfl rfl rfl rfl rfl rfl rfl rfl rfl rfl rfl rfl rfl rfl rfl rfl rfl rfl rfl rfl rfl rfl rfl rfl)⟩) (rfl) dX5_feed_45

set_option maxHeartbeats 4000000 in
set_option maxRecDepth 100000 in
theorem c_X5_fault (l : Launch) (θ : zH) (ea : Nat → Nat → Nat) (ad : Nat → Nat) (n : Nat → Nat) (g : Nat → Int32) (b : Nat → Bool) (r : Nat → Nat → Int32) (V : Nat → Ev)  : cI l yX5_fault wsX5_fault 0 θ [.ref (ad 0)] (CW θ ea ad n g b r V) (fun r0 Y => r0 = g 2 ∧ Y = CW θ ea ad n g b r V) := by
  refine z_cI (by decide) rfl rfl (Nat.le_of_ble_eq_true rfl) (lv := [(0, .ref (ad 0))]) rfl (fun κ C E => ?_)
  have hinX4 : ∀ w ∈ wsX40, w ∈ wsX5_fault := by decide +kernel
  have hinX5 : ∀ w ∈ wsX50, w ∈ wsX5_fault := by decide +kernel
  refine z_aload_n C dX5_fault_0 rfl (show zlk _ 0 = some (.ref (ad 0)) from rfl) ?_
  refine z_get C hinX5 0 cc_0 rfl 0 (by decide) (by decide +kernel) cg_0_0 dX5_fault_1 ?_
  refine z_getN C (host := "GnatPortraits") hinX4 1 cc_1 rfl 5 (by decide) (by decide +kernel) cg_1_5 dX5_fault_4 ?_
  exact E _ _ _ _ (⟨rfl, rfl⟩) (rfl) dX5_fault_7

set_option maxHeartbeats 4000000 in
set_option maxRecDepth 100000 in
theorem c_X5_tear (l : Launch) (θ : zH) (ea : Nat → Nat → Nat) (ad : Nat → Nat) (n : Nat → Nat) (g : Nat → Int32) (b : Nat → Bool) (r : Nat → Nat → Int32) (V : Nat → Ev)  : cI l yX5_tear wsX5_tear 1 θ [.ref (ad 0)] (CW θ ea ad n g b r V) (fun r0 Y => r0 = nI (n 1) ∧ Y = CW θ ea ad (cnv (n 0) 0 (n 2) (n 3) (n 4) (n 5) (n 6) (n 7) (n 8) (n 9) (n 10) (n 11) (n 12) (n 13) (n 14) (n 15) (n 16) (n 17) (n 18) (n 19) (n 20)) (cgv (nI 0) (nI 0) (g 2) (g 3) (g 4) (g 5) (g 6)) b r V) := by
  refine z_cI (by decide) rfl rfl (Nat.le_of_ble_eq_true rfl) (lv := [(0, .ref (ad 0))]) rfl (fun κ C E => ?_)
  have hinX5 : ∀ w ∈ wsX50, w ∈ wsX5_tear := by decide +kernel
  refine z_aload_n C dX5_tear_0 rfl (show zlk _ 0 = some (.ref (ad 0)) from rfl) ?_
  refine z_get C hinX5 0 cc_0 rfl 10 (by decide) (by decide +kernel) cg_0_10 dX5_tear_1 ?_
  refine z_istore_n C [(1, .int (nI (n 1))), (0, .ref (ad 0))] dX5_tear_4 rfl (by decide) rfl ?_
  refine z_aload_n C dX5_tear_5 rfl (show zlk _ 0 = some (.ref (ad 0)) from rfl) ?_
  refine z_callVv C (As := []) (rest := []) (c_X5_forgetToldOf l θ ea ad n g b r V ) gX5_tear_X5_forgetToldOf rfl 0 (by decide +kernel) (by decide) (by decide) 0 rfl rfl rfl rfl rfl (Nat.le_of_ble_eq_true rfl) dX5_tear_6 ?_
  rintro _ rfl
  refine z_X (Y := CW θ ea ad (cnv (n 0) 0 (n 2) (n 3) (n 4) (n 5) (n 6) (n 7) (n 8) (n 9) (n 10) (n 11) (n 12) (n 13) (n 14) (n 15) (n 16) (n 17) (n 18) (n 19) (n 20)) (cgv (nI 0) (nI 0) (g 2) (g 3) (g 4) (g 5) (g 6)) b r V) (cw_eq rfl rfl rfl rfl rfl rfl rfl rfl rfl rfl rfl rfl rfl rfl rfl rfl rfl rfl rfl rfl rfl rfl rfl rfl rfl rfl rfl rfl rfl rfl rfl rfl rfl rfl rfl rfl rfl rfl rfl rfl rfl rfl rfl rfl rfl rfl rfl rfl rfl rfl rfl) ?_
  refine z_iload_n C dX5_tear_9 rfl (show zlk _ 1 = some (.int (nI (n 1))) from rfl) ?_
  exact E _ _ _ _ (⟨rfl, (cw_eq rfl rfl rfl rfl rfl rfl rfl rfl rfl rfl rfl rfl rfl rfl rfl rfl rfl rfl rfl rfl rfl rfl rfl rfl rfl rfl rfl rfl rfl rfl rfl rfl rfl rfl rfl rfl rfl rfl rfl rfl rfl rfl rfl rfl rfl rfl rfl rfl rfl rfl rfl)⟩) (rfl) dX5_tear_10

set_option maxHeartbeats 4000000 in
set_option maxRecDepth 100000 in
theorem c_X5_lamp_1 (l : Launch) (θ : zH) (ea : Nat → Nat → Nat) (ad : Nat → Nat) (n : Nat → Nat) (g : Nat → Int32) (b : Nat → Bool) (r : Nat → Nat → Int32) (V : Nat → Ev) (w x : Int32) (hW : n 11 ≤ 5) (hw : okN w (n 11) = false) : cI l yX5_lamp wsX5_lamp 3 θ [.ref (ad 0), .int w, .int x] (CW θ ea ad n g b r V) (fun r0 Y => r0 = (-1000000001) ∧ Y = CW θ ea ad n g b r V) := by
  refine z_cI (by decide) rfl rfl (Nat.le_of_ble_eq_true rfl) (lv := [(0, .ref (ad 0)), (1, .int w), (2, .int x)]) rfl (fun κ C E => ?_)
  refine z_aload_n C dX5_lamp_0 rfl (show zlk _ 0 = some (.ref (ad 0)) from rfl) ?_
  refine z_iload_n C dX5_lamp_1 rfl (show zlk _ 1 = some (.int w) from rfl) ?_
  refine z_callVi C (As := [.int w]) (rest := []) (c_X5_isWindow l θ ea ad n g b r V w (by omega)) gX5_lamp_X5_isWindow rfl 1 (by decide +kernel) (by decide) (by decide) 0 rfl rfl rfl rfl rfl (Nat.le_of_ble_eq_true rfl) dX5_lamp_2 ?_
  rintro _ _ ⟨rfl, rfl⟩
  refine z_if_neB C 11 dX5_lamp_5 (by decide) (fun h => absurd h (by rw [hw]; decide)) (fun _ => ?_)
  refine z_ldc C (v := (-1000000001)) (by decide +kernel) dX5_lamp_8 ?_
  exact E _ _ _ _ (⟨rfl, rfl⟩) (rfl) dX5_lamp_10

set_option maxHeartbeats 4000000 in
set_option maxRecDepth 100000 in
theorem c_X5_lamp_2 (l : Launch) (θ : zH) (ea : Nat → Nat → Nat) (ad : Nat → Nat) (n : Nat → Nat) (g : Nat → Int32) (b : Nat → Bool) (r : Nat → Nat → Int32) (V : Nat → Ev) (w x : Int32) (hW : n 11 ≤ 5) (hw : okN w (n 11) = true) (hx : okN x 6 = false) : cI l yX5_lamp wsX5_lamp 3 θ [.ref (ad 0), .int w, .int x] (CW θ ea ad n g b r V) (fun r0 Y => r0 = (-1000000002) ∧ Y = CW θ ea ad n g b r V) := by
  refine z_cI (by decide) rfl rfl (Nat.le_of_ble_eq_true rfl) (lv := [(0, .ref (ad 0)), (1, .int w), (2, .int x)]) rfl (fun κ C E => ?_)
  refine z_aload_n C dX5_lamp_0 rfl (show zlk _ 0 = some (.ref (ad 0)) from rfl) ?_
  refine z_iload_n C dX5_lamp_1 rfl (show zlk _ 1 = some (.int w) from rfl) ?_
  refine z_callVi C (As := [.int w]) (rest := []) (c_X5_isWindow l θ ea ad n g b r V w (by omega)) gX5_lamp_X5_isWindow rfl 1 (by decide +kernel) (by decide) (by decide) 0 rfl rfl rfl rfl rfl (Nat.le_of_ble_eq_true rfl) dX5_lamp_2 ?_
  rintro _ _ ⟨rfl, rfl⟩
  refine z_if_neB C 11 dX5_lamp_5 (by decide) (fun _ => ?_) (fun h => absurd h (by rw [hw]; decide))
  refine z_iload_n C dX5_lamp_11 rfl (show zlk _ 2 = some (.int x) from rfl) ?_
  refine z_if_lt C 20 dX5_lamp_12 (by decide) (fun h12t_1 => ?_) (fun h12n_1 => ?_)
  · refine z_ldc C (v := (-1000000002)) (by decide +kernel) dX5_lamp_20 ?_
    exact E _ _ _ _ (⟨rfl, rfl⟩) (rfl) dX5_lamp_22
  · refine z_iload_n C dX5_lamp_15 rfl (show zlk _ 2 = some (.int x) from rfl) ?_
    refine z_iconst C (v := nI 5) dX5_lamp_16 (by decide) ?_
    refine z_icmp_le C 23 dX5_lamp_17 (by decide) (fun h17n_2 => absurd h17n_2 (okN_nle (N := 5) hx h12n_1 (by decide))) (fun h17n_2 => ?_)
    refine z_ldc C (v := (-1000000002)) (by decide +kernel) dX5_lamp_20 ?_
    exact E _ _ _ _ (⟨rfl, rfl⟩) (rfl) dX5_lamp_22

set_option maxHeartbeats 4000000 in
set_option maxRecDepth 100000 in
theorem c_X5_lamp_3 (l : Launch) (θ : zH) (ea : Nat → Nat → Nat) (ad : Nat → Nat) (n : Nat → Nat) (g : Nat → Int32) (b : Nat → Bool) (r : Nat → Nat → Int32) (V : Nat → Ev) (w : Nat) (x : Int32) (hW : n 11 ≤ 5) (hw : w < n 11) (hx : okN x 6 = true) (h17 : n 17 < 16) (h16 : n 16 ≤ 16) : cI l yX5_lamp wsX5_lamp 3 θ [.ref (ad 0), .int (nI w), .int x] (CW θ ea ad n g b r V) (fun r0 Y => r0 = r 7 w ∧ Y = CW θ ea ad (cnv (n 0) (n 1) (n 2) (n 3) (n 4) (n 5) (n 6) (n 7) (n 8) (n 9) (n 10) (n 11) (n 12) (n 13) (n 14) (n 15) (min (n 16 + 1) 16) ((n 17 + 1) % 16) (n 18) (n 19) (n 20)) g b (crv (r 0) (r 1) (r 2) (r 3) (r 4) (r 5) (r 6) (upd (r 7) w x) (r 8) (r 9) (r 10) (r 11) (r 12) (r 13) (r 14) (r 15) (r 16) (r 17) (r 18)) (va_up V (2 + n 17) ((g 3, g 4, g 5, b 2, g 6, n 13, n 14, n 15), (va_cpy (r 7) (V (2 + n 17)).2.1 0 0 5, va_cpy (r 8) (V (2 + n 17)).2.2.1 0 0 5, va_cpy (r 9) (V (2 + n 17)).2.2.2.1 0 0 4, va_cpy (r 10) (V (2 + n 17)).2.2.2.2.1 0 0 20, va_cpy (r 11) (V (2 + n 17)).2.2.2.2.2.1 0 0 20, va_cpy (r 12) (V (2 + n 17)).2.2.2.2.2.2 0 0 20)))) := by
  refine z_cI (by decide) rfl rfl (Nat.le_of_ble_eq_true rfl) (lv := [(0, .ref (ad 0)), (1, .int (nI w)), (2, .int x)]) rfl (fun κ C E => ?_)
  have hinX1 : ∀ w ∈ wsX10, w ∈ wsX5_lamp := by decide +kernel
  have hinX5 : ∀ w ∈ wsX50, w ∈ wsX5_lamp := by decide +kernel
  refine z_aload_n C dX5_lamp_0 rfl (show zlk _ 0 = some (.ref (ad 0)) from rfl) ?_
  refine z_iload_n C dX5_lamp_1 rfl (show zlk _ 1 = some (.int (nI w)) from rfl) ?_
  refine z_callVi C (As := [.int (nI w)]) (rest := []) (c_X5_isWindow l θ ea ad n g b r V (nI w) (by omega)) gX5_lamp_X5_isWindow rfl 1 (by decide +kernel) (by decide) (by decide) 0 rfl rfl rfl rfl rfl (Nat.le_of_ble_eq_true rfl) dX5_lamp_2 ?_
  rintro _ _ ⟨rfl, rfl⟩
  refine z_if_neB C 11 dX5_lamp_5 (by decide) (fun _ => ?_) (fun h => absurd h (by rw [okN_lt hw (by omega)]; decide))
  refine z_iload_n C dX5_lamp_11 rfl (show zlk _ 2 = some (.int x) from rfl) ?_
  refine z_if_lt C 20 dX5_lamp_12 (by decide) (fun h12n_1 => absurd h12n_1 (okN_n0 hx)) (fun h12n_1 => ?_)
  refine z_iload_n C dX5_lamp_15 rfl (show zlk _ 2 = some (.int x) from rfl) ?_
  refine z_iconst C (v := nI 5) dX5_lamp_16 (by decide) ?_
  refine z_icmp_le C 23 dX5_lamp_17 (by decide) (fun h17t_2 => ?_) (fun h17t_2 => absurd h17t_2 (fun z => z (okN_le (N := 5) hx (by decide))))
  refine z_aload_n C dX5_lamp_23 rfl (show zlk _ 0 = some (.ref (ad 0)) from rfl) ?_
  refine z_get C hinX5 0 cc_0 rfl 3 (by decide) (by decide +kernel) cg_0_3 dX5_lamp_24 ?_
  refine z_aload_n C dX5_lamp_27 rfl (show zlk _ 0 = some (.ref (ad 0)) from rfl) ?_
  refine z_get C hinX5 0 cc_0 rfl 2 (by decide) (by decide +kernel) cg_0_2 dX5_lamp_28 ?_
  refine z_callNv C (As := [.ref (ad 4)]) (rest := []) (host := "GnatPortraits") (c_X2_remember l θ ea ad n g b r V h17 h16) gX5_lamp_X2_remember_n192 rfl 1 (by decide +kernel) (by decide +kernel) (by decide +kernel) (by decide +kernel) (by decide +kernel) (by decide) (by decide) 5 rfl rfl rfl rfl rfl (Nat.le_of_ble_eq_true rfl) dX5_lamp_31 ?_
  rintro _ rfl
  refine z_X (Y := CW θ ea ad (cnv (n 0) (n 1) (n 2) (n 3) (n 4) (n 5) (n 6) (n 7) (n 8) (n 9) (n 10) (n 11) (n 12) (n 13) (n 14) (n 15) (min (n 16 + 1) 16) ((n 17 + 1) % 16) (n 18) (n 19) (n 20)) g b r (va_up V (2 + n 17) ((g 3, g 4, g 5, b 2, g 6, n 13, n 14, n 15), (va_cpy (r 7) (V (2 + n 17)).2.1 0 0 5, va_cpy (r 8) (V (2 + n 17)).2.2.1 0 0 5, va_cpy (r 9) (V (2 + n 17)).2.2.2.1 0 0 4, va_cpy (r 10) (V (2 + n 17)).2.2.2.2.1 0 0 20, va_cpy (r 11) (V (2 + n 17)).2.2.2.2.2.1 0 0 20, va_cpy (r 12) (V (2 + n 17)).2.2.2.2.2.2 0 0 20)))) (cw_eq rfl rfl rfl rfl rfl rfl rfl rfl rfl rfl rfl rfl rfl rfl rfl rfl rfl rfl rfl rfl rfl rfl rfl rfl rfl rfl rfl rfl rfl rfl rfl rfl rfl rfl rfl rfl rfl rfl rfl rfl rfl rfl rfl rfl rfl rfl rfl rfl rfl rfl rfl) ?_
  refine z_aload_n C dX5_lamp_34 rfl (show zlk _ 0 = some (.ref (ad 0)) from rfl) ?_
  refine z_get C hinX5 0 cc_0 rfl 2 (by decide) (by decide +kernel) cg_0_2 dX5_lamp_35 ?_
  refine z_getN C (host := "GnatPortraits") hinX1 4 cc_4 rfl 8 (by decide) (by decide +kernel) cg_4_8 dX5_lamp_38 ?_
  refine z_iload_n C dX5_lamp_41 rfl (show zlk _ 1 = some (.int (nI w)) from rfl) ?_
  refine z_iald C (f := (r 7)) 18 ca_18 w rfl (by omega) (by decide) dX5_lamp_42 ?_
  refine z_istore_n C [(3, .int ((r 7) w)), (0, .ref (ad 0)), (1, .int (nI w)), (2, .int x)] dX5_lamp_43 rfl (by decide) rfl ?_
  refine z_aload_n C dX5_lamp_44 rfl (show zlk _ 0 = some (.ref (ad 0)) from rfl) ?_
  refine z_get C hinX5 0 cc_0 rfl 2 (by decide) (by decide +kernel) cg_0_2 dX5_lamp_45 ?_
  refine z_getN C (host := "GnatPortraits") hinX1 4 cc_4 rfl 8 (by decide) (by decide +kernel) cg_4_8 dX5_lamp_48 ?_
  refine z_iload_n C dX5_lamp_51 rfl (show zlk _ 1 = some (.int (nI w)) from rfl) ?_
  refine z_iload_n C dX5_lamp_52 rfl (show zlk _ 2 = some (.int x) from rfl) ?_
  refine z_iast C (f := (r 7)) 18 ca_18 w rfl (by omega) (by decide) _ cs_18 dX5_lamp_53 ?_
  refine z_iload_n C dX5_lamp_54 rfl (show zlk _ 3 = some (.int ((r 7) w)) from rfl) ?_
  exact E _ _ _ _ (⟨rfl, (cw_eq rfl rfl rfl rfl rfl rfl rfl rfl rfl rfl rfl rfl rfl rfl rfl rfl rfl rfl rfl rfl rfl rfl rfl rfl rfl rfl rfl rfl rfl rfl rfl rfl rfl rfl rfl rfl rfl rfl rfl rfl rfl rfl rfl rfl rfl rfl rfl rfl rfl rfl rfl)⟩) (rfl) dX5_lamp_55

set_option maxHeartbeats 4000000 in
set_option maxRecDepth 100000 in
theorem c_X5_eye_1 (l : Launch) (θ : zH) (ea : Nat → Nat → Nat) (ad : Nat → Nat) (n : Nat → Nat) (g : Nat → Int32) (b : Nat → Bool) (r : Nat → Nat → Int32) (V : Nat → Ev) (x : Int32) (hx : okN x 30 = false) : cI l yX5_eye wsX5_eye 3 θ [.ref (ad 0), .int x] (CW θ ea ad n g b r V) (fun r0 Y => r0 = (-1000000002) ∧ Y = CW θ ea ad n g b r V) := by
  refine z_cI (by decide) rfl rfl (Nat.le_of_ble_eq_true rfl) (lv := [(0, .ref (ad 0)), (1, .int x)]) rfl (fun κ C E => ?_)
  refine z_iload_n C dX5_eye_0 rfl (show zlk _ 1 = some (.int x) from rfl) ?_
  refine z_callSi C (As := [.int x]) (rest := []) (c_X5_isDot l θ _ x) gX5_eye_X5_isDot rfl 1 (by decide +kernel) (by decide) (by decide) rfl rfl (Nat.le_of_ble_eq_true rfl) dX5_eye_1 ?_
  rintro _ _ ⟨rfl, rfl⟩
  refine z_if_neB C 10 dX5_eye_4 (by decide) (fun h => absurd h (by rw [hx]; decide)) (fun _ => ?_)
  refine z_ldc C (v := (-1000000002)) (by decide +kernel) dX5_eye_7 ?_
  exact E _ _ _ _ (⟨rfl, rfl⟩) (rfl) dX5_eye_9

set_option maxHeartbeats 4000000 in
set_option maxRecDepth 100000 in
theorem c_X5_eye_2 (l : Launch) (θ : zH) (ea : Nat → Nat → Nat) (ad : Nat → Nat) (n : Nat → Nat) (g : Nat → Int32) (b : Nat → Bool) (r : Nat → Nat → Int32) (V : Nat → Ev) (x : Int32) (hx : okN x 30 = true) (hg : b 1 = false) : cI l yX5_eye wsX5_eye 3 θ [.ref (ad 0), .int x] (CW θ ea ad n g b r V) (fun r0 Y => r0 = (-1000000003) ∧ Y = CW θ ea ad n g b r V) := by
  refine z_cI (by decide) rfl rfl (Nat.le_of_ble_eq_true rfl) (lv := [(0, .ref (ad 0)), (1, .int x)]) rfl (fun κ C E => ?_)
  have hinX0 : ∀ w ∈ wsX00, w ∈ wsX5_eye := by decide +kernel
  have hinX5 : ∀ w ∈ wsX50, w ∈ wsX5_eye := by decide +kernel
  refine z_iload_n C dX5_eye_0 rfl (show zlk _ 1 = some (.int x) from rfl) ?_
  refine z_callSi C (As := [.int x]) (rest := []) (c_X5_isDot l θ _ x) gX5_eye_X5_isDot rfl 1 (by decide +kernel) (by decide) (by decide) rfl rfl (Nat.le_of_ble_eq_true rfl) dX5_eye_1 ?_
  rintro _ _ ⟨rfl, rfl⟩
  refine z_if_neB C 10 dX5_eye_4 (by decide) (fun _ => ?_) (fun h => absurd h (by rw [hx]; decide))
  refine z_aload_n C dX5_eye_10 rfl (show zlk _ 0 = some (.ref (ad 0)) from rfl) ?_
  refine z_get C hinX5 0 cc_0 rfl 1 (by decide) (by decide +kernel) cg_0_1 dX5_eye_11 ?_
  refine z_getN C (host := "GnatPortraits") hinX0 3 cc_3 rfl 0 (by decide) (by decide +kernel) cg_3_0 dX5_eye_14 ?_
  refine z_if_neB C 23 dX5_eye_17 (by decide) (fun h => absurd h (by rw [hg]; decide)) (fun _ => ?_)
  refine z_ldc C (v := (-1000000003)) (by decide +kernel) dX5_eye_20 ?_
  exact E _ _ _ _ (⟨rfl, rfl⟩) (rfl) dX5_eye_22

set_option maxHeartbeats 4000000 in
set_option maxRecDepth 100000 in
theorem c_X5_eye_3 (l : Launch) (θ : zH) (ea : Nat → Nat → Nat) (ad : Nat → Nat) (n : Nat → Nat) (g : Nat → Int32) (b : Nat → Bool) (r : Nat → Nat → Int32) (V : Nat → Ev) (x : Int32) (hx : okN x 30 = true) (hg : b 1 = true) (h17 : n 17 < 16) (h16 : n 16 ≤ 16) : cI l yX5_eye wsX5_eye 3 θ [.ref (ad 0), .int x] (CW θ ea ad n g b r V) (fun r0 Y => r0 = (g 5 ||| (nI 1 <<< (x &&& 31))) ∧ Y = CW θ ea ad (cnv (n 0) (n 1) (n 2) (n 3) (n 4) (n 5) (n 6) (n 7) (n 8) (n 9) (n 10) (n 11) (n 12) (n 13) (n 14) (n 15) (min (n 16 + 1) 16) ((n 17 + 1) % 16) (n 18) (n 19) (n 20)) (cgv (g 0) (g 1) (g 2) (g 3) (g 4) (g 5 ||| (nI 1 <<< (x &&& 31))) (g 6)) b r (va_up V (2 + n 17) ((g 3, g 4, g 5, b 2, g 6, n 13, n 14, n 15), (va_cpy (r 7) (V (2 + n 17)).2.1 0 0 5, va_cpy (r 8) (V (2 + n 17)).2.2.1 0 0 5, va_cpy (r 9) (V (2 + n 17)).2.2.2.1 0 0 4, va_cpy (r 10) (V (2 + n 17)).2.2.2.2.1 0 0 20, va_cpy (r 11) (V (2 + n 17)).2.2.2.2.2.1 0 0 20, va_cpy (r 12) (V (2 + n 17)).2.2.2.2.2.2 0 0 20)))) := by
  refine z_cI (by decide) rfl rfl (Nat.le_of_ble_eq_true rfl) (lv := [(0, .ref (ad 0)), (1, .int x)]) rfl (fun κ C E => ?_)
  have hinX0 : ∀ w ∈ wsX00, w ∈ wsX5_eye := by decide +kernel
  have hinX1 : ∀ w ∈ wsX10, w ∈ wsX5_eye := by decide +kernel
  have hinX5 : ∀ w ∈ wsX50, w ∈ wsX5_eye := by decide +kernel
  refine z_iload_n C dX5_eye_0 rfl (show zlk _ 1 = some (.int x) from rfl) ?_
  refine z_callSi C (As := [.int x]) (rest := []) (c_X5_isDot l θ _ x) gX5_eye_X5_isDot rfl 1 (by decide +kernel) (by decide) (by decide) rfl rfl (Nat.le_of_ble_eq_true rfl) dX5_eye_1 ?_
  rintro _ _ ⟨rfl, rfl⟩
  refine z_if_neB C 10 dX5_eye_4 (by decide) (fun _ => ?_) (fun h => absurd h (by rw [hx]; decide))
  refine z_aload_n C dX5_eye_10 rfl (show zlk _ 0 = some (.ref (ad 0)) from rfl) ?_
  refine z_get C hinX5 0 cc_0 rfl 1 (by decide) (by decide +kernel) cg_0_1 dX5_eye_11 ?_
  refine z_getN C (host := "GnatPortraits") hinX0 3 cc_3 rfl 0 (by decide) (by decide +kernel) cg_3_0 dX5_eye_14 ?_
  refine z_if_neB C 23 dX5_eye_17 (by decide) (fun _ => ?_) (fun h => absurd h (by rw [hg]; decide))
  refine z_aload_n C dX5_eye_23 rfl (show zlk _ 0 = some (.ref (ad 0)) from rfl) ?_
  refine z_get C hinX5 0 cc_0 rfl 3 (by decide) (by decide +kernel) cg_0_3 dX5_eye_24 ?_
  refine z_aload_n C dX5_eye_27 rfl (show zlk _ 0 = some (.ref (ad 0)) from rfl) ?_
  refine z_get C hinX5 0 cc_0 rfl 2 (by decide) (by decide +kernel) cg_0_2 dX5_eye_28 ?_
  refine z_callNv C (As := [.ref (ad 4)]) (rest := []) (host := "GnatPortraits") (c_X2_remember l θ ea ad n g b r V h17 h16) gX5_eye_X2_remember_n192 rfl 1 (by decide +kernel) (by decide +kernel) (by decide +kernel) (by decide +kernel) (by decide +kernel) (by decide) (by decide) 5 rfl rfl rfl rfl rfl (Nat.le_of_ble_eq_true rfl) dX5_eye_31 ?_
  rintro _ rfl
  refine z_X (Y := CW θ ea ad (cnv (n 0) (n 1) (n 2) (n 3) (n 4) (n 5) (n 6) (n 7) (n 8) (n 9) (n 10) (n 11) (n 12) (n 13) (n 14) (n 15) (min (n 16 + 1) 16) ((n 17 + 1) % 16) (n 18) (n 19) (n 20)) g b r (va_up V (2 + n 17) ((g 3, g 4, g 5, b 2, g 6, n 13, n 14, n 15), (va_cpy (r 7) (V (2 + n 17)).2.1 0 0 5, va_cpy (r 8) (V (2 + n 17)).2.2.1 0 0 5, va_cpy (r 9) (V (2 + n 17)).2.2.2.1 0 0 4, va_cpy (r 10) (V (2 + n 17)).2.2.2.2.1 0 0 20, va_cpy (r 11) (V (2 + n 17)).2.2.2.2.2.1 0 0 20, va_cpy (r 12) (V (2 + n 17)).2.2.2.2.2.2 0 0 20)))) (cw_eq rfl rfl rfl rfl rfl rfl rfl rfl rfl rfl rfl rfl rfl rfl rfl rfl rfl rfl rfl rfl rfl rfl rfl rfl rfl rfl rfl rfl rfl rfl rfl rfl rfl rfl rfl rfl rfl rfl rfl rfl rfl rfl rfl rfl rfl rfl rfl rfl rfl rfl rfl) ?_
  refine z_aload_n C dX5_eye_34 rfl (show zlk _ 0 = some (.ref (ad 0)) from rfl) ?_
  refine z_get C hinX5 0 cc_0 rfl 2 (by decide) (by decide +kernel) cg_0_2 dX5_eye_35 ?_
  refine z_dup C dX5_eye_38 rfl ?_
  refine z_getN C (host := "GnatPortraits") hinX1 4 cc_4 rfl 2 (by decide) (by decide +kernel) cg_4_2 dX5_eye_39 ?_
  refine z_iconst C (v := nI 1) dX5_eye_42 (by decide) ?_
  refine z_iload_n C dX5_eye_43 rfl (show zlk _ 1 = some (.int x) from rfl) ?_
  refine z_ishl C dX5_eye_44 ?_
  refine z_ior C dX5_eye_45 ?_
  refine z_putN C (host := "GnatPortraits") hinX1 tyX1 tyX1_ok nmX1 4 cc_4 rfl 2 (by decide) (by decide +kernel) rfl rfl rfl rfl (Nat.le_of_ble_eq_true rfl) _ cp_4_2 dX5_eye_46 ?_
  refine z_aload_n C dX5_eye_49 rfl (show zlk _ 0 = some (.ref (ad 0)) from rfl) ?_
  refine z_get C hinX5 0 cc_0 rfl 2 (by decide) (by decide +kernel) cg_0_2 dX5_eye_50 ?_
  refine z_getN C (host := "GnatPortraits") hinX1 4 cc_4 rfl 2 (by decide) (by decide +kernel) ch_4_2 dX5_eye_53 ?_
  exact E _ _ _ _ (⟨rfl, (cw_eq rfl rfl rfl rfl rfl rfl rfl rfl rfl rfl rfl rfl rfl rfl rfl rfl rfl rfl rfl rfl rfl rfl rfl rfl rfl rfl rfl rfl rfl rfl rfl rfl rfl rfl rfl rfl rfl rfl rfl rfl rfl rfl rfl rfl rfl rfl rfl rfl rfl rfl rfl)⟩) (rfl) dX5_eye_56

set_option maxHeartbeats 4000000 in
set_option maxRecDepth 100000 in
theorem c_X5_rain_1 (l : Launch) (θ : zH) (ea : Nat → Nat → Nat) (ad : Nat → Nat) (n : Nat → Nat) (g : Nat → Int32) (b : Nat → Bool) (r : Nat → Nat → Int32) (V : Nat → Ev) (x : Int32) (hg : b 1 = false) : cI l yX5_rain wsX5_rain 3 θ [.ref (ad 0), .int x] (CW θ ea ad n g b r V) (fun r0 Y => r0 = (-1000000003) ∧ Y = CW θ ea ad n g b r V) := by
  refine z_cI (by decide) rfl rfl (Nat.le_of_ble_eq_true rfl) (lv := [(0, .ref (ad 0)), (1, .int x)]) rfl (fun κ C E => ?_)
  have hinX0 : ∀ w ∈ wsX00, w ∈ wsX5_rain := by decide +kernel
  have hinX5 : ∀ w ∈ wsX50, w ∈ wsX5_rain := by decide +kernel
  refine z_aload_n C dX5_rain_0 rfl (show zlk _ 0 = some (.ref (ad 0)) from rfl) ?_
  refine z_get C hinX5 0 cc_0 rfl 1 (by decide) (by decide +kernel) cg_0_1 dX5_rain_1 ?_
  refine z_getN C (host := "GnatPortraits") hinX0 3 cc_3 rfl 0 (by decide) (by decide +kernel) cg_3_0 dX5_rain_4 ?_
  refine z_if_neB C 13 dX5_rain_7 (by decide) (fun h => absurd h (by rw [hg]; decide)) (fun _ => ?_)
  refine z_ldc C (v := (-1000000003)) (by decide +kernel) dX5_rain_10 ?_
  exact E _ _ _ _ (⟨rfl, rfl⟩) (rfl) dX5_rain_12

set_option maxHeartbeats 4000000 in
set_option maxRecDepth 100000 in
theorem c_X5_rain_20 (l : Launch) (θ : zH) (ea : Nat → Nat → Nat) (ad : Nat → Nat) (n : Nat → Nat) (g : Nat → Int32) (b : Nat → Bool) (r : Nat → Nat → Int32) (V : Nat → Ev)  (hg : b 1 = true) (h17 : n 17 < 16) (h16 : n 16 ≤ 16) : cI l yX5_rain wsX5_rain 3 θ [.ref (ad 0), .int (nI 0)] (CW θ ea ad n g b r V) (fun r0 Y => r0 = bI (b 2) ∧ Y = CW θ ea ad (cnv (n 0) (n 1) (n 2) (n 3) (n 4) (n 5) (n 6) (n 7) (n 8) (n 9) (n 10) (n 11) (n 12) (n 13) (n 14) (n 15) (min (n 16 + 1) 16) ((n 17 + 1) % 16) (n 18) (n 19) (n 20)) g (cbv (b 0) (b 1) false) r (va_up V (2 + n 17) ((g 3, g 4, g 5, b 2, g 6, n 13, n 14, n 15), (va_cpy (r 7) (V (2 + n 17)).2.1 0 0 5, va_cpy (r 8) (V (2 + n 17)).2.2.1 0 0 5, va_cpy (r 9) (V (2 + n 17)).2.2.2.1 0 0 4, va_cpy (r 10) (V (2 + n 17)).2.2.2.2.1 0 0 20, va_cpy (r 11) (V (2 + n 17)).2.2.2.2.2.1 0 0 20, va_cpy (r 12) (V (2 + n 17)).2.2.2.2.2.2 0 0 20)))) := by
  refine z_cI (by decide) rfl rfl (Nat.le_of_ble_eq_true rfl) (lv := [(0, .ref (ad 0)), (1, .int (nI 0))]) rfl (fun κ C E => ?_)
  have hinX0 : ∀ w ∈ wsX00, w ∈ wsX5_rain := by decide +kernel
  have hinX1 : ∀ w ∈ wsX10, w ∈ wsX5_rain := by decide +kernel
  have hinX5 : ∀ w ∈ wsX50, w ∈ wsX5_rain := by decide +kernel
  refine z_aload_n C dX5_rain_0 rfl (show zlk _ 0 = some (.ref (ad 0)) from rfl) ?_
  refine z_get C hinX5 0 cc_0 rfl 1 (by decide) (by decide +kernel) cg_0_1 dX5_rain_1 ?_
  refine z_getN C (host := "GnatPortraits") hinX0 3 cc_3 rfl 0 (by decide) (by decide +kernel) cg_3_0 dX5_rain_4 ?_
  refine z_if_neB C 13 dX5_rain_7 (by decide) (fun _ => ?_) (fun h => absurd h (by rw [hg]; decide))
  refine z_aload_n C dX5_rain_13 rfl (show zlk _ 0 = some (.ref (ad 0)) from rfl) ?_
  refine z_get C hinX5 0 cc_0 rfl 3 (by decide) (by decide +kernel) cg_0_3 dX5_rain_14 ?_
  refine z_aload_n C dX5_rain_17 rfl (show zlk _ 0 = some (.ref (ad 0)) from rfl) ?_
  refine z_get C hinX5 0 cc_0 rfl 2 (by decide) (by decide +kernel) cg_0_2 dX5_rain_18 ?_
  refine z_callNv C (As := [.ref (ad 4)]) (rest := []) (host := "GnatPortraits") (c_X2_remember l θ ea ad n g b r V h17 h16) gX5_rain_X2_remember_n192 rfl 1 (by decide +kernel) (by decide +kernel) (by decide +kernel) (by decide +kernel) (by decide +kernel) (by decide) (by decide) 5 rfl rfl rfl rfl rfl (Nat.le_of_ble_eq_true rfl) dX5_rain_21 ?_
  rintro _ rfl
  refine z_X (Y := CW θ ea ad (cnv (n 0) (n 1) (n 2) (n 3) (n 4) (n 5) (n 6) (n 7) (n 8) (n 9) (n 10) (n 11) (n 12) (n 13) (n 14) (n 15) (min (n 16 + 1) 16) ((n 17 + 1) % 16) (n 18) (n 19) (n 20)) g b r (va_up V (2 + n 17) ((g 3, g 4, g 5, b 2, g 6, n 13, n 14, n 15), (va_cpy (r 7) (V (2 + n 17)).2.1 0 0 5, va_cpy (r 8) (V (2 + n 17)).2.2.1 0 0 5, va_cpy (r 9) (V (2 + n 17)).2.2.2.1 0 0 4, va_cpy (r 10) (V (2 + n 17)).2.2.2.2.1 0 0 20, va_cpy (r 11) (V (2 + n 17)).2.2.2.2.2.1 0 0 20, va_cpy (r 12) (V (2 + n 17)).2.2.2.2.2.2 0 0 20)))) (cw_eq rfl rfl rfl rfl rfl rfl rfl rfl rfl rfl rfl rfl rfl rfl rfl rfl rfl rfl rfl rfl rfl rfl rfl rfl rfl rfl rfl rfl rfl rfl rfl rfl rfl rfl rfl rfl rfl rfl rfl rfl rfl rfl rfl rfl rfl rfl rfl rfl rfl rfl rfl) ?_
  refine z_aload_n C dX5_rain_24 rfl (show zlk _ 0 = some (.ref (ad 0)) from rfl) ?_
  refine z_get C hinX5 0 cc_0 rfl 2 (by decide) (by decide +kernel) cg_0_2 dX5_rain_25 ?_
  refine z_getN C (host := "GnatPortraits") hinX1 4 cc_4 rfl 3 (by decide) (by decide +kernel) cg_4_3 dX5_rain_28 ?_
  refine z_if_eqB C 38 dX5_rain_31 (by decide) (fun h31t_1 => ?_) (fun h31n_1 => ?_)
  · refine z_iconst C (v := nI 0) dX5_rain_38 (by decide) ?_
    refine z_istore_n C [(2, .int (nI 0)), (0, .ref (ad 0)), (1, .int (nI 0))] dX5_rain_39 rfl (by decide) rfl ?_
    refine z_aload_n C dX5_rain_40 rfl (show zlk _ 0 = some (.ref (ad 0)) from rfl) ?_
    refine z_get C hinX5 0 cc_0 rfl 2 (by decide) (by decide +kernel) cg_0_2 dX5_rain_41 ?_
    refine z_iload_n C dX5_rain_44 rfl (show zlk _ 1 = some (.int (nI 0)) from rfl) ?_
    refine z_top (v' := .int (bI false)) rfl ?_
    refine z_putN C (host := "GnatPortraits") hinX1 tyX1 tyX1_ok nmX1 4 cc_4 rfl 3 (by decide) (by decide +kernel) rfl rfl (bI_n _) (bI_f2 _) (Nat.le_of_ble_eq_true rfl) _ cp_4_3 dX5_rain_45 ?_
    refine z_iload_n C dX5_rain_48 rfl (show zlk _ 2 = some (.int (nI 0)) from rfl) ?_
    exact E _ _ _ _ (⟨bI_f h31t_1, (cw_eq rfl rfl rfl rfl rfl rfl rfl rfl rfl rfl rfl rfl rfl rfl rfl rfl rfl rfl rfl rfl rfl rfl rfl rfl rfl rfl rfl rfl rfl rfl rfl rfl rfl rfl rfl rfl rfl rfl rfl rfl rfl rfl rfl rfl rfl rfl rfl rfl rfl rfl rfl)⟩) (rfl) dX5_rain_49
  · refine z_iconst C (v := nI 1) dX5_rain_34 (by decide) ?_
    refine z_goto C 39 dX5_rain_35 (by decide) ?_
    refine z_istore_n C [(2, .int (nI 1)), (0, .ref (ad 0)), (1, .int (nI 0))] dX5_rain_39 rfl (by decide) rfl ?_
    refine z_aload_n C dX5_rain_40 rfl (show zlk _ 0 = some (.ref (ad 0)) from rfl) ?_
    refine z_get C hinX5 0 cc_0 rfl 2 (by decide) (by decide +kernel) cg_0_2 dX5_rain_41 ?_
    refine z_iload_n C dX5_rain_44 rfl (show zlk _ 1 = some (.int (nI 0)) from rfl) ?_
    refine z_top (v' := .int (bI false)) rfl ?_
    refine z_putN C (host := "GnatPortraits") hinX1 tyX1 tyX1_ok nmX1 4 cc_4 rfl 3 (by decide) (by decide +kernel) rfl rfl (bI_n _) (bI_f2 _) (Nat.le_of_ble_eq_true rfl) _ cp_4_3 dX5_rain_45 ?_
    refine z_iload_n C dX5_rain_48 rfl (show zlk _ 2 = some (.int (nI 1)) from rfl) ?_
    exact E _ _ _ _ (⟨bI_t h31n_1, (cw_eq rfl rfl rfl rfl rfl rfl rfl rfl rfl rfl rfl rfl rfl rfl rfl rfl rfl rfl rfl rfl rfl rfl rfl rfl rfl rfl rfl rfl rfl rfl rfl rfl rfl rfl rfl rfl rfl rfl rfl rfl rfl rfl rfl rfl rfl rfl rfl rfl rfl rfl rfl)⟩) (rfl) dX5_rain_49

set_option maxHeartbeats 4000000 in
set_option maxRecDepth 100000 in
theorem c_X5_rain_21 (l : Launch) (θ : zH) (ea : Nat → Nat → Nat) (ad : Nat → Nat) (n : Nat → Nat) (g : Nat → Int32) (b : Nat → Bool) (r : Nat → Nat → Int32) (V : Nat → Ev)  (hg : b 1 = true) (h17 : n 17 < 16) (h16 : n 16 ≤ 16) : cI l yX5_rain wsX5_rain 3 θ [.ref (ad 0), .int (nI 1)] (CW θ ea ad n g b r V) (fun r0 Y => r0 = bI (b 2) ∧ Y = CW θ ea ad (cnv (n 0) (n 1) (n 2) (n 3) (n 4) (n 5) (n 6) (n 7) (n 8) (n 9) (n 10) (n 11) (n 12) (n 13) (n 14) (n 15) (min (n 16 + 1) 16) ((n 17 + 1) % 16) (n 18) (n 19) (n 20)) g (cbv (b 0) (b 1) true) r (va_up V (2 + n 17) ((g 3, g 4, g 5, b 2, g 6, n 13, n 14, n 15), (va_cpy (r 7) (V (2 + n 17)).2.1 0 0 5, va_cpy (r 8) (V (2 + n 17)).2.2.1 0 0 5, va_cpy (r 9) (V (2 + n 17)).2.2.2.1 0 0 4, va_cpy (r 10) (V (2 + n 17)).2.2.2.2.1 0 0 20, va_cpy (r 11) (V (2 + n 17)).2.2.2.2.2.1 0 0 20, va_cpy (r 12) (V (2 + n 17)).2.2.2.2.2.2 0 0 20)))) := by
  refine z_cI (by decide) rfl rfl (Nat.le_of_ble_eq_true rfl) (lv := [(0, .ref (ad 0)), (1, .int (nI 1))]) rfl (fun κ C E => ?_)
  have hinX0 : ∀ w ∈ wsX00, w ∈ wsX5_rain := by decide +kernel
  have hinX1 : ∀ w ∈ wsX10, w ∈ wsX5_rain := by decide +kernel
  have hinX5 : ∀ w ∈ wsX50, w ∈ wsX5_rain := by decide +kernel
  refine z_aload_n C dX5_rain_0 rfl (show zlk _ 0 = some (.ref (ad 0)) from rfl) ?_
  refine z_get C hinX5 0 cc_0 rfl 1 (by decide) (by decide +kernel) cg_0_1 dX5_rain_1 ?_
  refine z_getN C (host := "GnatPortraits") hinX0 3 cc_3 rfl 0 (by decide) (by decide +kernel) cg_3_0 dX5_rain_4 ?_
  refine z_if_neB C 13 dX5_rain_7 (by decide) (fun _ => ?_) (fun h => absurd h (by rw [hg]; decide))
  refine z_aload_n C dX5_rain_13 rfl (show zlk _ 0 = some (.ref (ad 0)) from rfl) ?_
  refine z_get C hinX5 0 cc_0 rfl 3 (by decide) (by decide +kernel) cg_0_3 dX5_rain_14 ?_
  refine z_aload_n C dX5_rain_17 rfl (show zlk _ 0 = some (.ref (ad 0)) from rfl) ?_
  refine z_get C hinX5 0 cc_0 rfl 2 (by decide) (by decide +kernel) cg_0_2 dX5_rain_18 ?_
  refine z_callNv C (As := [.ref (ad 4)]) (rest := []) (host := "GnatPortraits") (c_X2_remember l θ ea ad n g b r V h17 h16) gX5_rain_X2_remember_n192 rfl 1 (by decide +kernel) (by decide +kernel) (by decide +kernel) (by decide +kernel) (by decide +kernel) (by decide) (by decide) 5 rfl rfl rfl rfl rfl (Nat.le_of_ble_eq_true rfl) dX5_rain_21 ?_
  rintro _ rfl
  refine z_X (Y := CW θ ea ad (cnv (n 0) (n 1) (n 2) (n 3) (n 4) (n 5) (n 6) (n 7) (n 8) (n 9) (n 10) (n 11) (n 12) (n 13) (n 14) (n 15) (min (n 16 + 1) 16) ((n 17 + 1) % 16) (n 18) (n 19) (n 20)) g b r (va_up V (2 + n 17) ((g 3, g 4, g 5, b 2, g 6, n 13, n 14, n 15), (va_cpy (r 7) (V (2 + n 17)).2.1 0 0 5, va_cpy (r 8) (V (2 + n 17)).2.2.1 0 0 5, va_cpy (r 9) (V (2 + n 17)).2.2.2.1 0 0 4, va_cpy (r 10) (V (2 + n 17)).2.2.2.2.1 0 0 20, va_cpy (r 11) (V (2 + n 17)).2.2.2.2.2.1 0 0 20, va_cpy (r 12) (V (2 + n 17)).2.2.2.2.2.2 0 0 20)))) (cw_eq rfl rfl rfl rfl rfl rfl rfl rfl rfl rfl rfl rfl rfl rfl rfl rfl rfl rfl rfl rfl rfl rfl rfl rfl rfl rfl rfl rfl rfl rfl rfl rfl rfl rfl rfl rfl rfl rfl rfl rfl rfl rfl rfl rfl rfl rfl rfl rfl rfl rfl rfl) ?_
  refine z_aload_n C dX5_rain_24 rfl (show zlk _ 0 = some (.ref (ad 0)) from rfl) ?_
  refine z_get C hinX5 0 cc_0 rfl 2 (by decide) (by decide +kernel) cg_0_2 dX5_rain_25 ?_
  refine z_getN C (host := "GnatPortraits") hinX1 4 cc_4 rfl 3 (by decide) (by decide +kernel) cg_4_3 dX5_rain_28 ?_
  refine z_if_eqB C 38 dX5_rain_31 (by decide) (fun h31t_1 => ?_) (fun h31n_1 => ?_)
  · refine z_iconst C (v := nI 0) dX5_rain_38 (by decide) ?_
    refine z_istore_n C [(2, .int (nI 0)), (0, .ref (ad 0)), (1, .int (nI 1))] dX5_rain_39 rfl (by decide) rfl ?_
    refine z_aload_n C dX5_rain_40 rfl (show zlk _ 0 = some (.ref (ad 0)) from rfl) ?_
    refine z_get C hinX5 0 cc_0 rfl 2 (by decide) (by decide +kernel) cg_0_2 dX5_rain_41 ?_
    refine z_iload_n C dX5_rain_44 rfl (show zlk _ 1 = some (.int (nI 1)) from rfl) ?_
    refine z_top (v' := .int (bI true)) rfl ?_
    refine z_putN C (host := "GnatPortraits") hinX1 tyX1 tyX1_ok nmX1 4 cc_4 rfl 3 (by decide) (by decide +kernel) rfl rfl (bI_n _) (bI_f2 _) (Nat.le_of_ble_eq_true rfl) _ cp_4_3 dX5_rain_45 ?_
    refine z_iload_n C dX5_rain_48 rfl (show zlk _ 2 = some (.int (nI 0)) from rfl) ?_
    exact E _ _ _ _ (⟨bI_f h31t_1, (cw_eq rfl rfl rfl rfl rfl rfl rfl rfl rfl rfl rfl rfl rfl rfl rfl rfl rfl rfl rfl rfl rfl rfl rfl rfl rfl rfl rfl rfl rfl rfl rfl rfl rfl rfl rfl rfl rfl rfl rfl rfl rfl rfl rfl rfl rfl rfl rfl rfl rfl rfl rfl)⟩) (rfl) dX5_rain_49
  · refine z_iconst C (v := nI 1) dX5_rain_34 (by decide) ?_
    refine z_goto C 39 dX5_rain_35 (by decide) ?_
    refine z_istore_n C [(2, .int (nI 1)), (0, .ref (ad 0)), (1, .int (nI 1))] dX5_rain_39 rfl (by decide) rfl ?_
    refine z_aload_n C dX5_rain_40 rfl (show zlk _ 0 = some (.ref (ad 0)) from rfl) ?_
    refine z_get C hinX5 0 cc_0 rfl 2 (by decide) (by decide +kernel) cg_0_2 dX5_rain_41 ?_
    refine z_iload_n C dX5_rain_44 rfl (show zlk _ 1 = some (.int (nI 1)) from rfl) ?_
    refine z_top (v' := .int (bI true)) rfl ?_
    refine z_putN C (host := "GnatPortraits") hinX1 tyX1 tyX1_ok nmX1 4 cc_4 rfl 3 (by decide) (by decide +kernel) rfl rfl (bI_n _) (bI_f2 _) (Nat.le_of_ble_eq_true rfl) _ cp_4_3 dX5_rain_45 ?_
    refine z_iload_n C dX5_rain_48 rfl (show zlk _ 2 = some (.int (nI 1)) from rfl) ?_
    exact E _ _ _ _ (⟨bI_t h31n_1, (cw_eq rfl rfl rfl rfl rfl rfl rfl rfl rfl rfl rfl rfl rfl rfl rfl rfl rfl rfl rfl rfl rfl rfl rfl rfl rfl rfl rfl rfl rfl rfl rfl rfl rfl rfl rfl rfl rfl rfl rfl rfl rfl rfl rfl rfl rfl rfl rfl rfl rfl rfl rfl)⟩) (rfl) dX5_rain_49

set_option maxHeartbeats 4000000 in
set_option maxRecDepth 100000 in
theorem c_X5_smoke_1 (l : Launch) (θ : zH) (ea : Nat → Nat → Nat) (ad : Nat → Nat) (n : Nat → Nat) (g : Nat → Int32) (b : Nat → Bool) (r : Nat → Nat → Int32) (V : Nat → Ev) (w x : Int32) (hW : n 11 ≤ 5) (hw : okN w (n 11) = false) : cI l yX5_smoke wsX5_smoke 3 θ [.ref (ad 0), .int w, .int x] (CW θ ea ad n g b r V) (fun r0 Y => r0 = (-1000000001) ∧ Y = CW θ ea ad n g b r V) := by
  refine z_cI (by decide) rfl rfl (Nat.le_of_ble_eq_true rfl) (lv := [(0, .ref (ad 0)), (1, .int w), (2, .int x)]) rfl (fun κ C E => ?_)
  refine z_aload_n C dX5_smoke_0 rfl (show zlk _ 0 = some (.ref (ad 0)) from rfl) ?_
  refine z_iload_n C dX5_smoke_1 rfl (show zlk _ 1 = some (.int w) from rfl) ?_
  refine z_callVi C (As := [.int w]) (rest := []) (c_X5_isWindow l θ ea ad n g b r V w (by omega)) gX5_smoke_X5_isWindow rfl 1 (by decide +kernel) (by decide) (by decide) 0 rfl rfl rfl rfl rfl (Nat.le_of_ble_eq_true rfl) dX5_smoke_2 ?_
  rintro _ _ ⟨rfl, rfl⟩
  refine z_if_neB C 11 dX5_smoke_5 (by decide) (fun h => absurd h (by rw [hw]; decide)) (fun _ => ?_)
  refine z_ldc C (v := (-1000000001)) (by decide +kernel) dX5_smoke_8 ?_
  exact E _ _ _ _ (⟨rfl, rfl⟩) (rfl) dX5_smoke_10

set_option maxHeartbeats 4000000 in
set_option maxRecDepth 100000 in
theorem c_X5_smoke_21 (l : Launch) (θ : zH) (ea : Nat → Nat → Nat) (ad : Nat → Nat) (n : Nat → Nat) (g : Nat → Int32) (b : Nat → Bool) (r : Nat → Nat → Int32) (V : Nat → Ev) (w : Nat) (hW : n 11 ≤ 5) (hw : w < n 11) (h17 : n 17 < 16) (h16 : n 16 ≤ 16) : cI l yX5_smoke wsX5_smoke 3 θ [.ref (ad 0), .int (nI w), .int (nI 1)] (CW θ ea ad n g b r V) (fun r0 Y => r0 = (g 6 >>> (nI w &&& 31)) &&& nI 1 ∧ Y = CW θ ea ad (cnv (n 0) (n 1) (n 2) (n 3) (n 4) (n 5) (n 6) (n 7) (n 8) (n 9) (n 10) (n 11) (n 12) (n 13) (n 14) (n 15) (min (n 16 + 1) 16) ((n 17 + 1) % 16) (n 18) (n 19) (n 20)) (cgv (g 0) (g 1) (g 2) (g 3) (g 4) (g 5) (g 6 ||| (nI 1 <<< (nI w &&& 31)))) b r (va_up V (2 + n 17) ((g 3, g 4, g 5, b 2, g 6, n 13, n 14, n 15), (va_cpy (r 7) (V (2 + n 17)).2.1 0 0 5, va_cpy (r 8) (V (2 + n 17)).2.2.1 0 0 5, va_cpy (r 9) (V (2 + n 17)).2.2.2.1 0 0 4, va_cpy (r 10) (V (2 + n 17)).2.2.2.2.1 0 0 20, va_cpy (r 11) (V (2 + n 17)).2.2.2.2.2.1 0 0 20, va_cpy (r 12) (V (2 + n 17)).2.2.2.2.2.2 0 0 20)))) := by
  refine z_cI (by decide) rfl rfl (Nat.le_of_ble_eq_true rfl) (lv := [(0, .ref (ad 0)), (1, .int (nI w)), (2, .int (nI 1))]) rfl (fun κ C E => ?_)
  have hinX1 : ∀ w ∈ wsX10, w ∈ wsX5_smoke := by decide +kernel
  have hinX5 : ∀ w ∈ wsX50, w ∈ wsX5_smoke := by decide +kernel
  refine z_aload_n C dX5_smoke_0 rfl (show zlk _ 0 = some (.ref (ad 0)) from rfl) ?_
  refine z_iload_n C dX5_smoke_1 rfl (show zlk _ 1 = some (.int (nI w)) from rfl) ?_
  refine z_callVi C (As := [.int (nI w)]) (rest := []) (c_X5_isWindow l θ ea ad n g b r V (nI w) (by omega)) gX5_smoke_X5_isWindow rfl 1 (by decide +kernel) (by decide) (by decide) 0 rfl rfl rfl rfl rfl (Nat.le_of_ble_eq_true rfl) dX5_smoke_2 ?_
  rintro _ _ ⟨rfl, rfl⟩
  refine z_if_neB C 11 dX5_smoke_5 (by decide) (fun _ => ?_) (fun h => absurd h (by rw [okN_lt hw (by omega)]; decide))
  refine z_aload_n C dX5_smoke_11 rfl (show zlk _ 0 = some (.ref (ad 0)) from rfl) ?_
  refine z_get C hinX5 0 cc_0 rfl 3 (by decide) (by decide +kernel) cg_0_3 dX5_smoke_12 ?_
  refine z_aload_n C dX5_smoke_15 rfl (show zlk _ 0 = some (.ref (ad 0)) from rfl) ?_
  refine z_get C hinX5 0 cc_0 rfl 2 (by decide) (by decide +kernel) cg_0_2 dX5_smoke_16 ?_
  refine z_callNv C (As := [.ref (ad 4)]) (rest := []) (host := "GnatPortraits") (c_X2_remember l θ ea ad n g b r V h17 h16) gX5_smoke_X2_remember_n192 rfl 1 (by decide +kernel) (by decide +kernel) (by decide +kernel) (by decide +kernel) (by decide +kernel) (by decide) (by decide) 5 rfl rfl rfl rfl rfl (Nat.le_of_ble_eq_true rfl) dX5_smoke_19 ?_
  rintro _ rfl
  refine z_X (Y := CW θ ea ad (cnv (n 0) (n 1) (n 2) (n 3) (n 4) (n 5) (n 6) (n 7) (n 8) (n 9) (n 10) (n 11) (n 12) (n 13) (n 14) (n 15) (min (n 16 + 1) 16) ((n 17 + 1) % 16) (n 18) (n 19) (n 20)) g b r (va_up V (2 + n 17) ((g 3, g 4, g 5, b 2, g 6, n 13, n 14, n 15), (va_cpy (r 7) (V (2 + n 17)).2.1 0 0 5, va_cpy (r 8) (V (2 + n 17)).2.2.1 0 0 5, va_cpy (r 9) (V (2 + n 17)).2.2.2.1 0 0 4, va_cpy (r 10) (V (2 + n 17)).2.2.2.2.1 0 0 20, va_cpy (r 11) (V (2 + n 17)).2.2.2.2.2.1 0 0 20, va_cpy (r 12) (V (2 + n 17)).2.2.2.2.2.2 0 0 20)))) (cw_eq rfl rfl rfl rfl rfl rfl rfl rfl rfl rfl rfl rfl rfl rfl rfl rfl rfl rfl rfl rfl rfl rfl rfl rfl rfl rfl rfl rfl rfl rfl rfl rfl rfl rfl rfl rfl rfl rfl rfl rfl rfl rfl rfl rfl rfl rfl rfl rfl rfl rfl rfl) ?_
  refine z_aload_n C dX5_smoke_22 rfl (show zlk _ 0 = some (.ref (ad 0)) from rfl) ?_
  refine z_get C hinX5 0 cc_0 rfl 2 (by decide) (by decide +kernel) cg_0_2 dX5_smoke_23 ?_
  refine z_getN C (host := "GnatPortraits") hinX1 4 cc_4 rfl 4 (by decide) (by decide +kernel) cg_4_4 dX5_smoke_26 ?_
  refine z_iload_n C dX5_smoke_29 rfl (show zlk _ 1 = some (.int (nI w)) from rfl) ?_
  refine z_ishr C dX5_smoke_30 ?_
  refine z_iconst C (v := nI 1) dX5_smoke_31 (by decide) ?_
  refine z_iand C dX5_smoke_32 ?_
  refine z_istore_n C [(3, .int (((g 6) >>> ((nI w) &&& 31)) &&& (nI 1))), (0, .ref (ad 0)), (1, .int (nI w)), (2, .int (nI 1))] dX5_smoke_33 rfl (by decide) rfl ?_
  refine z_aload_n C dX5_smoke_34 rfl (show zlk _ 0 = some (.ref (ad 0)) from rfl) ?_
  refine z_get C hinX5 0 cc_0 rfl 2 (by decide) (by decide +kernel) cg_0_2 dX5_smoke_35 ?_
  refine z_iload_n C dX5_smoke_38 rfl (show zlk _ 2 = some (.int (nI 1)) from rfl) ?_
  refine z_if_eqN C 56 dX5_smoke_39 (by decide) (by decide) (fun h => absurd h (by decide)) (fun _ => ?_)
  refine z_aload_n C dX5_smoke_42 rfl (show zlk _ 0 = some (.ref (ad 0)) from rfl) ?_
  refine z_get C hinX5 0 cc_0 rfl 2 (by decide) (by decide +kernel) cg_0_2 dX5_smoke_43 ?_
  refine z_getN C (host := "GnatPortraits") hinX1 4 cc_4 rfl 4 (by decide) (by decide +kernel) cg_4_4 dX5_smoke_46 ?_
  refine z_iconst C (v := nI 1) dX5_smoke_49 (by decide) ?_
  refine z_iload_n C dX5_smoke_50 rfl (show zlk _ 1 = some (.int (nI w)) from rfl) ?_
  refine z_ishl C dX5_smoke_51 ?_
  refine z_ior C dX5_smoke_52 ?_
  refine z_goto C 69 dX5_smoke_53 (by decide) ?_
  refine z_putN C (host := "GnatPortraits") hinX1 tyX1 tyX1_ok nmX1 4 cc_4 rfl 4 (by decide) (by decide +kernel) rfl rfl rfl rfl (Nat.le_of_ble_eq_true rfl) _ cp_4_4 dX5_smoke_69 ?_
  refine z_iload_n C dX5_smoke_72 rfl (show zlk _ 3 = some (.int (((g 6) >>> ((nI w) &&& 31)) &&& (nI 1))) from rfl) ?_
  exact E _ _ _ _ (⟨rfl, (cw_eq rfl rfl rfl rfl rfl rfl rfl rfl rfl rfl rfl rfl rfl rfl rfl rfl rfl rfl rfl rfl rfl rfl rfl rfl rfl rfl rfl rfl rfl rfl rfl rfl rfl rfl rfl rfl rfl rfl rfl rfl rfl rfl rfl rfl rfl rfl rfl rfl rfl rfl rfl)⟩) (rfl) dX5_smoke_73

set_option maxHeartbeats 4000000 in
set_option maxRecDepth 100000 in
theorem c_X5_smoke_20 (l : Launch) (θ : zH) (ea : Nat → Nat → Nat) (ad : Nat → Nat) (n : Nat → Nat) (g : Nat → Int32) (b : Nat → Bool) (r : Nat → Nat → Int32) (V : Nat → Ev) (w : Nat) (hW : n 11 ≤ 5) (hw : w < n 11) (h17 : n 17 < 16) (h16 : n 16 ≤ 16) : cI l yX5_smoke wsX5_smoke 3 θ [.ref (ad 0), .int (nI w), .int (nI 0)] (CW θ ea ad n g b r V) (fun r0 Y => r0 = (g 6 >>> (nI w &&& 31)) &&& nI 1 ∧ Y = CW θ ea ad (cnv (n 0) (n 1) (n 2) (n 3) (n 4) (n 5) (n 6) (n 7) (n 8) (n 9) (n 10) (n 11) (n 12) (n 13) (n 14) (n 15) (min (n 16 + 1) 16) ((n 17 + 1) % 16) (n 18) (n 19) (n 20)) (cgv (g 0) (g 1) (g 2) (g 3) (g 4) (g 5) (g 6 &&& ((nI 1 <<< (nI w &&& 31)) ^^^ (-1)))) b r (va_up V (2 + n 17) ((g 3, g 4, g 5, b 2, g 6, n 13, n 14, n 15), (va_cpy (r 7) (V (2 + n 17)).2.1 0 0 5, va_cpy (r 8) (V (2 + n 17)).2.2.1 0 0 5, va_cpy (r 9) (V (2 + n 17)).2.2.2.1 0 0 4, va_cpy (r 10) (V (2 + n 17)).2.2.2.2.1 0 0 20, va_cpy (r 11) (V (2 + n 17)).2.2.2.2.2.1 0 0 20, va_cpy (r 12) (V (2 + n 17)).2.2.2.2.2.2 0 0 20)))) := by
  refine z_cI (by decide) rfl rfl (Nat.le_of_ble_eq_true rfl) (lv := [(0, .ref (ad 0)), (1, .int (nI w)), (2, .int (nI 0))]) rfl (fun κ C E => ?_)
  have hinX1 : ∀ w ∈ wsX10, w ∈ wsX5_smoke := by decide +kernel
  have hinX5 : ∀ w ∈ wsX50, w ∈ wsX5_smoke := by decide +kernel
  refine z_aload_n C dX5_smoke_0 rfl (show zlk _ 0 = some (.ref (ad 0)) from rfl) ?_
  refine z_iload_n C dX5_smoke_1 rfl (show zlk _ 1 = some (.int (nI w)) from rfl) ?_
  refine z_callVi C (As := [.int (nI w)]) (rest := []) (c_X5_isWindow l θ ea ad n g b r V (nI w) (by omega)) gX5_smoke_X5_isWindow rfl 1 (by decide +kernel) (by decide) (by decide) 0 rfl rfl rfl rfl rfl (Nat.le_of_ble_eq_true rfl) dX5_smoke_2 ?_
  rintro _ _ ⟨rfl, rfl⟩
  refine z_if_neB C 11 dX5_smoke_5 (by decide) (fun _ => ?_) (fun h => absurd h (by rw [okN_lt hw (by omega)]; decide))
  refine z_aload_n C dX5_smoke_11 rfl (show zlk _ 0 = some (.ref (ad 0)) from rfl) ?_
  refine z_get C hinX5 0 cc_0 rfl 3 (by decide) (by decide +kernel) cg_0_3 dX5_smoke_12 ?_
  refine z_aload_n C dX5_smoke_15 rfl (show zlk _ 0 = some (.ref (ad 0)) from rfl) ?_
  refine z_get C hinX5 0 cc_0 rfl 2 (by decide) (by decide +kernel) cg_0_2 dX5_smoke_16 ?_
  refine z_callNv C (As := [.ref (ad 4)]) (rest := []) (host := "GnatPortraits") (c_X2_remember l θ ea ad n g b r V h17 h16) gX5_smoke_X2_remember_n192 rfl 1 (by decide +kernel) (by decide +kernel) (by decide +kernel) (by decide +kernel) (by decide +kernel) (by decide) (by decide) 5 rfl rfl rfl rfl rfl (Nat.le_of_ble_eq_true rfl) dX5_smoke_19 ?_
  rintro _ rfl
  refine z_X (Y := CW θ ea ad (cnv (n 0) (n 1) (n 2) (n 3) (n 4) (n 5) (n 6) (n 7) (n 8) (n 9) (n 10) (n 11) (n 12) (n 13) (n 14) (n 15) (min (n 16 + 1) 16) ((n 17 + 1) % 16) (n 18) (n 19) (n 20)) g b r (va_up V (2 + n 17) ((g 3, g 4, g 5, b 2, g 6, n 13, n 14, n 15), (va_cpy (r 7) (V (2 + n 17)).2.1 0 0 5, va_cpy (r 8) (V (2 + n 17)).2.2.1 0 0 5, va_cpy (r 9) (V (2 + n 17)).2.2.2.1 0 0 4, va_cpy (r 10) (V (2 + n 17)).2.2.2.2.1 0 0 20, va_cpy (r 11) (V (2 + n 17)).2.2.2.2.2.1 0 0 20, va_cpy (r 12) (V (2 + n 17)).2.2.2.2.2.2 0 0 20)))) (cw_eq rfl rfl rfl rfl rfl rfl rfl rfl rfl rfl rfl rfl rfl rfl rfl rfl rfl rfl rfl rfl rfl rfl rfl rfl rfl rfl rfl rfl rfl rfl rfl rfl rfl rfl rfl rfl rfl rfl rfl rfl rfl rfl rfl rfl rfl rfl rfl rfl rfl rfl rfl) ?_
  refine z_aload_n C dX5_smoke_22 rfl (show zlk _ 0 = some (.ref (ad 0)) from rfl) ?_
  refine z_get C hinX5 0 cc_0 rfl 2 (by decide) (by decide +kernel) cg_0_2 dX5_smoke_23 ?_
  refine z_getN C (host := "GnatPortraits") hinX1 4 cc_4 rfl 4 (by decide) (by decide +kernel) cg_4_4 dX5_smoke_26 ?_
  refine z_iload_n C dX5_smoke_29 rfl (show zlk _ 1 = some (.int (nI w)) from rfl) ?_
  refine z_ishr C dX5_smoke_30 ?_
  refine z_iconst C (v := nI 1) dX5_smoke_31 (by decide) ?_
  refine z_iand C dX5_smoke_32 ?_
  refine z_istore_n C [(3, .int (((g 6) >>> ((nI w) &&& 31)) &&& (nI 1))), (0, .ref (ad 0)), (1, .int (nI w)), (2, .int (nI 0))] dX5_smoke_33 rfl (by decide) rfl ?_
  refine z_aload_n C dX5_smoke_34 rfl (show zlk _ 0 = some (.ref (ad 0)) from rfl) ?_
  refine z_get C hinX5 0 cc_0 rfl 2 (by decide) (by decide +kernel) cg_0_2 dX5_smoke_35 ?_
  refine z_iload_n C dX5_smoke_38 rfl (show zlk _ 2 = some (.int (nI 0)) from rfl) ?_
  refine z_if_eqN C 56 dX5_smoke_39 (by decide) (by decide) (fun _ => ?_) (fun h => absurd h (by decide))
  refine z_aload_n C dX5_smoke_56 rfl (show zlk _ 0 = some (.ref (ad 0)) from rfl) ?_
  refine z_get C hinX5 0 cc_0 rfl 2 (by decide) (by decide +kernel) cg_0_2 dX5_smoke_57 ?_
  refine z_getN C (host := "GnatPortraits") hinX1 4 cc_4 rfl 4 (by decide) (by decide +kernel) cg_4_4 dX5_smoke_60 ?_
  refine z_iconst C (v := nI 1) dX5_smoke_63 (by decide) ?_
  refine z_iload_n C dX5_smoke_64 rfl (show zlk _ 1 = some (.int (nI w)) from rfl) ?_
  refine z_ishl C dX5_smoke_65 ?_
  refine z_iconst C (v := (-1)) dX5_smoke_66 (by decide) ?_
  refine z_ixor C dX5_smoke_67 ?_
  refine z_iand C dX5_smoke_68 ?_
  refine z_putN C (host := "GnatPortraits") hinX1 tyX1 tyX1_ok nmX1 4 cc_4 rfl 4 (by decide) (by decide +kernel) rfl rfl rfl rfl (Nat.le_of_ble_eq_true rfl) _ cp_4_4 dX5_smoke_69 ?_
  refine z_iload_n C dX5_smoke_72 rfl (show zlk _ 3 = some (.int (((g 6) >>> ((nI w) &&& 31)) &&& (nI 1))) from rfl) ?_
  exact E _ _ _ _ (⟨rfl, (cw_eq rfl rfl rfl rfl rfl rfl rfl rfl rfl rfl rfl rfl rfl rfl rfl rfl rfl rfl rfl rfl rfl rfl rfl rfl rfl rfl rfl rfl rfl rfl rfl rfl rfl rfl rfl rfl rfl rfl rfl rfl rfl rfl rfl rfl rfl rfl rfl rfl rfl rfl rfl)⟩) (rfl) dX5_smoke_73

set_option maxHeartbeats 4000000 in
set_option maxRecDepth 100000 in
theorem c_X5_press_1 (l : Launch) (θ : zH) (ea : Nat → Nat → Nat) (ad : Nat → Nat) (n : Nat → Nat) (g : Nat → Int32) (b : Nat → Bool) (r : Nat → Nat → Int32) (V : Nat → Ev) (v w : Int32) (hv : okN v 4 = false) : cI l yX5_press wsX5_press 3 θ [.ref (ad 0), .int v, .int w] (CW θ ea ad n g b r V) (fun r0 Y => r0 = (-1000000001) ∧ Y = CW θ ea ad n g b r V) := by
  refine z_cI (by decide) rfl rfl (Nat.le_of_ble_eq_true rfl) (lv := [(0, .ref (ad 0)), (1, .int v), (2, .int w)]) rfl (fun κ C E => ?_)
  refine z_iload_n C dX5_press_0 rfl (show zlk _ 1 = some (.int v) from rfl) ?_
  refine z_callSi C (As := [.int v]) (rest := []) (c_X5_isGlass l θ _ v) gX5_press_X5_isGlass rfl 1 (by decide +kernel) (by decide) (by decide) rfl rfl (Nat.le_of_ble_eq_true rfl) dX5_press_1 ?_
  rintro _ _ ⟨rfl, rfl⟩
  refine z_if_eqB C 15 dX5_press_4 (by decide) (fun _ => ?_) (fun h => absurd h (by rw [hv]; decide))
  refine z_ldc C (v := (-1000000001)) (by decide +kernel) dX5_press_15 ?_
  exact E _ _ _ _ (⟨rfl, rfl⟩) (rfl) dX5_press_17

set_option maxHeartbeats 4000000 in
set_option maxRecDepth 100000 in
theorem c_X5_press_2 (l : Launch) (θ : zH) (ea : Nat → Nat → Nat) (ad : Nat → Nat) (n : Nat → Nat) (g : Nat → Int32) (b : Nat → Bool) (r : Nat → Nat → Int32) (V : Nat → Ev) (v w : Int32) (hW : n 11 ≤ 5) (hv : okN v 4 = true) (hw : okN w (n 11) = false) : cI l yX5_press wsX5_press 3 θ [.ref (ad 0), .int v, .int w] (CW θ ea ad n g b r V) (fun r0 Y => r0 = (-1000000001) ∧ Y = CW θ ea ad n g b r V) := by
  refine z_cI (by decide) rfl rfl (Nat.le_of_ble_eq_true rfl) (lv := [(0, .ref (ad 0)), (1, .int v), (2, .int w)]) rfl (fun κ C E => ?_)
  refine z_iload_n C dX5_press_0 rfl (show zlk _ 1 = some (.int v) from rfl) ?_
  refine z_callSi C (As := [.int v]) (rest := []) (c_X5_isGlass l θ _ v) gX5_press_X5_isGlass rfl 1 (by decide +kernel) (by decide) (by decide) rfl rfl (Nat.le_of_ble_eq_true rfl) dX5_press_1 ?_
  rintro _ _ ⟨rfl, rfl⟩
  refine z_if_eqB C 15 dX5_press_4 (by decide) (fun h => absurd h (by rw [hv]; decide)) (fun _ => ?_)
  refine z_aload_n C dX5_press_7 rfl (show zlk _ 0 = some (.ref (ad 0)) from rfl) ?_
  refine z_iload_n C dX5_press_8 rfl (show zlk _ 2 = some (.int w) from rfl) ?_
  refine z_callVi C (As := [.int w]) (rest := []) (c_X5_isWindow l θ ea ad n g b r V w (by omega)) gX5_press_X5_isWindow rfl 1 (by decide +kernel) (by decide) (by decide) 0 rfl rfl rfl rfl rfl (Nat.le_of_ble_eq_true rfl) dX5_press_9 ?_
  rintro _ _ ⟨rfl, rfl⟩
  refine z_if_neB C 18 dX5_press_12 (by decide) (fun h => absurd h (by rw [hw]; decide)) (fun _ => ?_)
  refine z_ldc C (v := (-1000000001)) (by decide +kernel) dX5_press_15 ?_
  exact E _ _ _ _ (⟨rfl, rfl⟩) (rfl) dX5_press_17

set_option maxHeartbeats 4000000 in
set_option maxRecDepth 100000 in
theorem c_X5_press_3 (l : Launch) (θ : zH) (ea : Nat → Nat → Nat) (ad : Nat → Nat) (n : Nat → Nat) (g : Nat → Int32) (b : Nat → Bool) (r : Nat → Nat → Int32) (V : Nat → Ev) (v w : Nat) (hW : n 11 ≤ 5) (hv : v < 4) (hw : w < n 11) (hS : n 10 ≤ 6) (h9 : n 9 ≤ 30) (h17 : n 17 < 16) (h16 : n 16 ≤ 16) : cI l yX5_press wsX5_press 3 θ [.ref (ad 0), .int (nI v), .int (nI w)] (CW θ ea ad n g b r V) (fun r0 Y => r0 = r 9 v ∧ Y = CW θ ea ad (cnv (n 0) (n 1) (n 2) (n 3) (n 4) (n 5) (n 6) (n 7) (n 8) (n 9) (n 10) (n 11) (n 12) (n 13) (n 14) (n 15) (min (n 16 + 1) 16) ((n 17 + 1) % 16) (n 18) (n 19) (n 20)) g b (crv (r 0) (r 1) (r 2) (r 3) (r 4) (r 5) (r 6) (r 7) (r 8) (upd (r 9) v (k_dAt n g b r w)) (r 10) (r 11) (r 12) (r 13) (r 14) (r 15) (r 16) (r 17) (r 18)) (va_up V (2 + n 17) ((g 3, g 4, g 5, b 2, g 6, n 13, n 14, n 15), (va_cpy (r 7) (V (2 + n 17)).2.1 0 0 5, va_cpy (r 8) (V (2 + n 17)).2.2.1 0 0 5, va_cpy (r 9) (V (2 + n 17)).2.2.2.1 0 0 4, va_cpy (r 10) (V (2 + n 17)).2.2.2.2.1 0 0 20, va_cpy (r 11) (V (2 + n 17)).2.2.2.2.2.1 0 0 20, va_cpy (r 12) (V (2 + n 17)).2.2.2.2.2.2 0 0 20)))) := by
  refine z_cI (by decide) rfl rfl (Nat.le_of_ble_eq_true rfl) (lv := [(0, .ref (ad 0)), (1, .int (nI v)), (2, .int (nI w))]) rfl (fun κ C E => ?_)
  have hinX1 : ∀ w ∈ wsX10, w ∈ wsX5_press := by decide +kernel
  have hinX5 : ∀ w ∈ wsX50, w ∈ wsX5_press := by decide +kernel
  refine z_iload_n C dX5_press_0 rfl (show zlk _ 1 = some (.int (nI v)) from rfl) ?_
  refine z_callSi C (As := [.int (nI v)]) (rest := []) (c_X5_isGlass l θ _ (nI v)) gX5_press_X5_isGlass rfl 1 (by decide +kernel) (by decide) (by decide) rfl rfl (Nat.le_of_ble_eq_true rfl) dX5_press_1 ?_
  rintro _ _ ⟨rfl, rfl⟩
  refine z_if_eqB C 15 dX5_press_4 (by decide) (fun h => absurd h (by rw [okN_lt hv (by decide)]; decide)) (fun _ => ?_)
  refine z_aload_n C dX5_press_7 rfl (show zlk _ 0 = some (.ref (ad 0)) from rfl) ?_
  refine z_iload_n C dX5_press_8 rfl (show zlk _ 2 = some (.int (nI w)) from rfl) ?_
  refine z_callVi C (As := [.int (nI w)]) (rest := []) (c_X5_isWindow l θ ea ad n g b r V (nI w) (by omega)) gX5_press_X5_isWindow rfl 1 (by decide +kernel) (by decide) (by decide) 0 rfl rfl rfl rfl rfl (Nat.le_of_ble_eq_true rfl) dX5_press_9 ?_
  rintro _ _ ⟨rfl, rfl⟩
  refine z_if_neB C 18 dX5_press_12 (by decide) (fun _ => ?_) (fun h => absurd h (by rw [okN_lt hw (by omega)]; decide))
  refine z_aload_n C dX5_press_18 rfl (show zlk _ 0 = some (.ref (ad 0)) from rfl) ?_
  refine z_get C hinX5 0 cc_0 rfl 3 (by decide) (by decide +kernel) cg_0_3 dX5_press_19 ?_
  refine z_aload_n C dX5_press_22 rfl (show zlk _ 0 = some (.ref (ad 0)) from rfl) ?_
  refine z_get C hinX5 0 cc_0 rfl 2 (by decide) (by decide +kernel) cg_0_2 dX5_press_23 ?_
  refine z_callNv C (As := [.ref (ad 4)]) (rest := []) (host := "GnatPortraits") (c_X2_remember l θ ea ad n g b r V h17 h16) gX5_press_X2_remember_n192 rfl 1 (by decide +kernel) (by decide +kernel) (by decide +kernel) (by decide +kernel) (by decide +kernel) (by decide) (by decide) 5 rfl rfl rfl rfl rfl (Nat.le_of_ble_eq_true rfl) dX5_press_26 ?_
  rintro _ rfl
  refine z_X (Y := CW θ ea ad (cnv (n 0) (n 1) (n 2) (n 3) (n 4) (n 5) (n 6) (n 7) (n 8) (n 9) (n 10) (n 11) (n 12) (n 13) (n 14) (n 15) (min (n 16 + 1) 16) ((n 17 + 1) % 16) (n 18) (n 19) (n 20)) g b r (va_up V (2 + n 17) ((g 3, g 4, g 5, b 2, g 6, n 13, n 14, n 15), (va_cpy (r 7) (V (2 + n 17)).2.1 0 0 5, va_cpy (r 8) (V (2 + n 17)).2.2.1 0 0 5, va_cpy (r 9) (V (2 + n 17)).2.2.2.1 0 0 4, va_cpy (r 10) (V (2 + n 17)).2.2.2.2.1 0 0 20, va_cpy (r 11) (V (2 + n 17)).2.2.2.2.2.1 0 0 20, va_cpy (r 12) (V (2 + n 17)).2.2.2.2.2.2 0 0 20)))) (cw_eq rfl rfl rfl rfl rfl rfl rfl rfl rfl rfl rfl rfl rfl rfl rfl rfl rfl rfl rfl rfl rfl rfl rfl rfl rfl rfl rfl rfl rfl rfl rfl rfl rfl rfl rfl rfl rfl rfl rfl rfl rfl rfl rfl rfl rfl rfl rfl rfl rfl rfl rfl) ?_
  refine z_aload_n C dX5_press_29 rfl (show zlk _ 0 = some (.ref (ad 0)) from rfl) ?_
  refine z_get C hinX5 0 cc_0 rfl 2 (by decide) (by decide +kernel) cg_0_2 dX5_press_30 ?_
  refine z_getN C (host := "GnatPortraits") hinX1 4 cc_4 rfl 10 (by decide) (by decide +kernel) cg_4_10 dX5_press_33 ?_
  refine z_iload_n C dX5_press_36 rfl (show zlk _ 1 = some (.int (nI v)) from rfl) ?_
  refine z_iald C (f := (r 9)) 20 ca_20 v rfl (by omega) (by decide) dX5_press_37 ?_
  refine z_istore_n C [(3, .int ((r 9) v)), (0, .ref (ad 0)), (1, .int (nI v)), (2, .int (nI w))] dX5_press_38 rfl (by decide) rfl ?_
  refine z_aload_n C dX5_press_39 rfl (show zlk _ 0 = some (.ref (ad 0)) from rfl) ?_
  refine z_get C hinX5 0 cc_0 rfl 2 (by decide) (by decide +kernel) cg_0_2 dX5_press_40 ?_
  refine z_getN C (host := "GnatPortraits") hinX1 4 cc_4 rfl 10 (by decide) (by decide +kernel) cg_4_10 dX5_press_43 ?_
  refine z_iload_n C dX5_press_46 rfl (show zlk _ 1 = some (.int (nI v)) from rfl) ?_
  refine z_aload_n C dX5_press_47 rfl (show zlk _ 0 = some (.ref (ad 0)) from rfl) ?_
  refine z_iload_n C dX5_press_48 rfl (show zlk _ 2 = some (.int (nI w)) from rfl) ?_
  refine z_callVi C (As := [.int (nI w)]) (rest := [.int (nI v), .ref (ad 20)]) (c_X5_drawnAt l θ ea ad (cnv (n 0) (n 1) (n 2) (n 3) (n 4) (n 5) (n 6) (n 7) (n 8) (n 9) (n 10) (n 11) (n 12) (n 13) (n 14) (n 15) (min (n 16 + 1) 16) ((n 17 + 1) % 16) (n 18) (n 19) (n 20)) g b r (va_up V (2 + n 17) ((g 3, g 4, g 5, b 2, g 6, n 13, n 14, n 15), (va_cpy (r 7) (V (2 + n 17)).2.1 0 0 5, va_cpy (r 8) (V (2 + n 17)).2.2.1 0 0 5, va_cpy (r 9) (V (2 + n 17)).2.2.2.1 0 0 4, va_cpy (r 10) (V (2 + n 17)).2.2.2.2.1 0 0 20, va_cpy (r 11) (V (2 + n 17)).2.2.2.2.2.1 0 0 20, va_cpy (r 12) (V (2 + n 17)).2.2.2.2.2.2 0 0 20))) w (show w < 5 by omega) hS h9) gX5_press_X5_drawnAt rfl 1 (by decide +kernel) (by decide) (by decide) 0 rfl rfl rfl rfl rfl (Nat.le_of_ble_eq_true rfl) dX5_press_49 ?_
  rintro _ _ ⟨rfl, rfl⟩
  refine z_top (v' := .int (k_dAt (cnv (n 0) (n 1) (n 2) (n 3) (n 4) (n 5) (n 6) (n 7) (n 8) (n 9) (n 10) (n 11) (n 12) (n 13) (n 14) (n 15) (min (n 16 + 1) 16) ((n 17 + 1) % 16) (n 18) (n 19) (n 20)) g b r w)) rfl ?_
  refine z_iast C (f := (r 9)) 20 ca_20 v rfl (by omega) (by decide) _ cs_20 dX5_press_52 ?_
  refine z_iload_n C dX5_press_53 rfl (show zlk _ 3 = some (.int ((r 9) v)) from rfl) ?_
  exact E _ _ _ _ (⟨rfl, (cw_eq rfl rfl rfl rfl rfl rfl rfl rfl rfl rfl rfl rfl rfl rfl rfl rfl rfl rfl rfl rfl rfl rfl rfl rfl rfl rfl rfl rfl rfl rfl rfl rfl rfl rfl rfl rfl rfl rfl rfl rfl rfl rfl rfl rfl rfl rfl rfl rfl rfl rfl rfl)⟩) (rfl) dX5_press_54

set_option maxHeartbeats 4000000 in
set_option maxRecDepth 100000 in
theorem c_X5_stand_1 (l : Launch) (θ : zH) (ea : Nat → Nat → Nat) (ad : Nat → Nat) (n : Nat → Nat) (g : Nat → Int32) (b : Nat → Bool) (r : Nat → Nat → Int32) (V : Nat → Ev) (s w : Int32) (hS : n 10 ≤ 6) (hj : okN s (n 10) = false) : cI l yX5_stand wsX5_stand 3 θ [.ref (ad 0), .int s, .int w] (CW θ ea ad n g b r V) (fun r0 Y => r0 = (-1000000001) ∧ Y = CW θ ea ad n g b r V) := by
  refine z_cI (by decide) rfl rfl (Nat.le_of_ble_eq_true rfl) (lv := [(0, .ref (ad 0)), (1, .int s), (2, .int w)]) rfl (fun κ C E => ?_)
  refine z_aload_n C dX5_stand_0 rfl (show zlk _ 0 = some (.ref (ad 0)) from rfl) ?_
  refine z_iload_n C dX5_stand_1 rfl (show zlk _ 1 = some (.int s) from rfl) ?_
  refine z_callVi C (As := [.int s]) (rest := []) (c_X5_isSitter l θ ea ad n g b r V s (by omega)) gX5_stand_X5_isSitter rfl 1 (by decide +kernel) (by decide) (by decide) 0 rfl rfl rfl rfl rfl (Nat.le_of_ble_eq_true rfl) dX5_stand_2 ?_
  rintro _ _ ⟨rfl, rfl⟩
  refine z_if_eqB C 16 dX5_stand_5 (by decide) (fun _ => ?_) (fun h => absurd h (by rw [hj]; decide))
  refine z_ldc C (v := (-1000000001)) (by decide +kernel) dX5_stand_16 ?_
  exact E _ _ _ _ (⟨rfl, rfl⟩) (rfl) dX5_stand_18

set_option maxHeartbeats 4000000 in
set_option maxRecDepth 100000 in
theorem c_X5_stand_2 (l : Launch) (θ : zH) (ea : Nat → Nat → Nat) (ad : Nat → Nat) (n : Nat → Nat) (g : Nat → Int32) (b : Nat → Bool) (r : Nat → Nat → Int32) (V : Nat → Ev) (s w : Int32) (hS : n 10 ≤ 6) (hW : n 11 ≤ 5) (hj : okN s (n 10) = true) (hw : okN w (n 11) = false) : cI l yX5_stand wsX5_stand 3 θ [.ref (ad 0), .int s, .int w] (CW θ ea ad n g b r V) (fun r0 Y => r0 = (-1000000001) ∧ Y = CW θ ea ad n g b r V) := by
  refine z_cI (by decide) rfl rfl (Nat.le_of_ble_eq_true rfl) (lv := [(0, .ref (ad 0)), (1, .int s), (2, .int w)]) rfl (fun κ C E => ?_)
  refine z_aload_n C dX5_stand_0 rfl (show zlk _ 0 = some (.ref (ad 0)) from rfl) ?_
  refine z_iload_n C dX5_stand_1 rfl (show zlk _ 1 = some (.int s) from rfl) ?_
  refine z_callVi C (As := [.int s]) (rest := []) (c_X5_isSitter l θ ea ad n g b r V s (by omega)) gX5_stand_X5_isSitter rfl 1 (by decide +kernel) (by decide) (by decide) 0 rfl rfl rfl rfl rfl (Nat.le_of_ble_eq_true rfl) dX5_stand_2 ?_
  rintro _ _ ⟨rfl, rfl⟩
  refine z_if_eqB C 16 dX5_stand_5 (by decide) (fun h => absurd h (by rw [hj]; decide)) (fun _ => ?_)
  refine z_aload_n C dX5_stand_8 rfl (show zlk _ 0 = some (.ref (ad 0)) from rfl) ?_
  refine z_iload_n C dX5_stand_9 rfl (show zlk _ 2 = some (.int w) from rfl) ?_
  refine z_callVi C (As := [.int w]) (rest := []) (c_X5_isWindow l θ ea ad n g b r V w (by omega)) gX5_stand_X5_isWindow rfl 1 (by decide +kernel) (by decide) (by decide) 0 rfl rfl rfl rfl rfl (Nat.le_of_ble_eq_true rfl) dX5_stand_10 ?_
  rintro _ _ ⟨rfl, rfl⟩
  refine z_if_neB C 19 dX5_stand_13 (by decide) (fun h => absurd h (by rw [hw]; decide)) (fun _ => ?_)
  refine z_ldc C (v := (-1000000001)) (by decide +kernel) dX5_stand_16 ?_
  exact E _ _ _ _ (⟨rfl, rfl⟩) (rfl) dX5_stand_18

set_option maxHeartbeats 4000000 in
set_option maxRecDepth 100000 in
theorem c_X5_stand_3 (l : Launch) (θ : zH) (ea : Nat → Nat → Nat) (ad : Nat → Nat) (n : Nat → Nat) (g : Nat → Int32) (b : Nat → Bool) (r : Nat → Nat → Int32) (V : Nat → Ev) (j w : Nat) (hS : n 10 ≤ 6) (hW : n 11 ≤ 5) (hj : j < n 10) (hw : w < n 11) (hx : ¬ r 8 w = (-1)) : cI l yX5_stand wsX5_stand 3 θ [.ref (ad 0), .int (nI j), .int (nI w)] (CW θ ea ad n g b r V) (fun r0 Y => r0 = (-1000000003) ∧ Y = CW θ ea ad n g b r V) := by
  refine z_cI (by decide) rfl rfl (Nat.le_of_ble_eq_true rfl) (lv := [(0, .ref (ad 0)), (1, .int (nI j)), (2, .int (nI w))]) rfl (fun κ C E => ?_)
  have hinX1 : ∀ w ∈ wsX10, w ∈ wsX5_stand := by decide +kernel
  have hinX5 : ∀ w ∈ wsX50, w ∈ wsX5_stand := by decide +kernel
  refine z_aload_n C dX5_stand_0 rfl (show zlk _ 0 = some (.ref (ad 0)) from rfl) ?_
  refine z_iload_n C dX5_stand_1 rfl (show zlk _ 1 = some (.int (nI j)) from rfl) ?_
  refine z_callVi C (As := [.int (nI j)]) (rest := []) (c_X5_isSitter l θ ea ad n g b r V (nI j) (by omega)) gX5_stand_X5_isSitter rfl 1 (by decide +kernel) (by decide) (by decide) 0 rfl rfl rfl rfl rfl (Nat.le_of_ble_eq_true rfl) dX5_stand_2 ?_
  rintro _ _ ⟨rfl, rfl⟩
  refine z_if_eqB C 16 dX5_stand_5 (by decide) (fun h => absurd h (by rw [okN_lt hj (by omega)]; decide)) (fun _ => ?_)
  refine z_aload_n C dX5_stand_8 rfl (show zlk _ 0 = some (.ref (ad 0)) from rfl) ?_
  refine z_iload_n C dX5_stand_9 rfl (show zlk _ 2 = some (.int (nI w)) from rfl) ?_
  refine z_callVi C (As := [.int (nI w)]) (rest := []) (c_X5_isWindow l θ ea ad n g b r V (nI w) (by omega)) gX5_stand_X5_isWindow rfl 1 (by decide +kernel) (by decide) (by decide) 0 rfl rfl rfl rfl rfl (Nat.le_of_ble_eq_true rfl) dX5_stand_10 ?_
  rintro _ _ ⟨rfl, rfl⟩
  refine z_if_neB C 19 dX5_stand_13 (by decide) (fun _ => ?_) (fun h => absurd h (by rw [okN_lt hw (by omega)]; decide))
  refine z_aload_n C dX5_stand_19 rfl (show zlk _ 0 = some (.ref (ad 0)) from rfl) ?_
  refine z_get C hinX5 0 cc_0 rfl 2 (by decide) (by decide +kernel) cg_0_2 dX5_stand_20 ?_
  refine z_getN C (host := "GnatPortraits") hinX1 4 cc_4 rfl 9 (by decide) (by decide +kernel) cg_4_9 dX5_stand_23 ?_
  refine z_iload_n C dX5_stand_26 rfl (show zlk _ 2 = some (.int (nI w)) from rfl) ?_
  refine z_iald C (f := (r 8)) 19 ca_19 w rfl (by omega) (by decide) dX5_stand_27 ?_
  refine z_iconst C (v := (-1)) dX5_stand_28 (by decide) ?_
  refine z_icmp_eq C 35 dX5_stand_29 (by decide) (fun h29n_1 => absurd h29n_1 (hx)) (fun h29n_1 => ?_)
  refine z_ldc C (v := (-1000000003)) (by decide +kernel) dX5_stand_32 ?_
  exact E _ _ _ _ (⟨rfl, rfl⟩) (rfl) dX5_stand_34

set_option maxHeartbeats 4000000 in
set_option maxRecDepth 100000 in
theorem c_X5_stand_4 (l : Launch) (θ : zH) (ea : Nat → Nat → Nat) (ad : Nat → Nat) (n : Nat → Nat) (g : Nat → Int32) (b : Nat → Bool) (r : Nat → Nat → Int32) (V : Nat → Ev) (j w : Nat) (hS : n 10 ≤ 6) (hW : n 11 ≤ 5) (hj : j < n 10) (hw : w < n 11) (hx : r 8 w = (-1)) (h17 : n 17 < 16) (h16 : n 16 ≤ 16) : cI l yX5_stand wsX5_stand 3 θ [.ref (ad 0), .int (nI j), .int (nI w)] (CW θ ea ad n g b r V) (fun r0 Y => r0 = k_wo (r 8) (nI j) ∧ Y = CW θ ea ad (cnv (n 0) (n 1) (n 2) (n 3) (n 4) (n 5) (n 6) (n 7) (n 8) (n 9) (n 10) (n 11) (n 12) (n 13) (n 14) (n 15) (min (n 16 + 1) 16) ((n 17 + 1) % 16) (n 18) (n 19) (n 20)) g b (crv (r 0) (r 1) (r 2) (r 3) (r 4) (r 5) (r 6) (r 7) (upd (k_mv (r 8) (nI j) 5) w (nI j)) (r 9) (r 10) (r 11) (r 12) (r 13) (r 14) (r 15) (r 16) (r 17) (r 18)) (va_up V (2 + n 17) ((g 3, g 4, g 5, b 2, g 6, n 13, n 14, n 15), (va_cpy (r 7) (V (2 + n 17)).2.1 0 0 5, va_cpy (r 8) (V (2 + n 17)).2.2.1 0 0 5, va_cpy (r 9) (V (2 + n 17)).2.2.2.1 0 0 4, va_cpy (r 10) (V (2 + n 17)).2.2.2.2.1 0 0 20, va_cpy (r 11) (V (2 + n 17)).2.2.2.2.2.1 0 0 20, va_cpy (r 12) (V (2 + n 17)).2.2.2.2.2.2 0 0 20)))) := by
  refine z_cI (by decide) rfl rfl (Nat.le_of_ble_eq_true rfl) (lv := [(0, .ref (ad 0)), (1, .int (nI j)), (2, .int (nI w))]) rfl (fun κ C E => ?_)
  have hinX1 : ∀ w ∈ wsX10, w ∈ wsX5_stand := by decide +kernel
  have hinX5 : ∀ w ∈ wsX50, w ∈ wsX5_stand := by decide +kernel
  refine z_aload_n C dX5_stand_0 rfl (show zlk _ 0 = some (.ref (ad 0)) from rfl) ?_
  refine z_iload_n C dX5_stand_1 rfl (show zlk _ 1 = some (.int (nI j)) from rfl) ?_
  refine z_callVi C (As := [.int (nI j)]) (rest := []) (c_X5_isSitter l θ ea ad n g b r V (nI j) (by omega)) gX5_stand_X5_isSitter rfl 1 (by decide +kernel) (by decide) (by decide) 0 rfl rfl rfl rfl rfl (Nat.le_of_ble_eq_true rfl) dX5_stand_2 ?_
  rintro _ _ ⟨rfl, rfl⟩
  refine z_if_eqB C 16 dX5_stand_5 (by decide) (fun h => absurd h (by rw [okN_lt hj (by omega)]; decide)) (fun _ => ?_)
  refine z_aload_n C dX5_stand_8 rfl (show zlk _ 0 = some (.ref (ad 0)) from rfl) ?_
  refine z_iload_n C dX5_stand_9 rfl (show zlk _ 2 = some (.int (nI w)) from rfl) ?_
  refine z_callVi C (As := [.int (nI w)]) (rest := []) (c_X5_isWindow l θ ea ad n g b r V (nI w) (by omega)) gX5_stand_X5_isWindow rfl 1 (by decide +kernel) (by decide) (by decide) 0 rfl rfl rfl rfl rfl (Nat.le_of_ble_eq_true rfl) dX5_stand_10 ?_
  rintro _ _ ⟨rfl, rfl⟩
  refine z_if_neB C 19 dX5_stand_13 (by decide) (fun _ => ?_) (fun h => absurd h (by rw [okN_lt hw (by omega)]; decide))
  refine z_aload_n C dX5_stand_19 rfl (show zlk _ 0 = some (.ref (ad 0)) from rfl) ?_
  refine z_get C hinX5 0 cc_0 rfl 2 (by decide) (by decide +kernel) cg_0_2 dX5_stand_20 ?_
  refine z_getN C (host := "GnatPortraits") hinX1 4 cc_4 rfl 9 (by decide) (by decide +kernel) cg_4_9 dX5_stand_23 ?_
  refine z_iload_n C dX5_stand_26 rfl (show zlk _ 2 = some (.int (nI w)) from rfl) ?_
  refine z_iald C (f := (r 8)) 19 ca_19 w rfl (by omega) (by decide) dX5_stand_27 ?_
  refine z_iconst C (v := (-1)) dX5_stand_28 (by decide) ?_
  refine z_icmp_eq C 35 dX5_stand_29 (by decide) (fun h29t_1 => ?_) (fun h29t_1 => absurd h29t_1 (fun z => z hx))
  refine z_aload_n C dX5_stand_35 rfl (show zlk _ 0 = some (.ref (ad 0)) from rfl) ?_
  refine z_get C hinX5 0 cc_0 rfl 3 (by decide) (by decide +kernel) cg_0_3 dX5_stand_36 ?_
  refine z_aload_n C dX5_stand_39 rfl (show zlk _ 0 = some (.ref (ad 0)) from rfl) ?_
  refine z_get C hinX5 0 cc_0 rfl 2 (by decide) (by decide +kernel) cg_0_2 dX5_stand_40 ?_
  refine z_callNv C (As := [.ref (ad 4)]) (rest := []) (host := "GnatPortraits") (c_X2_remember l θ ea ad n g b r V h17 h16) gX5_stand_X2_remember_n192 rfl 1 (by decide +kernel) (by decide +kernel) (by decide +kernel) (by decide +kernel) (by decide +kernel) (by decide) (by decide) 5 rfl rfl rfl rfl rfl (Nat.le_of_ble_eq_true rfl) dX5_stand_43 ?_
  rintro _ rfl
  refine z_X (Y := CW θ ea ad (cnv (n 0) (n 1) (n 2) (n 3) (n 4) (n 5) (n 6) (n 7) (n 8) (n 9) (n 10) (n 11) (n 12) (n 13) (n 14) (n 15) (min (n 16 + 1) 16) ((n 17 + 1) % 16) (n 18) (n 19) (n 20)) g b r (va_up V (2 + n 17) ((g 3, g 4, g 5, b 2, g 6, n 13, n 14, n 15), (va_cpy (r 7) (V (2 + n 17)).2.1 0 0 5, va_cpy (r 8) (V (2 + n 17)).2.2.1 0 0 5, va_cpy (r 9) (V (2 + n 17)).2.2.2.1 0 0 4, va_cpy (r 10) (V (2 + n 17)).2.2.2.2.1 0 0 20, va_cpy (r 11) (V (2 + n 17)).2.2.2.2.2.1 0 0 20, va_cpy (r 12) (V (2 + n 17)).2.2.2.2.2.2 0 0 20)))) (cw_eq rfl rfl rfl rfl rfl rfl rfl rfl rfl rfl rfl rfl rfl rfl rfl rfl rfl rfl rfl rfl rfl rfl rfl rfl rfl rfl rfl rfl rfl rfl rfl rfl rfl rfl rfl rfl rfl rfl rfl rfl rfl rfl rfl rfl rfl rfl rfl rfl rfl rfl rfl) ?_
  refine z_aload_n C dX5_stand_46 rfl (show zlk _ 0 = some (.ref (ad 0)) from rfl) ?_
  refine z_get C hinX5 0 cc_0 rfl 2 (by decide) (by decide +kernel) cg_0_2 dX5_stand_47 ?_
  refine z_iload_n C dX5_stand_50 rfl (show zlk _ 1 = some (.int (nI j)) from rfl) ?_
  refine z_callNi C (As := [.int (nI j)]) (rest := []) (host := "GnatPortraits") (c_X1_windowOf l θ ea ad (cnv (n 0) (n 1) (n 2) (n 3) (n 4) (n 5) (n 6) (n 7) (n 8) (n 9) (n 10) (n 11) (n 12) (n 13) (n 14) (n 15) (min (n 16 + 1) 16) ((n 17 + 1) % 16) (n 18) (n 19) (n 20)) g b r (va_up V (2 + n 17) ((g 3, g 4, g 5, b 2, g 6, n 13, n 14, n 15), (va_cpy (r 7) (V (2 + n 17)).2.1 0 0 5, va_cpy (r 8) (V (2 + n 17)).2.2.1 0 0 5, va_cpy (r 9) (V (2 + n 17)).2.2.2.1 0 0 4, va_cpy (r 10) (V (2 + n 17)).2.2.2.2.1 0 0 20, va_cpy (r 11) (V (2 + n 17)).2.2.2.2.2.1 0 0 20, va_cpy (r 12) (V (2 + n 17)).2.2.2.2.2.2 0 0 20))) (nI j)) gX5_stand_X1_windowOf_n149 rfl 1 (by decide +kernel) (by decide +kernel) (by decide +kernel) (by decide +kernel) (by decide +kernel) (by decide) (by decide) 4 rfl rfl rfl rfl rfl (Nat.le_of_ble_eq_true rfl) dX5_stand_51 ?_
  rintro _ _ ⟨rfl, rfl⟩
  refine z_top (v' := .int (k_wo (r 8) (nI j))) rfl ?_
  refine z_istore_n C [(3, .int (k_wo (r 8) (nI j))), (0, .ref (ad 0)), (1, .int (nI j)), (2, .int (nI w))] dX5_stand_54 rfl (by decide) rfl ?_
  refine z_aload_n C dX5_stand_55 rfl (show zlk _ 0 = some (.ref (ad 0)) from rfl) ?_
  refine z_get C hinX5 0 cc_0 rfl 2 (by decide) (by decide +kernel) cg_0_2 dX5_stand_56 ?_
  refine z_iload_n C dX5_stand_59 rfl (show zlk _ 1 = some (.int (nI j)) from rfl) ?_
  refine z_iload_n C dX5_stand_60 rfl (show zlk _ 2 = some (.int (nI w)) from rfl) ?_
  refine z_callNv C (As := [.int (nI j), .int (nI w)]) (rest := []) (host := "GnatPortraits") (c_X1_moveTo l θ ea ad (cnv (n 0) (n 1) (n 2) (n 3) (n 4) (n 5) (n 6) (n 7) (n 8) (n 9) (n 10) (n 11) (n 12) (n 13) (n 14) (n 15) (min (n 16 + 1) 16) ((n 17 + 1) % 16) (n 18) (n 19) (n 20)) g b r (va_up V (2 + n 17) ((g 3, g 4, g 5, b 2, g 6, n 13, n 14, n 15), (va_cpy (r 7) (V (2 + n 17)).2.1 0 0 5, va_cpy (r 8) (V (2 + n 17)).2.2.1 0 0 5, va_cpy (r 9) (V (2 + n 17)).2.2.2.1 0 0 4, va_cpy (r 10) (V (2 + n 17)).2.2.2.2.1 0 0 20, va_cpy (r 11) (V (2 + n 17)).2.2.2.2.2.1 0 0 20, va_cpy (r 12) (V (2 + n 17)).2.2.2.2.2.2 0 0 20))) (nI j) w (by omega)) gX5_stand_X1_moveTo_n196 rfl 2 (by decide +kernel) (by decide +kernel) (by decide +kernel) (by decide +kernel) (by decide +kernel) (by decide) (by decide) 4 rfl rfl rfl rfl rfl (Nat.le_of_ble_eq_true rfl) dX5_stand_61 ?_
  rintro _ rfl
  refine z_X (Y := CW θ ea ad (cnv (n 0) (n 1) (n 2) (n 3) (n 4) (n 5) (n 6) (n 7) (n 8) (n 9) (n 10) (n 11) (n 12) (n 13) (n 14) (n 15) (min (n 16 + 1) 16) ((n 17 + 1) % 16) (n 18) (n 19) (n 20)) g b (crv (r 0) (r 1) (r 2) (r 3) (r 4) (r 5) (r 6) (r 7) (upd (k_mv (r 8) (nI j) 5) w (nI j)) (r 9) (r 10) (r 11) (r 12) (r 13) (r 14) (r 15) (r 16) (r 17) (r 18)) (va_up V (2 + n 17) ((g 3, g 4, g 5, b 2, g 6, n 13, n 14, n 15), (va_cpy (r 7) (V (2 + n 17)).2.1 0 0 5, va_cpy (r 8) (V (2 + n 17)).2.2.1 0 0 5, va_cpy (r 9) (V (2 + n 17)).2.2.2.1 0 0 4, va_cpy (r 10) (V (2 + n 17)).2.2.2.2.1 0 0 20, va_cpy (r 11) (V (2 + n 17)).2.2.2.2.2.1 0 0 20, va_cpy (r 12) (V (2 + n 17)).2.2.2.2.2.2 0 0 20)))) (cw_eq rfl rfl rfl rfl rfl rfl rfl rfl rfl rfl rfl rfl rfl rfl rfl rfl rfl rfl rfl rfl rfl rfl rfl rfl rfl rfl rfl rfl rfl rfl rfl rfl rfl rfl rfl rfl rfl rfl rfl rfl rfl rfl rfl rfl rfl rfl rfl rfl rfl rfl rfl) ?_
  refine z_iload_n C dX5_stand_64 rfl (show zlk _ 3 = some (.int (k_wo (r 8) (nI j))) from rfl) ?_
  exact E _ _ _ _ (⟨rfl, (cw_eq rfl rfl rfl rfl rfl rfl rfl rfl rfl rfl rfl rfl rfl rfl rfl rfl rfl rfl rfl rfl rfl rfl rfl rfl rfl rfl rfl rfl rfl rfl rfl rfl rfl rfl rfl rfl rfl rfl rfl rfl rfl rfl rfl rfl rfl rfl rfl rfl rfl rfl rfl)⟩) (rfl) dX5_stand_65

set_option maxHeartbeats 4000000 in
set_option maxRecDepth 100000 in
theorem c_X5_go_1 (l : Launch) (θ : zH) (ea : Nat → Nat → Nat) (ad : Nat → Nat) (n : Nat → Nat) (g : Nat → Int32) (b : Nat → Bool) (r : Nat → Nat → Int32) (V : Nat → Ev) (s : Int32) (hS : n 10 ≤ 6) (hj : okN s (n 10) = false) : cI l yX5_go wsX5_go 3 θ [.ref (ad 0), .int s] (CW θ ea ad n g b r V) (fun r0 Y => r0 = (-1000000001) ∧ Y = CW θ ea ad n g b r V) := by
  refine z_cI (by decide) rfl rfl (Nat.le_of_ble_eq_true rfl) (lv := [(0, .ref (ad 0)), (1, .int s)]) rfl (fun κ C E => ?_)
  refine z_aload_n C dX5_go_0 rfl (show zlk _ 0 = some (.ref (ad 0)) from rfl) ?_
  refine z_iload_n C dX5_go_1 rfl (show zlk _ 1 = some (.int s) from rfl) ?_
  refine z_callVi C (As := [.int s]) (rest := []) (c_X5_isSitter l θ ea ad n g b r V s (by omega)) gX5_go_X5_isSitter rfl 1 (by decide +kernel) (by decide) (by decide) 0 rfl rfl rfl rfl rfl (Nat.le_of_ble_eq_true rfl) dX5_go_2 ?_
  rintro _ _ ⟨rfl, rfl⟩
  refine z_if_neB C 11 dX5_go_5 (by decide) (fun h => absurd h (by rw [hj]; decide)) (fun _ => ?_)
  refine z_ldc C (v := (-1000000001)) (by decide +kernel) dX5_go_8 ?_
  exact E _ _ _ _ (⟨rfl, rfl⟩) (rfl) dX5_go_10

set_option maxHeartbeats 4000000 in
set_option maxRecDepth 100000 in
theorem c_X5_go_2 (l : Launch) (θ : zH) (ea : Nat → Nat → Nat) (ad : Nat → Nat) (n : Nat → Nat) (g : Nat → Int32) (b : Nat → Bool) (r : Nat → Nat → Int32) (V : Nat → Ev) (j : Nat) (hS : n 10 ≤ 6) (hW : n 11 ≤ 5) (hj : j < n 10) (hx : okN (k_wo (r 8) (nI j)) (n 11) = false) : cI l yX5_go wsX5_go 3 θ [.ref (ad 0), .int (nI j)] (CW θ ea ad n g b r V) (fun r0 Y => r0 = (-1000000003) ∧ Y = CW θ ea ad n g b r V) := by
  refine z_cI (by decide) rfl rfl (Nat.le_of_ble_eq_true rfl) (lv := [(0, .ref (ad 0)), (1, .int (nI j))]) rfl (fun κ C E => ?_)
  have hinX5 : ∀ w ∈ wsX50, w ∈ wsX5_go := by decide +kernel
  refine z_aload_n C dX5_go_0 rfl (show zlk _ 0 = some (.ref (ad 0)) from rfl) ?_
  refine z_iload_n C dX5_go_1 rfl (show zlk _ 1 = some (.int (nI j)) from rfl) ?_
  refine z_callVi C (As := [.int (nI j)]) (rest := []) (c_X5_isSitter l θ ea ad n g b r V (nI j) (by omega)) gX5_go_X5_isSitter rfl 1 (by decide +kernel) (by decide) (by decide) 0 rfl rfl rfl rfl rfl (Nat.le_of_ble_eq_true rfl) dX5_go_2 ?_
  rintro _ _ ⟨rfl, rfl⟩
  refine z_if_neB C 11 dX5_go_5 (by decide) (fun _ => ?_) (fun h => absurd h (by rw [okN_lt hj (by omega)]; decide))
  refine z_aload_n C dX5_go_11 rfl (show zlk _ 0 = some (.ref (ad 0)) from rfl) ?_
  refine z_get C hinX5 0 cc_0 rfl 2 (by decide) (by decide +kernel) cg_0_2 dX5_go_12 ?_
  refine z_iload_n C dX5_go_15 rfl (show zlk _ 1 = some (.int (nI j)) from rfl) ?_
  refine z_callNi C (As := [.int (nI j)]) (rest := []) (host := "GnatPortraits") (c_X1_windowOf l θ ea ad n g b r V (nI j)) gX5_go_X1_windowOf_n149 rfl 1 (by decide +kernel) (by decide +kernel) (by decide +kernel) (by decide +kernel) (by decide +kernel) (by decide) (by decide) 4 rfl rfl rfl rfl rfl (Nat.le_of_ble_eq_true rfl) dX5_go_16 ?_
  rintro _ _ ⟨rfl, rfl⟩
  refine z_istore_n C [(2, .int (k_wo (r 8) (nI j))), (0, .ref (ad 0)), (1, .int (nI j))] dX5_go_19 rfl (by decide) rfl ?_
  refine z_aload_n C dX5_go_20 rfl (show zlk _ 0 = some (.ref (ad 0)) from rfl) ?_
  refine z_iload_n C dX5_go_21 rfl (show zlk _ 2 = some (.int (k_wo (r 8) (nI j))) from rfl) ?_
  refine z_callVi C (As := [.int (k_wo (r 8) (nI j))]) (rest := []) (c_X5_isWindow l θ ea ad n g b r V (k_wo (r 8) (nI j)) (by omega)) gX5_go_X5_isWindow rfl 1 (by decide +kernel) (by decide) (by decide) 0 rfl rfl rfl rfl rfl (Nat.le_of_ble_eq_true rfl) dX5_go_22 ?_
  rintro _ _ ⟨rfl, rfl⟩
  refine z_if_neB C 31 dX5_go_25 (by decide) (fun h => absurd h (by rw [hx]; decide)) (fun _ => ?_)
  refine z_ldc C (v := (-1000000003)) (by decide +kernel) dX5_go_28 ?_
  exact E _ _ _ _ (⟨rfl, rfl⟩) (rfl) dX5_go_30

set_option maxHeartbeats 4000000 in
set_option maxRecDepth 100000 in
theorem c_X5_go_3 (l : Launch) (θ : zH) (ea : Nat → Nat → Nat) (ad : Nat → Nat) (n : Nat → Nat) (g : Nat → Int32) (b : Nat → Bool) (r : Nat → Nat → Int32) (V : Nat → Ev) (j q : Nat) (hS : n 10 ≤ 6) (hW : n 11 ≤ 5) (hj : j < n 10) (hx : k_wo (r 8) (nI j) = nI q) (hq : q < n 11) (h17 : n 17 < 16) (h16 : n 16 ≤ 16) : cI l yX5_go wsX5_go 3 θ [.ref (ad 0), .int (nI j)] (CW θ ea ad n g b r V) (fun r0 Y => r0 = nI q ∧ Y = CW θ ea ad (cnv (n 0) (n 1) (n 2) (n 3) (n 4) (n 5) (n 6) (n 7) (n 8) (n 9) (n 10) (n 11) (n 12) (n 13) (n 14) (n 15) (min (n 16 + 1) 16) ((n 17 + 1) % 16) (n 18) (n 19) (n 20)) g b (crv (r 0) (r 1) (r 2) (r 3) (r 4) (r 5) (r 6) (r 7) (upd (r 8) q (-1)) (r 9) (r 10) (r 11) (r 12) (r 13) (r 14) (r 15) (r 16) (r 17) (r 18)) (va_up V (2 + n 17) ((g 3, g 4, g 5, b 2, g 6, n 13, n 14, n 15), (va_cpy (r 7) (V (2 + n 17)).2.1 0 0 5, va_cpy (r 8) (V (2 + n 17)).2.2.1 0 0 5, va_cpy (r 9) (V (2 + n 17)).2.2.2.1 0 0 4, va_cpy (r 10) (V (2 + n 17)).2.2.2.2.1 0 0 20, va_cpy (r 11) (V (2 + n 17)).2.2.2.2.2.1 0 0 20, va_cpy (r 12) (V (2 + n 17)).2.2.2.2.2.2 0 0 20)))) := by
  refine z_cI (by decide) rfl rfl (Nat.le_of_ble_eq_true rfl) (lv := [(0, .ref (ad 0)), (1, .int (nI j))]) rfl (fun κ C E => ?_)
  have hinX1 : ∀ w ∈ wsX10, w ∈ wsX5_go := by decide +kernel
  have hinX5 : ∀ w ∈ wsX50, w ∈ wsX5_go := by decide +kernel
  refine z_aload_n C dX5_go_0 rfl (show zlk _ 0 = some (.ref (ad 0)) from rfl) ?_
  refine z_iload_n C dX5_go_1 rfl (show zlk _ 1 = some (.int (nI j)) from rfl) ?_
  refine z_callVi C (As := [.int (nI j)]) (rest := []) (c_X5_isSitter l θ ea ad n g b r V (nI j) (by omega)) gX5_go_X5_isSitter rfl 1 (by decide +kernel) (by decide) (by decide) 0 rfl rfl rfl rfl rfl (Nat.le_of_ble_eq_true rfl) dX5_go_2 ?_
  rintro _ _ ⟨rfl, rfl⟩
  refine z_if_neB C 11 dX5_go_5 (by decide) (fun _ => ?_) (fun h => absurd h (by rw [okN_lt hj (by omega)]; decide))
  refine z_aload_n C dX5_go_11 rfl (show zlk _ 0 = some (.ref (ad 0)) from rfl) ?_
  refine z_get C hinX5 0 cc_0 rfl 2 (by decide) (by decide +kernel) cg_0_2 dX5_go_12 ?_
  refine z_iload_n C dX5_go_15 rfl (show zlk _ 1 = some (.int (nI j)) from rfl) ?_
  refine z_callNi C (As := [.int (nI j)]) (rest := []) (host := "GnatPortraits") (c_X1_windowOf l θ ea ad n g b r V (nI j)) gX5_go_X1_windowOf_n149 rfl 1 (by decide +kernel) (by decide +kernel) (by decide +kernel) (by decide +kernel) (by decide +kernel) (by decide) (by decide) 4 rfl rfl rfl rfl rfl (Nat.le_of_ble_eq_true rfl) dX5_go_16 ?_
  rintro _ _ ⟨rfl, rfl⟩
  refine z_istore_n C [(2, .int (k_wo (r 8) (nI j))), (0, .ref (ad 0)), (1, .int (nI j))] dX5_go_19 rfl (by decide) rfl ?_
  refine z_aload_n C dX5_go_20 rfl (show zlk _ 0 = some (.ref (ad 0)) from rfl) ?_
  refine z_iload_n C dX5_go_21 rfl (show zlk _ 2 = some (.int (k_wo (r 8) (nI j))) from rfl) ?_
  refine z_callVi C (As := [.int (k_wo (r 8) (nI j))]) (rest := []) (c_X5_isWindow l θ ea ad n g b r V (k_wo (r 8) (nI j)) (by omega)) gX5_go_X5_isWindow rfl 1 (by decide +kernel) (by decide) (by decide) 0 rfl rfl rfl rfl rfl (Nat.le_of_ble_eq_true rfl) dX5_go_22 ?_
  rintro _ _ ⟨rfl, rfl⟩
  refine z_if_neB C 31 dX5_go_25 (by decide) (fun _ => ?_) (fun h => absurd h (by rw [(by rw [hx]; exact okN_lt hq (by omega) : okN (k_wo (r 8) (nI j)) (n 11) = true)]; decide))
  refine z_lv (lv' := [(0, .ref (ad 0)), (1, .int (nI j)), (2, .int (nI q))]) (by rw [← hx]; rfl) ?_
  refine z_aload_n C dX5_go_31 rfl (show zlk _ 0 = some (.ref (ad 0)) from rfl) ?_
  refine z_get C hinX5 0 cc_0 rfl 3 (by decide) (by decide +kernel) cg_0_3 dX5_go_32 ?_
  refine z_aload_n C dX5_go_35 rfl (show zlk _ 0 = some (.ref (ad 0)) from rfl) ?_
  refine z_get C hinX5 0 cc_0 rfl 2 (by decide) (by decide +kernel) cg_0_2 dX5_go_36 ?_
  refine z_callNv C (As := [.ref (ad 4)]) (rest := []) (host := "GnatPortraits") (c_X2_remember l θ ea ad n g b r V h17 h16) gX5_go_X2_remember_n192 rfl 1 (by decide +kernel) (by decide +kernel) (by decide +kernel) (by decide +kernel) (by decide +kernel) (by decide) (by decide) 5 rfl rfl rfl rfl rfl (Nat.le_of_ble_eq_true rfl) dX5_go_39 ?_
  rintro _ rfl
  refine z_X (Y := CW θ ea ad (cnv (n 0) (n 1) (n 2) (n 3) (n 4) (n 5) (n 6) (n 7) (n 8) (n 9) (n 10) (n 11) (n 12) (n 13) (n 14) (n 15) (min (n 16 + 1) 16) ((n 17 + 1) % 16) (n 18) (n 19) (n 20)) g b r (va_up V (2 + n 17) ((g 3, g 4, g 5, b 2, g 6, n 13, n 14, n 15), (va_cpy (r 7) (V (2 + n 17)).2.1 0 0 5, va_cpy (r 8) (V (2 + n 17)).2.2.1 0 0 5, va_cpy (r 9) (V (2 + n 17)).2.2.2.1 0 0 4, va_cpy (r 10) (V (2 + n 17)).2.2.2.2.1 0 0 20, va_cpy (r 11) (V (2 + n 17)).2.2.2.2.2.1 0 0 20, va_cpy (r 12) (V (2 + n 17)).2.2.2.2.2.2 0 0 20)))) (cw_eq rfl rfl rfl rfl rfl rfl rfl rfl rfl rfl rfl rfl rfl rfl rfl rfl rfl rfl rfl rfl rfl rfl rfl rfl rfl rfl rfl rfl rfl rfl rfl rfl rfl rfl rfl rfl rfl rfl rfl rfl rfl rfl rfl rfl rfl rfl rfl rfl rfl rfl rfl) ?_
  refine z_aload_n C dX5_go_42 rfl (show zlk _ 0 = some (.ref (ad 0)) from rfl) ?_
  refine z_get C hinX5 0 cc_0 rfl 2 (by decide) (by decide +kernel) cg_0_2 dX5_go_43 ?_
  refine z_getN C (host := "GnatPortraits") hinX1 4 cc_4 rfl 9 (by decide) (by decide +kernel) cg_4_9 dX5_go_46 ?_
  refine z_iload_n C dX5_go_49 rfl (show zlk _ 2 = some (.int (nI q)) from rfl) ?_
  refine z_iconst C (v := (-1)) dX5_go_50 (by decide) ?_
  refine z_iast C (f := (r 8)) 19 ca_19 q rfl (by omega) (by decide) _ cs_19 dX5_go_51 ?_
  refine z_iload_n C dX5_go_52 rfl (show zlk _ 2 = some (.int (nI q)) from rfl) ?_
  exact E _ _ _ _ (⟨rfl, (cw_eq rfl rfl rfl rfl rfl rfl rfl rfl rfl rfl rfl rfl rfl rfl rfl rfl rfl rfl rfl rfl rfl rfl rfl rfl rfl rfl rfl rfl rfl rfl rfl rfl rfl rfl rfl rfl rfl rfl rfl rfl rfl rfl rfl rfl rfl rfl rfl rfl rfl rfl rfl)⟩) (rfl) dX5_go_53

set_option maxHeartbeats 4000000 in
set_option maxRecDepth 100000 in
theorem c_X5_undo_1 (l : Launch) (θ : zH) (ea : Nat → Nat → Nat) (ad : Nat → Nat) (n : Nat → Nat) (g : Nat → Int32) (b : Nat → Bool) (r : Nat → Nat → Int32) (V : Nat → Ev)  (h16 : n 16 = 0) : cI l yX5_undo wsX5_undo 3 θ [.ref (ad 0)] (CW θ ea ad n g b r V) (fun r0 Y => r0 = (-1000000003) ∧ Y = CW θ ea ad n g b r V) := by
  refine z_cI (by decide) rfl rfl (Nat.le_of_ble_eq_true rfl) (lv := [(0, .ref (ad 0))]) rfl (fun κ C E => ?_)
  have hinX2 : ∀ w ∈ wsX20, w ∈ wsX5_undo := by decide +kernel
  have hinX5 : ∀ w ∈ wsX50, w ∈ wsX5_undo := by decide +kernel
  refine z_aload_n C dX5_undo_0 rfl (show zlk _ 0 = some (.ref (ad 0)) from rfl) ?_
  refine z_get C hinX5 0 cc_0 rfl 3 (by decide) (by decide +kernel) cg_0_3 dX5_undo_1 ?_
  refine z_getN C (host := "GnatPortraits") hinX2 5 cc_5 rfl 1 (by decide) (by decide +kernel) cg_5_1 dX5_undo_4 ?_
  refine z_iconst C (v := nI 1) dX5_undo_7 (by decide) ?_
  refine z_icmp_geF C 14 dX5_undo_8 (by decide) (by omega) (by omega) (by omega) ?_
  refine z_ldc C (v := (-1000000003)) (by decide +kernel) dX5_undo_11 ?_
  exact E _ _ _ _ (⟨rfl, rfl⟩) (rfl) dX5_undo_13

set_option maxHeartbeats 4000000 in
set_option maxRecDepth 100000 in
theorem c_X5_undo_2 (l : Launch) (θ : zH) (ea : Nat → Nat → Nat) (ad : Nat → Nat) (n : Nat → Nat) (g : Nat → Int32) (b : Nat → Bool) (r : Nat → Nat → Int32) (V : Nat → Ev)  (h17 : n 17 < 16) (h16 : n 16 ≤ 16) (h1 : 1 ≤ n 16) : cI l yX5_undo wsX5_undo 3 θ [.ref (ad 0)] (CW θ ea ad n g b r V) (fun r0 Y => r0 = nI (max (n 16 - 1) 0) ∧ Y = CW θ ea ad (cnv (n 0) (n 1) (n 2) (n 3) (n 4) (n 5) (n 6) (n 7) (n 8) (n 9) (n 10) (n 11) (n 12) ((V (2 + (n 17 + 15) % 16)).1.2.2.2.2.2.1) ((V (2 + (n 17 + 15) % 16)).1.2.2.2.2.2.2.1) ((V (2 + (n 17 + 15) % 16)).1.2.2.2.2.2.2.2) (max (n 16 - 1) 0) ((n 17 + 15) % 16) (n 18) (n 19) (n 20)) (cgv (g 0) (g 1) (g 2) ((V (2 + (n 17 + 15) % 16)).1.1) ((V (2 + (n 17 + 15) % 16)).1.2.1) ((V (2 + (n 17 + 15) % 16)).1.2.2.1) ((V (2 + (n 17 + 15) % 16)).1.2.2.2.2.1)) (cbv (b 0) (b 1) ((V (2 + (n 17 + 15) % 16)).1.2.2.2.1)) (crv (r 0) (r 1) (r 2) (r 3) (r 4) (r 5) (r 6) (va_cpy (V (2 + (n 17 + 15) % 16)).2.1 (r 7) 0 0 5) (va_cpy (V (2 + (n 17 + 15) % 16)).2.2.1 (r 8) 0 0 5) (va_cpy (V (2 + (n 17 + 15) % 16)).2.2.2.1 (r 9) 0 0 4) (va_cpy (V (2 + (n 17 + 15) % 16)).2.2.2.2.1 (r 10) 0 0 20) (va_cpy (V (2 + (n 17 + 15) % 16)).2.2.2.2.2.1 (r 11) 0 0 20) (va_cpy (V (2 + (n 17 + 15) % 16)).2.2.2.2.2.2 (r 12) 0 0 20) (r 13) (r 14) (r 15) (r 16) (r 17) (r 18)) V) := by
  refine z_cI (by decide) rfl rfl (Nat.le_of_ble_eq_true rfl) (lv := [(0, .ref (ad 0))]) rfl (fun κ C E => ?_)
  have hinX2 : ∀ w ∈ wsX20, w ∈ wsX5_undo := by decide +kernel
  have hinX5 : ∀ w ∈ wsX50, w ∈ wsX5_undo := by decide +kernel
  refine z_aload_n C dX5_undo_0 rfl (show zlk _ 0 = some (.ref (ad 0)) from rfl) ?_
  refine z_get C hinX5 0 cc_0 rfl 3 (by decide) (by decide +kernel) cg_0_3 dX5_undo_1 ?_
  refine z_getN C (host := "GnatPortraits") hinX2 5 cc_5 rfl 1 (by decide) (by decide +kernel) cg_5_1 dX5_undo_4 ?_
  refine z_iconst C (v := nI 1) dX5_undo_7 (by decide) ?_
  refine z_icmp_geT C 14 dX5_undo_8 (by decide) (by omega) (by omega) (by omega) ?_
  refine z_aload_n C dX5_undo_14 rfl (show zlk _ 0 = some (.ref (ad 0)) from rfl) ?_
  refine z_get C hinX5 0 cc_0 rfl 3 (by decide) (by decide +kernel) cg_0_3 dX5_undo_15 ?_
  refine z_aload_n C dX5_undo_18 rfl (show zlk _ 0 = some (.ref (ad 0)) from rfl) ?_
  refine z_get C hinX5 0 cc_0 rfl 2 (by decide) (by decide +kernel) cg_0_2 dX5_undo_19 ?_
  refine z_callNv C (As := [.ref (ad 4)]) (rest := []) (host := "GnatPortraits") (c_X2_recall l θ ea ad n g b r V h17 h16 h1) gX5_undo_X2_recall_n215 rfl 1 (by decide +kernel) (by decide +kernel) (by decide +kernel) (by decide +kernel) (by decide +kernel) (by decide) (by decide) 5 rfl rfl rfl rfl rfl (Nat.le_of_ble_eq_true rfl) dX5_undo_22 ?_
  rintro _ rfl
  refine z_X (Y := CW θ ea ad (cnv (n 0) (n 1) (n 2) (n 3) (n 4) (n 5) (n 6) (n 7) (n 8) (n 9) (n 10) (n 11) (n 12) ((V (2 + (n 17 + 15) % 16)).1.2.2.2.2.2.1) ((V (2 + (n 17 + 15) % 16)).1.2.2.2.2.2.2.1) ((V (2 + (n 17 + 15) % 16)).1.2.2.2.2.2.2.2) (max (n 16 - 1) 0) ((n 17 + 15) % 16) (n 18) (n 19) (n 20)) (cgv (g 0) (g 1) (g 2) ((V (2 + (n 17 + 15) % 16)).1.1) ((V (2 + (n 17 + 15) % 16)).1.2.1) ((V (2 + (n 17 + 15) % 16)).1.2.2.1) ((V (2 + (n 17 + 15) % 16)).1.2.2.2.2.1)) (cbv (b 0) (b 1) ((V (2 + (n 17 + 15) % 16)).1.2.2.2.1)) (crv (r 0) (r 1) (r 2) (r 3) (r 4) (r 5) (r 6) (va_cpy (V (2 + (n 17 + 15) % 16)).2.1 (r 7) 0 0 5) (va_cpy (V (2 + (n 17 + 15) % 16)).2.2.1 (r 8) 0 0 5) (va_cpy (V (2 + (n 17 + 15) % 16)).2.2.2.1 (r 9) 0 0 4) (va_cpy (V (2 + (n 17 + 15) % 16)).2.2.2.2.1 (r 10) 0 0 20) (va_cpy (V (2 + (n 17 + 15) % 16)).2.2.2.2.2.1 (r 11) 0 0 20) (va_cpy (V (2 + (n 17 + 15) % 16)).2.2.2.2.2.2 (r 12) 0 0 20) (r 13) (r 14) (r 15) (r 16) (r 17) (r 18)) V) (cw_eq rfl rfl rfl rfl rfl rfl rfl rfl rfl rfl rfl rfl rfl rfl rfl rfl rfl rfl rfl rfl rfl rfl rfl rfl rfl rfl rfl rfl rfl rfl rfl rfl rfl rfl rfl rfl rfl rfl rfl rfl rfl rfl rfl rfl rfl rfl rfl rfl rfl rfl rfl) ?_
  refine z_aload_n C dX5_undo_25 rfl (show zlk _ 0 = some (.ref (ad 0)) from rfl) ?_
  refine z_get C hinX5 0 cc_0 rfl 3 (by decide) (by decide +kernel) cg_0_3 dX5_undo_26 ?_
  refine z_getN C (host := "GnatPortraits") hinX2 5 cc_5 rfl 1 (by decide) (by decide +kernel) ch_5_1 dX5_undo_29 ?_
  exact E _ _ _ _ (⟨rfl, (cw_eq rfl rfl rfl rfl rfl rfl rfl rfl rfl rfl rfl rfl rfl rfl rfl rfl rfl rfl rfl rfl rfl rfl rfl rfl rfl rfl rfl rfl rfl rfl rfl rfl rfl rfl rfl rfl rfl rfl rfl rfl rfl rfl rfl rfl rfl rfl rfl rfl rfl rfl rfl)⟩) (rfl) dX5_undo_32

set_option maxHeartbeats 4000000 in
set_option maxRecDepth 100000 in
theorem c_X5_tellOf_1 (l : Launch) (θ : zH) (ea : Nat → Nat → Nat) (ad : Nat → Nat) (n : Nat → Nat) (g : Nat → Int32) (b : Nat → Bool) (r : Nat → Nat → Int32) (V : Nat → Ev) (x y : Int32) (hx : okN x 30 = false) : cI l yX5_tellOf wsX5_tellOf 1 θ [.ref (ad 0), .int x, .int y] (CW θ ea ad n g b r V) (fun r0 Y => r0 = (-1000000002) ∧ Y = CW θ ea ad n g b r V) := by
  refine z_cI (by decide) rfl rfl (Nat.le_of_ble_eq_true rfl) (lv := [(0, .ref (ad 0)), (1, .int x), (2, .int y)]) rfl (fun κ C E => ?_)
  refine z_iload_n C dX5_tellOf_0 rfl (show zlk _ 1 = some (.int x) from rfl) ?_
  refine z_callSi C (As := [.int x]) (rest := []) (c_X5_isDot l θ _ x) gX5_tellOf_X5_isDot rfl 1 (by decide +kernel) (by decide) (by decide) rfl rfl (Nat.le_of_ble_eq_true rfl) dX5_tellOf_1 ?_
  rintro _ _ ⟨rfl, rfl⟩
  refine z_if_neB C 10 dX5_tellOf_4 (by decide) (fun h => absurd h (by rw [hx]; decide)) (fun _ => ?_)
  refine z_ldc C (v := (-1000000002)) (by decide +kernel) dX5_tellOf_7 ?_
  exact E _ _ _ _ (⟨rfl, rfl⟩) (rfl) dX5_tellOf_9

set_option maxHeartbeats 4000000 in
set_option maxRecDepth 100000 in
theorem c_X5_tellOf_2 (l : Launch) (θ : zH) (ea : Nat → Nat → Nat) (ad : Nat → Nat) (n : Nat → Nat) (g : Nat → Int32) (b : Nat → Bool) (r : Nat → Nat → Int32) (V : Nat → Ev) (x y : Int32) (hx : okN x 30 = true) (ht : n 1 = 6) : cI l yX5_tellOf wsX5_tellOf 1 θ [.ref (ad 0), .int x, .int y] (CW θ ea ad n g b r V) (fun r0 Y => r0 = (-1000000004) ∧ Y = CW θ ea ad n g b r V) := by
  refine z_cI (by decide) rfl rfl (Nat.le_of_ble_eq_true rfl) (lv := [(0, .ref (ad 0)), (1, .int x), (2, .int y)]) rfl (fun κ C E => ?_)
  have hinX5 : ∀ w ∈ wsX50, w ∈ wsX5_tellOf := by decide +kernel
  refine z_iload_n C dX5_tellOf_0 rfl (show zlk _ 1 = some (.int x) from rfl) ?_
  refine z_callSi C (As := [.int x]) (rest := []) (c_X5_isDot l θ _ x) gX5_tellOf_X5_isDot rfl 1 (by decide +kernel) (by decide) (by decide) rfl rfl (Nat.le_of_ble_eq_true rfl) dX5_tellOf_1 ?_
  rintro _ _ ⟨rfl, rfl⟩
  refine z_if_neB C 10 dX5_tellOf_4 (by decide) (fun _ => ?_) (fun h => absurd h (by rw [hx]; decide))
  refine z_aload_n C dX5_tellOf_10 rfl (show zlk _ 0 = some (.ref (ad 0)) from rfl) ?_
  refine z_get C hinX5 0 cc_0 rfl 10 (by decide) (by decide +kernel) cg_0_10 dX5_tellOf_11 ?_
  refine z_bipush C (v := nI 6) dX5_tellOf_14 (by decide) ?_
  refine z_icmp_ltF C 22 dX5_tellOf_16 (by decide) (by omega) (by omega) (by omega) ?_
  refine z_ldc C (v := (-1000000004)) (by decide +kernel) dX5_tellOf_19 ?_
  exact E _ _ _ _ (⟨rfl, rfl⟩) (rfl) dX5_tellOf_21

set_option maxHeartbeats 4000000 in
set_option maxRecDepth 100000 in
theorem c_X5_tellOf_30 (l : Launch) (θ : zH) (ea : Nat → Nat → Nat) (ad : Nat → Nat) (n : Nat → Nat) (g : Nat → Int32) (b : Nat → Bool) (r : Nat → Nat → Int32) (V : Nat → Ev) (x : Int32) (hx : okN x 30 = true) (ht : n 1 < 6) : cI l yX5_tellOf wsX5_tellOf 1 θ [.ref (ad 0), .int x, .int (nI 0)] (CW θ ea ad n g b r V) (fun r0 Y => r0 = nI (n 1 + 1) ∧ Y = CW θ ea ad (cnv (n 0) (n 1 + 1) (n 2) (n 3) (n 4) (n 5) (n 6) (n 7) (n 8) (n 9) (n 10) (n 11) (n 12) (n 13) (n 14) (n 15) (n 16) (n 17) (n 18) (n 19) (n 20)) (cgv (g 0) (g 1 ||| (nI 1 <<< (x &&& 31))) (g 2) (g 3) (g 4) (g 5) (g 6)) b r V) := by
  refine z_cI (by decide) rfl rfl (Nat.le_of_ble_eq_true rfl) (lv := [(0, .ref (ad 0)), (1, .int x), (2, .int (nI 0))]) rfl (fun κ C E => ?_)
  have hinX5 : ∀ w ∈ wsX50, w ∈ wsX5_tellOf := by decide +kernel
  refine z_iload_n C dX5_tellOf_0 rfl (show zlk _ 1 = some (.int x) from rfl) ?_
  refine z_callSi C (As := [.int x]) (rest := []) (c_X5_isDot l θ _ x) gX5_tellOf_X5_isDot rfl 1 (by decide +kernel) (by decide) (by decide) rfl rfl (Nat.le_of_ble_eq_true rfl) dX5_tellOf_1 ?_
  rintro _ _ ⟨rfl, rfl⟩
  refine z_if_neB C 10 dX5_tellOf_4 (by decide) (fun _ => ?_) (fun h => absurd h (by rw [hx]; decide))
  refine z_aload_n C dX5_tellOf_10 rfl (show zlk _ 0 = some (.ref (ad 0)) from rfl) ?_
  refine z_get C hinX5 0 cc_0 rfl 10 (by decide) (by decide +kernel) cg_0_10 dX5_tellOf_11 ?_
  refine z_bipush C (v := nI 6) dX5_tellOf_14 (by decide) ?_
  refine z_icmp_ltT C 22 dX5_tellOf_16 (by decide) (by omega) (by omega) (by omega) ?_
  refine z_iload_n C dX5_tellOf_22 rfl (show zlk _ 2 = some (.int (nI 0)) from rfl) ?_
  refine z_if_eqN C 41 dX5_tellOf_23 (by decide) (by decide) (fun _ => ?_) (fun h => absurd h (by decide))
  refine z_aload_n C dX5_tellOf_41 rfl (show zlk _ 0 = some (.ref (ad 0)) from rfl) ?_
  refine z_dup C dX5_tellOf_42 rfl ?_
  refine z_get C hinX5 0 cc_0 rfl 12 (by decide) (by decide +kernel) cg_0_12 dX5_tellOf_43 ?_
  refine z_iconst C (v := nI 1) dX5_tellOf_46 (by decide) ?_
  refine z_iload_n C dX5_tellOf_47 rfl (show zlk _ 1 = some (.int x) from rfl) ?_
  refine z_ishl C dX5_tellOf_48 ?_
  refine z_ior C dX5_tellOf_49 ?_
  refine z_put C hinX5 tyX5 tyX5_ok nmX5 0 cc_0 rfl 12 (by decide) (by decide +kernel) rfl rfl rfl rfl (Nat.le_of_ble_eq_true rfl) _ cp_0_12 dX5_tellOf_50 ?_
  refine z_aload_n C dX5_tellOf_53 rfl (show zlk _ 0 = some (.ref (ad 0)) from rfl) ?_
  refine z_dup C dX5_tellOf_54 rfl ?_
  refine z_get C hinX5 0 cc_0 rfl 10 (by decide) (by decide +kernel) cg_0_10 dX5_tellOf_55 ?_
  refine z_iconst C (v := nI 1) dX5_tellOf_58 (by decide) ?_
  refine z_iaddN C dX5_tellOf_59 ?_
  refine z_put C hinX5 tyX5 tyX5_ok nmX5 0 cc_0 rfl 10 (by decide) (by decide +kernel) rfl rfl rfl rfl (Nat.le_of_ble_eq_true rfl) _ cp_0_10 dX5_tellOf_60 ?_
  refine z_aload_n C dX5_tellOf_63 rfl (show zlk _ 0 = some (.ref (ad 0)) from rfl) ?_
  refine z_get C hinX5 0 cc_0 rfl 10 (by decide) (by decide +kernel) ch_0_10 dX5_tellOf_64 ?_
  exact E _ _ _ _ (⟨rfl, (cw_eq rfl rfl rfl rfl rfl rfl rfl rfl rfl rfl rfl rfl rfl rfl rfl rfl rfl rfl rfl rfl rfl rfl rfl rfl rfl rfl rfl rfl rfl rfl rfl rfl rfl rfl rfl rfl rfl rfl rfl rfl rfl rfl rfl rfl rfl rfl rfl rfl rfl rfl rfl)⟩) (rfl) dX5_tellOf_67

set_option maxHeartbeats 4000000 in
set_option maxRecDepth 100000 in
theorem c_X5_tellOf_31 (l : Launch) (θ : zH) (ea : Nat → Nat → Nat) (ad : Nat → Nat) (n : Nat → Nat) (g : Nat → Int32) (b : Nat → Bool) (r : Nat → Nat → Int32) (V : Nat → Ev) (x : Int32) (hx : okN x 30 = true) (ht : n 1 < 6) : cI l yX5_tellOf wsX5_tellOf 1 θ [.ref (ad 0), .int x, .int (nI 1)] (CW θ ea ad n g b r V) (fun r0 Y => r0 = nI (n 1 + 1) ∧ Y = CW θ ea ad (cnv (n 0) (n 1 + 1) (n 2) (n 3) (n 4) (n 5) (n 6) (n 7) (n 8) (n 9) (n 10) (n 11) (n 12) (n 13) (n 14) (n 15) (n 16) (n 17) (n 18) (n 19) (n 20)) (cgv (g 0 ||| (nI 1 <<< (x &&& 31))) (g 1) (g 2) (g 3) (g 4) (g 5) (g 6)) b r V) := by
  refine z_cI (by decide) rfl rfl (Nat.le_of_ble_eq_true rfl) (lv := [(0, .ref (ad 0)), (1, .int x), (2, .int (nI 1))]) rfl (fun κ C E => ?_)
  have hinX5 : ∀ w ∈ wsX50, w ∈ wsX5_tellOf := by decide +kernel
  refine z_iload_n C dX5_tellOf_0 rfl (show zlk _ 1 = some (.int x) from rfl) ?_
  refine z_callSi C (As := [.int x]) (rest := []) (c_X5_isDot l θ _ x) gX5_tellOf_X5_isDot rfl 1 (by decide +kernel) (by decide) (by decide) rfl rfl (Nat.le_of_ble_eq_true rfl) dX5_tellOf_1 ?_
  rintro _ _ ⟨rfl, rfl⟩
  refine z_if_neB C 10 dX5_tellOf_4 (by decide) (fun _ => ?_) (fun h => absurd h (by rw [hx]; decide))
  refine z_aload_n C dX5_tellOf_10 rfl (show zlk _ 0 = some (.ref (ad 0)) from rfl) ?_
  refine z_get C hinX5 0 cc_0 rfl 10 (by decide) (by decide +kernel) cg_0_10 dX5_tellOf_11 ?_
  refine z_bipush C (v := nI 6) dX5_tellOf_14 (by decide) ?_
  refine z_icmp_ltT C 22 dX5_tellOf_16 (by decide) (by omega) (by omega) (by omega) ?_
  refine z_iload_n C dX5_tellOf_22 rfl (show zlk _ 2 = some (.int (nI 1)) from rfl) ?_
  refine z_if_eqN C 41 dX5_tellOf_23 (by decide) (by decide) (fun h => absurd h (by decide)) (fun _ => ?_)
  refine z_aload_n C dX5_tellOf_26 rfl (show zlk _ 0 = some (.ref (ad 0)) from rfl) ?_
  refine z_dup C dX5_tellOf_27 rfl ?_
  refine z_get C hinX5 0 cc_0 rfl 11 (by decide) (by decide +kernel) cg_0_11 dX5_tellOf_28 ?_
  refine z_iconst C (v := nI 1) dX5_tellOf_31 (by decide) ?_
  refine z_iload_n C dX5_tellOf_32 rfl (show zlk _ 1 = some (.int x) from rfl) ?_
  refine z_ishl C dX5_tellOf_33 ?_
  refine z_ior C dX5_tellOf_34 ?_
  refine z_put C hinX5 tyX5 tyX5_ok nmX5 0 cc_0 rfl 11 (by decide) (by decide +kernel) rfl rfl rfl rfl (Nat.le_of_ble_eq_true rfl) _ cp_0_11 dX5_tellOf_35 ?_
  refine z_goto C 53 dX5_tellOf_38 (by decide) ?_
  refine z_aload_n C dX5_tellOf_53 rfl (show zlk _ 0 = some (.ref (ad 0)) from rfl) ?_
  refine z_dup C dX5_tellOf_54 rfl ?_
  refine z_get C hinX5 0 cc_0 rfl 10 (by decide) (by decide +kernel) cg_0_10 dX5_tellOf_55 ?_
  refine z_iconst C (v := nI 1) dX5_tellOf_58 (by decide) ?_
  refine z_iaddN C dX5_tellOf_59 ?_
  refine z_put C hinX5 tyX5 tyX5_ok nmX5 0 cc_0 rfl 10 (by decide) (by decide +kernel) rfl rfl rfl rfl (Nat.le_of_ble_eq_true rfl) _ cp_0_10 dX5_tellOf_60 ?_
  refine z_aload_n C dX5_tellOf_63 rfl (show zlk _ 0 = some (.ref (ad 0)) from rfl) ?_
  refine z_get C hinX5 0 cc_0 rfl 10 (by decide) (by decide +kernel) ch_0_10 dX5_tellOf_64 ?_
  exact E _ _ _ _ (⟨rfl, (cw_eq rfl rfl rfl rfl rfl rfl rfl rfl rfl rfl rfl rfl rfl rfl rfl rfl rfl rfl rfl rfl rfl rfl rfl rfl rfl rfl rfl rfl rfl rfl rfl rfl rfl rfl rfl rfl rfl rfl rfl rfl rfl rfl rfl rfl rfl rfl rfl rfl rfl rfl rfl)⟩) (rfl) dX5_tellOf_67

set_option maxHeartbeats 4000000 in
set_option maxRecDepth 100000 in
theorem c_X5_keep_1 (l : Launch) (θ : zH) (ea : Nat → Nat → Nat) (ad : Nat → Nat) (n : Nat → Nat) (g : Nat → Int32) (b : Nat → Bool) (r : Nat → Nat → Int32) (V : Nat → Ev) (x : Int32) (hx : okN x 2 = false) : cI l yX5_keep wsX5_keep 2 θ [.ref (ad 0), .int x] (CW θ ea ad n g b r V) (fun r0 Y => r0 = (-1000000001) ∧ Y = CW θ ea ad n g b r V) := by
  refine z_cI (by decide) rfl rfl (Nat.le_of_ble_eq_true rfl) (lv := [(0, .ref (ad 0)), (1, .int x)]) rfl (fun κ C E => ?_)
  refine z_iload_n C dX5_keep_0 rfl (show zlk _ 1 = some (.int x) from rfl) ?_
  refine z_callSi C (As := [.int x]) (rest := []) (c_X5_isImage l θ _ x) gX5_keep_X5_isImage rfl 1 (by decide +kernel) (by decide) (by decide) rfl rfl (Nat.le_of_ble_eq_true rfl) dX5_keep_1 ?_
  rintro _ _ ⟨rfl, rfl⟩
  refine z_if_neB C 10 dX5_keep_4 (by decide) (fun h => absurd h (by rw [hx]; decide)) (fun _ => ?_)
  refine z_ldc C (v := (-1000000001)) (by decide +kernel) dX5_keep_7 ?_
  exact E _ _ _ _ (⟨rfl, rfl⟩) (rfl) dX5_keep_9

set_option maxHeartbeats 4000000 in
set_option maxRecDepth 100000 in
theorem c_X5_keep_2 (l : Launch) (θ : zH) (ea : Nat → Nat → Nat) (ad : Nat → Nat) (n : Nat → Nat) (g : Nat → Int32) (b : Nat → Bool) (r : Nat → Nat → Int32) (V : Nat → Ev) (i : Nat) (hi : i < 2) : cI l yX5_keep wsX5_keep 2 θ [.ref (ad 0), .int (nI i)] (CW θ ea ad n g b r V) (fun r0 Y => r0 = nI 1 ∧ Y = CW θ ea ad (cnv (n 0) (n 1) (n 2) (n 3) (n 4) (n 5) (n 6) (n 7) (n 8) (n 9) (n 10) (n 11) (n 12) (n 13) (n 14) (n 15) 0 0 (n 18) (n 19) (n 20)) g b (crv (r 0) (r 1) (r 2) (r 3) (r 4) (r 5) (r 6) (r 7) (r 8) (r 9) (r 10) (r 11) (r 12) (r 13) (r 14) (r 15) (r 16) (upd (r 17) i (nI (n 0))) (upd (r 18) i (nI 1))) (va_up V i ((g 3, g 4, g 5, b 2, g 6, n 13, n 14, n 15), (va_cpy (r 7) (V i).2.1 0 0 5, va_cpy (r 8) (V i).2.2.1 0 0 5, va_cpy (r 9) (V i).2.2.2.1 0 0 4, va_cpy (r 10) (V i).2.2.2.2.1 0 0 20, va_cpy (r 11) (V i).2.2.2.2.2.1 0 0 20, va_cpy (r 12) (V i).2.2.2.2.2.2 0 0 20)))) := by
  refine z_cI (by decide) rfl rfl (Nat.le_of_ble_eq_true rfl) (lv := [(0, .ref (ad 0)), (1, .int (nI i))]) rfl (fun κ C E => ?_)
  have hinX5 : ∀ w ∈ wsX50, w ∈ wsX5_keep := by decide +kernel
  refine z_iload_n C dX5_keep_0 rfl (show zlk _ 1 = some (.int (nI i)) from rfl) ?_
  refine z_callSi C (As := [.int (nI i)]) (rest := []) (c_X5_isImage l θ _ (nI i)) gX5_keep_X5_isImage rfl 1 (by decide +kernel) (by decide) (by decide) rfl rfl (Nat.le_of_ble_eq_true rfl) dX5_keep_1 ?_
  rintro _ _ ⟨rfl, rfl⟩
  refine z_if_neB C 10 dX5_keep_4 (by decide) (fun _ => ?_) (fun h => absurd h (by rw [okN_lt hi (by decide)]; decide))
  refine z_aload_n C dX5_keep_10 rfl (show zlk _ 0 = some (.ref (ad 0)) from rfl) ?_
  refine z_get C hinX5 0 cc_0 rfl 2 (by decide) (by decide +kernel) cg_0_2 dX5_keep_11 ?_
  refine z_aload_n C dX5_keep_14 rfl (show zlk _ 0 = some (.ref (ad 0)) from rfl) ?_
  refine z_get C hinX5 0 cc_0 rfl 4 (by decide) (by decide +kernel) cg_0_4 dX5_keep_15 ?_
  refine z_iload_n C dX5_keep_18 rfl (show zlk _ 1 = some (.int (nI i)) from rfl) ?_
  refine z_aald C (v := ea i 0) 6 rfl i rfl (by omega) (by decide) rfl dX5_keep_19 ?_
  refine z_callTv C (As := [.ref (ad 4), .ref (ea i 0)]) (rest := []) (host := "GnatPortraits") (c_X1_copy_out l θ ea ad n g b r V i (by omega)) gX5_keep_X1_copy_n285 rfl 2 (by decide +kernel) (by decide +kernel) (by decide +kernel) (by decide +kernel) (by decide) (by decide) rfl rfl (Nat.le_of_ble_eq_true rfl) dX5_keep_20 ?_
  rintro _ rfl
  refine z_X (Y := CW θ ea ad n g b r (va_up V i ((g 3, g 4, g 5, b 2, g 6, n 13, n 14, n 15), (va_cpy (r 7) (V i).2.1 0 0 5, va_cpy (r 8) (V i).2.2.1 0 0 5, va_cpy (r 9) (V i).2.2.2.1 0 0 4, va_cpy (r 10) (V i).2.2.2.2.1 0 0 20, va_cpy (r 11) (V i).2.2.2.2.2.1 0 0 20, va_cpy (r 12) (V i).2.2.2.2.2.2 0 0 20)))) (cw_eq rfl rfl rfl rfl rfl rfl rfl rfl rfl rfl rfl rfl rfl rfl rfl rfl rfl rfl rfl rfl rfl rfl rfl rfl rfl rfl rfl rfl rfl rfl rfl rfl rfl rfl rfl rfl rfl rfl rfl rfl rfl rfl rfl rfl rfl rfl rfl rfl rfl rfl rfl) ?_
  refine z_aload_n C dX5_keep_23 rfl (show zlk _ 0 = some (.ref (ad 0)) from rfl) ?_
  refine z_get C hinX5 0 cc_0 rfl 6 (by decide) (by decide +kernel) cg_0_6 dX5_keep_24 ?_
  refine z_iload_n C dX5_keep_27 rfl (show zlk _ 1 = some (.int (nI i)) from rfl) ?_
  refine z_aload_n C dX5_keep_28 rfl (show zlk _ 0 = some (.ref (ad 0)) from rfl) ?_
  refine z_get C hinX5 0 cc_0 rfl 9 (by decide) (by decide +kernel) cg_0_9 dX5_keep_29 ?_
  refine z_iast C (f := (r 17)) 8 ca_8 i rfl (by omega) (by decide) _ cs_8 dX5_keep_32 ?_
  refine z_aload_n C dX5_keep_33 rfl (show zlk _ 0 = some (.ref (ad 0)) from rfl) ?_
  refine z_get C hinX5 0 cc_0 rfl 5 (by decide) (by decide +kernel) cg_0_5 dX5_keep_34 ?_
  refine z_iload_n C dX5_keep_37 rfl (show zlk _ 1 = some (.int (nI i)) from rfl) ?_
  refine z_iconst C (v := nI 1) dX5_keep_38 (by decide) ?_
  refine z_zast C (f := (r 18)) 7 cav_7 i rfl (by omega) (by decide) _ csv_7 dX5_keep_39 ?_
  refine z_aload_n C dX5_keep_40 rfl (show zlk _ 0 = some (.ref (ad 0)) from rfl) ?_
  refine z_get C hinX5 0 cc_0 rfl 3 (by decide) (by decide +kernel) cg_0_3 dX5_keep_41 ?_
  refine z_callNv C (As := []) (rest := []) (host := "GnatPortraits") (c_X2_forget l θ ea ad n g b (crv (r 0) (r 1) (r 2) (r 3) (r 4) (r 5) (r 6) (r 7) (r 8) (r 9) (r 10) (r 11) (r 12) (r 13) (r 14) (r 15) (r 16) (upd (r 17) i (nI (n 0))) (upd (r 18) i (nI 1))) (va_up V i ((g 3, g 4, g 5, b 2, g 6, n 13, n 14, n 15), (va_cpy (r 7) (V i).2.1 0 0 5, va_cpy (r 8) (V i).2.2.1 0 0 5, va_cpy (r 9) (V i).2.2.2.1 0 0 4, va_cpy (r 10) (V i).2.2.2.2.1 0 0 20, va_cpy (r 11) (V i).2.2.2.2.2.1 0 0 20, va_cpy (r 12) (V i).2.2.2.2.2.2 0 0 20))) ) gX5_keep_X2_forget_n85 rfl 0 (by decide +kernel) (by decide +kernel) (by decide +kernel) (by decide +kernel) (by decide +kernel) (by decide) (by decide) 5 rfl rfl rfl rfl rfl (Nat.le_of_ble_eq_true rfl) dX5_keep_44 ?_
  rintro _ rfl
  refine z_X (Y := CW θ ea ad (cnv (n 0) (n 1) (n 2) (n 3) (n 4) (n 5) (n 6) (n 7) (n 8) (n 9) (n 10) (n 11) (n 12) (n 13) (n 14) (n 15) 0 0 (n 18) (n 19) (n 20)) g b (crv (r 0) (r 1) (r 2) (r 3) (r 4) (r 5) (r 6) (r 7) (r 8) (r 9) (r 10) (r 11) (r 12) (r 13) (r 14) (r 15) (r 16) (upd (r 17) i (nI (n 0))) (upd (r 18) i (nI 1))) (va_up V i ((g 3, g 4, g 5, b 2, g 6, n 13, n 14, n 15), (va_cpy (r 7) (V i).2.1 0 0 5, va_cpy (r 8) (V i).2.2.1 0 0 5, va_cpy (r 9) (V i).2.2.2.1 0 0 4, va_cpy (r 10) (V i).2.2.2.2.1 0 0 20, va_cpy (r 11) (V i).2.2.2.2.2.1 0 0 20, va_cpy (r 12) (V i).2.2.2.2.2.2 0 0 20)))) (cw_eq rfl rfl rfl rfl rfl rfl rfl rfl rfl rfl rfl rfl rfl rfl rfl rfl rfl rfl rfl rfl rfl rfl rfl rfl rfl rfl rfl rfl rfl rfl rfl rfl rfl rfl rfl rfl rfl rfl rfl rfl rfl rfl rfl rfl rfl rfl rfl rfl rfl rfl rfl) ?_
  refine z_iconst C (v := nI 1) dX5_keep_47 (by decide) ?_
  exact E _ _ _ _ (⟨rfl, (cw_eq rfl rfl rfl rfl rfl rfl rfl rfl rfl rfl rfl rfl rfl rfl rfl rfl rfl rfl rfl rfl rfl rfl rfl rfl rfl rfl rfl rfl rfl rfl rfl rfl rfl rfl rfl rfl rfl rfl rfl rfl rfl rfl rfl rfl rfl rfl rfl rfl rfl rfl rfl)⟩) (rfl) dX5_keep_48

set_option maxHeartbeats 4000000 in
set_option maxRecDepth 100000 in
theorem c_X5_goBack_1 (l : Launch) (θ : zH) (ea : Nat → Nat → Nat) (ad : Nat → Nat) (n : Nat → Nat) (g : Nat → Int32) (b : Nat → Bool) (r : Nat → Nat → Int32) (V : Nat → Ev) (x : Int32) (hx : okN x 2 = false) : cI l yX5_goBack wsX5_goBack 2 θ [.ref (ad 0), .int x] (CW θ ea ad n g b r V) (fun r0 Y => r0 = (-1000000001) ∧ Y = CW θ ea ad n g b r V) := by
  refine z_cI (by decide) rfl rfl (Nat.le_of_ble_eq_true rfl) (lv := [(0, .ref (ad 0)), (1, .int x)]) rfl (fun κ C E => ?_)
  refine z_iload_n C dX5_goBack_0 rfl (show zlk _ 1 = some (.int x) from rfl) ?_
  refine z_callSi C (As := [.int x]) (rest := []) (c_X5_isImage l θ _ x) gX5_goBack_X5_isImage rfl 1 (by decide +kernel) (by decide) (by decide) rfl rfl (Nat.le_of_ble_eq_true rfl) dX5_goBack_1 ?_
  rintro _ _ ⟨rfl, rfl⟩
  refine z_if_neB C 10 dX5_goBack_4 (by decide) (fun h => absurd h (by rw [hx]; decide)) (fun _ => ?_)
  refine z_ldc C (v := (-1000000001)) (by decide +kernel) dX5_goBack_7 ?_
  exact E _ _ _ _ (⟨rfl, rfl⟩) (rfl) dX5_goBack_9

set_option maxHeartbeats 4000000 in
set_option maxRecDepth 100000 in
theorem c_X5_goBack_2 (l : Launch) (θ : zH) (ea : Nat → Nat → Nat) (ad : Nat → Nat) (n : Nat → Nat) (g : Nat → Int32) (b : Nat → Bool) (r : Nat → Nat → Int32) (V : Nat → Ev) (i : Nat) (hi : i < 2) (hk : r 18 i = nI 0) : cI l yX5_goBack wsX5_goBack 2 θ [.ref (ad 0), .int (nI i)] (CW θ ea ad n g b r V) (fun r0 Y => r0 = (-1000000003) ∧ Y = CW θ ea ad n g b r V) := by
  refine z_cI (by decide) rfl rfl (Nat.le_of_ble_eq_true rfl) (lv := [(0, .ref (ad 0)), (1, .int (nI i))]) rfl (fun κ C E => ?_)
  have hinX5 : ∀ w ∈ wsX50, w ∈ wsX5_goBack := by decide +kernel
  refine z_iload_n C dX5_goBack_0 rfl (show zlk _ 1 = some (.int (nI i)) from rfl) ?_
  refine z_callSi C (As := [.int (nI i)]) (rest := []) (c_X5_isImage l θ _ (nI i)) gX5_goBack_X5_isImage rfl 1 (by decide +kernel) (by decide) (by decide) rfl rfl (Nat.le_of_ble_eq_true rfl) dX5_goBack_1 ?_
  rintro _ _ ⟨rfl, rfl⟩
  refine z_if_neB C 10 dX5_goBack_4 (by decide) (fun _ => ?_) (fun h => absurd h (by rw [okN_lt hi (by decide)]; decide))
  refine z_aload_n C dX5_goBack_10 rfl (show zlk _ 0 = some (.ref (ad 0)) from rfl) ?_
  refine z_get C hinX5 0 cc_0 rfl 5 (by decide) (by decide +kernel) cg_0_5 dX5_goBack_11 ?_
  refine z_iload_n C dX5_goBack_14 rfl (show zlk _ 1 = some (.int (nI i)) from rfl) ?_
  refine z_zald C (f := (r 18)) 7 ca_7 i rfl (by omega) (by decide) dX5_goBack_15 ?_
  refine z_if_ne C 22 dX5_goBack_16 (by decide) (fun h16n_1 => absurd h16n_1 (fun z => z hk)) (fun h16n_1 => ?_)
  refine z_ldc C (v := (-1000000003)) (by decide +kernel) dX5_goBack_19 ?_
  exact E _ _ _ _ (⟨rfl, rfl⟩) (rfl) dX5_goBack_21

set_option maxHeartbeats 4000000 in
set_option maxRecDepth 100000 in
theorem c_X5_goBack_3 (l : Launch) (θ : zH) (ea : Nat → Nat → Nat) (ad : Nat → Nat) (n : Nat → Nat) (g : Nat → Int32) (b : Nat → Bool) (r : Nat → Nat → Int32) (V : Nat → Ev) (i sd : Nat) (hi : i < 2) (hk : r 18 i = nI 1) (hsd : r 17 i = nI sd) : cI l yX5_goBack wsX5_goBack 2 θ [.ref (ad 0), .int (nI i)] (CW θ ea ad n g b r V) (fun r0 Y => r0 = nI 1 ∧ Y = CW θ ea ad (cnv sd (n 1) (n 2) (n 3) (n 4) (n 5) (n 6) (n 7) (n 8) (n 9) (n 10) (n 11) (n 12) ((V i).1.2.2.2.2.2.1) ((V i).1.2.2.2.2.2.2.1) ((V i).1.2.2.2.2.2.2.2) 0 0 (n 18) (n 19) (n 20)) (cgv (g 0) (g 1) (g 2) ((V i).1.1) ((V i).1.2.1) ((V i).1.2.2.1) ((V i).1.2.2.2.2.1)) (cbv (b 0) (b 1) ((V i).1.2.2.2.1)) (crv (r 0) (r 1) (r 2) (r 3) (r 4) (r 5) (r 6) (va_cpy (V i).2.1 (r 7) 0 0 5) (va_cpy (V i).2.2.1 (r 8) 0 0 5) (va_cpy (V i).2.2.2.1 (r 9) 0 0 4) (va_cpy (V i).2.2.2.2.1 (r 10) 0 0 20) (va_cpy (V i).2.2.2.2.2.1 (r 11) 0 0 20) (va_cpy (V i).2.2.2.2.2.2 (r 12) 0 0 20) (r 13) (r 14) (r 15) (r 16) (r 17) (r 18)) V) := by
  refine z_cI (by decide) rfl rfl (Nat.le_of_ble_eq_true rfl) (lv := [(0, .ref (ad 0)), (1, .int (nI i))]) rfl (fun κ C E => ?_)
  have hinX5 : ∀ w ∈ wsX50, w ∈ wsX5_goBack := by decide +kernel
  refine z_iload_n C dX5_goBack_0 rfl (show zlk _ 1 = some (.int (nI i)) from rfl) ?_
  refine z_callSi C (As := [.int (nI i)]) (rest := []) (c_X5_isImage l θ _ (nI i)) gX5_goBack_X5_isImage rfl 1 (by decide +kernel) (by decide) (by decide) rfl rfl (Nat.le_of_ble_eq_true rfl) dX5_goBack_1 ?_
  rintro _ _ ⟨rfl, rfl⟩
  refine z_if_neB C 10 dX5_goBack_4 (by decide) (fun _ => ?_) (fun h => absurd h (by rw [okN_lt hi (by decide)]; decide))
  refine z_aload_n C dX5_goBack_10 rfl (show zlk _ 0 = some (.ref (ad 0)) from rfl) ?_
  refine z_get C hinX5 0 cc_0 rfl 5 (by decide) (by decide +kernel) cg_0_5 dX5_goBack_11 ?_
  refine z_iload_n C dX5_goBack_14 rfl (show zlk _ 1 = some (.int (nI i)) from rfl) ?_
  refine z_zald C (f := (r 18)) 7 ca_7 i rfl (by omega) (by decide) dX5_goBack_15 ?_
  refine z_if_ne C 22 dX5_goBack_16 (by decide) (fun h16t_1 => ?_) (fun h16t_1 => absurd h16t_1 (by rw [hk]; decide))
  refine z_aload_n C dX5_goBack_22 rfl (show zlk _ 0 = some (.ref (ad 0)) from rfl) ?_
  refine z_get C hinX5 0 cc_0 rfl 4 (by decide) (by decide +kernel) cg_0_4 dX5_goBack_23 ?_
  refine z_iload_n C dX5_goBack_26 rfl (show zlk _ 1 = some (.int (nI i)) from rfl) ?_
  refine z_aald C (v := ea i 0) 6 rfl i rfl (by omega) (by decide) rfl dX5_goBack_27 ?_
  refine z_aload_n C dX5_goBack_28 rfl (show zlk _ 0 = some (.ref (ad 0)) from rfl) ?_
  refine z_get C hinX5 0 cc_0 rfl 2 (by decide) (by decide +kernel) cg_0_2 dX5_goBack_29 ?_
  refine z_callTv C (As := [.ref (ea i 0), .ref (ad 4)]) (rest := []) (host := "GnatPortraits") (c_X1_copy_in l θ ea ad n g b r V i (by omega)) gX5_goBack_X1_copy_n285 rfl 2 (by decide +kernel) (by decide +kernel) (by decide +kernel) (by decide +kernel) (by decide) (by decide) rfl rfl (Nat.le_of_ble_eq_true rfl) dX5_goBack_32 ?_
  rintro _ rfl
  refine z_X (Y := CW θ ea ad (cnv (n 0) (n 1) (n 2) (n 3) (n 4) (n 5) (n 6) (n 7) (n 8) (n 9) (n 10) (n 11) (n 12) ((V i).1.2.2.2.2.2.1) ((V i).1.2.2.2.2.2.2.1) ((V i).1.2.2.2.2.2.2.2) (n 16) (n 17) (n 18) (n 19) (n 20)) (cgv (g 0) (g 1) (g 2) ((V i).1.1) ((V i).1.2.1) ((V i).1.2.2.1) ((V i).1.2.2.2.2.1)) (cbv (b 0) (b 1) ((V i).1.2.2.2.1)) (crv (r 0) (r 1) (r 2) (r 3) (r 4) (r 5) (r 6) (va_cpy (V i).2.1 (r 7) 0 0 5) (va_cpy (V i).2.2.1 (r 8) 0 0 5) (va_cpy (V i).2.2.2.1 (r 9) 0 0 4) (va_cpy (V i).2.2.2.2.1 (r 10) 0 0 20) (va_cpy (V i).2.2.2.2.2.1 (r 11) 0 0 20) (va_cpy (V i).2.2.2.2.2.2 (r 12) 0 0 20) (r 13) (r 14) (r 15) (r 16) (r 17) (r 18)) V) (cw_eq rfl rfl rfl rfl rfl rfl rfl rfl rfl rfl rfl rfl rfl rfl rfl rfl rfl rfl rfl rfl rfl rfl rfl rfl rfl rfl rfl rfl rfl rfl rfl rfl rfl rfl rfl rfl rfl rfl rfl rfl rfl rfl rfl rfl rfl rfl rfl rfl rfl rfl rfl) ?_
  refine z_aload_n C dX5_goBack_35 rfl (show zlk _ 0 = some (.ref (ad 0)) from rfl) ?_
  refine z_aload_n C dX5_goBack_36 rfl (show zlk _ 0 = some (.ref (ad 0)) from rfl) ?_
  refine z_get C hinX5 0 cc_0 rfl 6 (by decide) (by decide +kernel) cg_0_6 dX5_goBack_37 ?_
  refine z_iload_n C dX5_goBack_40 rfl (show zlk _ 1 = some (.int (nI i)) from rfl) ?_
  refine z_iald C (f := (r 17)) 8 cav_8 i rfl (by omega) (by decide) dX5_goBack_41 ?_
  refine z_top (v' := .int (nI sd)) (by rw [hsd]) ?_
  refine z_put C hinX5 tyX5 tyX5_ok nmX5 0 cc_0 rfl 9 (by decide) (by decide +kernel) rfl rfl rfl rfl (Nat.le_of_ble_eq_true rfl) _ cv_0_9 dX5_goBack_42 ?_
  refine z_aload_n C dX5_goBack_45 rfl (show zlk _ 0 = some (.ref (ad 0)) from rfl) ?_
  refine z_get C hinX5 0 cc_0 rfl 3 (by decide) (by decide +kernel) cg_0_3 dX5_goBack_46 ?_
  refine z_callNv C (As := []) (rest := []) (host := "GnatPortraits") (c_X2_forget l θ ea ad (cnv sd (n 1) (n 2) (n 3) (n 4) (n 5) (n 6) (n 7) (n 8) (n 9) (n 10) (n 11) (n 12) ((V i).1.2.2.2.2.2.1) ((V i).1.2.2.2.2.2.2.1) ((V i).1.2.2.2.2.2.2.2) (n 16) (n 17) (n 18) (n 19) (n 20)) (cgv (g 0) (g 1) (g 2) ((V i).1.1) ((V i).1.2.1) ((V i).1.2.2.1) ((V i).1.2.2.2.2.1)) (cbv (b 0) (b 1) ((V i).1.2.2.2.1)) (crv (r 0) (r 1) (r 2) (r 3) (r 4) (r 5) (r 6) (va_cpy (V i).2.1 (r 7) 0 0 5) (va_cpy (V i).2.2.1 (r 8) 0 0 5) (va_cpy (V i).2.2.2.1 (r 9) 0 0 4) (va_cpy (V i).2.2.2.2.1 (r 10) 0 0 20) (va_cpy (V i).2.2.2.2.2.1 (r 11) 0 0 20) (va_cpy (V i).2.2.2.2.2.2 (r 12) 0 0 20) (r 13) (r 14) (r 15) (r 16) (r 17) (r 18)) V ) gX5_goBack_X2_forget_n85 rfl 0 (by decide +kernel) (by decide +kernel) (by decide +kernel) (by decide +kernel) (by decide +kernel) (by decide) (by decide) 5 rfl rfl rfl rfl rfl (Nat.le_of_ble_eq_true rfl) dX5_goBack_49 ?_
  rintro _ rfl
  refine z_X (Y := CW θ ea ad (cnv sd (n 1) (n 2) (n 3) (n 4) (n 5) (n 6) (n 7) (n 8) (n 9) (n 10) (n 11) (n 12) ((V i).1.2.2.2.2.2.1) ((V i).1.2.2.2.2.2.2.1) ((V i).1.2.2.2.2.2.2.2) 0 0 (n 18) (n 19) (n 20)) (cgv (g 0) (g 1) (g 2) ((V i).1.1) ((V i).1.2.1) ((V i).1.2.2.1) ((V i).1.2.2.2.2.1)) (cbv (b 0) (b 1) ((V i).1.2.2.2.1)) (crv (r 0) (r 1) (r 2) (r 3) (r 4) (r 5) (r 6) (va_cpy (V i).2.1 (r 7) 0 0 5) (va_cpy (V i).2.2.1 (r 8) 0 0 5) (va_cpy (V i).2.2.2.1 (r 9) 0 0 4) (va_cpy (V i).2.2.2.2.1 (r 10) 0 0 20) (va_cpy (V i).2.2.2.2.2.1 (r 11) 0 0 20) (va_cpy (V i).2.2.2.2.2.2 (r 12) 0 0 20) (r 13) (r 14) (r 15) (r 16) (r 17) (r 18)) V) (cw_eq rfl rfl rfl rfl rfl rfl rfl rfl rfl rfl rfl rfl rfl rfl rfl rfl rfl rfl rfl rfl rfl rfl rfl rfl rfl rfl rfl rfl rfl rfl rfl rfl rfl rfl rfl rfl rfl rfl rfl rfl rfl rfl rfl rfl rfl rfl rfl rfl rfl rfl rfl) ?_
  refine z_iconst C (v := nI 1) dX5_goBack_52 (by decide) ?_
  exact E _ _ _ _ (⟨rfl, (cw_eq rfl rfl rfl rfl rfl rfl rfl rfl rfl rfl rfl rfl rfl rfl rfl rfl rfl rfl rfl rfl rfl rfl rfl rfl rfl rfl rfl rfl rfl rfl rfl rfl rfl rfl rfl rfl rfl rfl rfl rfl rfl rfl rfl rfl rfl rfl rfl rfl rfl rfl rfl)⟩) (rfl) dX5_goBack_53

