theorem mi_1 {x A : Int32} {a b : Int64} (ha : a.toInt = A.toInt) (h : m_in (Int32.toInt64 x) a b = true) : ¬ x < A := by
  unfold m_in at h
  rw [Int32.toInt_toInt64] at h
  simp only [Bool.and_eq_true, decide_eq_true_eq] at h
  rw [zf_lt]; omega
theorem mi_2 {x B : Int32} {a b : Int64} (hb : b.toInt = B.toInt) (h : m_in (Int32.toInt64 x) a b = true) : x ≤ B := by
  unfold m_in at h
  rw [Int32.toInt_toInt64] at h
  simp only [Bool.and_eq_true, decide_eq_true_eq] at h
  rw [zf_le]; omega
theorem mi_3 {x A B : Int32} {a b : Int64} (ha : a.toInt = A.toInt) (hb : b.toInt = B.toInt) (h : m_in (Int32.toInt64 x) a b = false) (h0 : ¬ x < A) : ¬ x ≤ B := by
  unfold m_in at h
  rw [Int32.toInt_toInt64] at h
  simp only [Bool.and_eq_false_iff, decide_eq_false_iff_not] at h
  rw [zf_lt] at h0
  rw [zf_le]; omega
set_option maxHeartbeats 4000000 in
set_option maxRecDepth 100000 in
theorem c_X5_wind_1 (l : Launch) (θ : zH) (ea : Nat → Nat → Nat) (ad : Nat → Nat) (n : Nat → Nat) (g : Nat → Int32) (b : Nat → Bool) (r : Nat → Nat → Int32) (V : Nat → Ev) (x : Int32) (hx : m_in (Int32.toInt64 x) (-3) (3) = false) : cI l yX5_wind wsX5_wind 3 θ [.ref (ad 0), .int x] (CW θ ea ad n g b r V) (fun r0 Y => r0 = (-1000000002) ∧ Y = CW θ ea ad n g b r V) := by
  refine z_cI (by decide) rfl rfl (Nat.le_of_ble_eq_true rfl) (lv := [(0, .ref (ad 0)), (1, .int x)]) rfl (fun κ C E => ?_)
  refine z_iload_n C dX5_wind_0 rfl (show zlk _ 1 = some (.int x) from rfl) ?_
  refine z_bipush C (v := (-3)) dX5_wind_1 (by decide) ?_
  refine z_icmp_lt C 11 dX5_wind_3 (by decide) (fun h3t_1 => ?_) (fun h3n_1 => ?_)
  · refine z_ldc C (v := (-1000000002)) (by decide +kernel) dX5_wind_11 ?_
    exact E _ _ _ _ (⟨rfl, rfl⟩) (rfl) dX5_wind_13
  · refine z_iload_n C dX5_wind_6 rfl (show zlk _ 1 = some (.int x) from rfl) ?_
    refine z_iconst C (v := nI 3) dX5_wind_7 (by decide) ?_
    refine z_icmp_le C 14 dX5_wind_8 (by decide) (fun h8n_2 => absurd h8n_2 (mi_3 (A := (-3)) (B := nI 3) (by decide) (by decide) hx h3n_1)) (fun h8n_2 => ?_)
    refine z_ldc C (v := (-1000000002)) (by decide +kernel) dX5_wind_11 ?_
    exact E _ _ _ _ (⟨rfl, rfl⟩) (rfl) dX5_wind_13

set_option maxHeartbeats 4000000 in
set_option maxRecDepth 100000 in
theorem c_X5_wind_2 (l : Launch) (θ : zH) (ea : Nat → Nat → Nat) (ad : Nat → Nat) (n : Nat → Nat) (g : Nat → Int32) (b : Nat → Bool) (r : Nat → Nat → Int32) (V : Nat → Ev) (x : Int32) (hx : m_in (Int32.toInt64 x) (-3) (3) = true) (hg : b 1 = false) : cI l yX5_wind wsX5_wind 3 θ [.ref (ad 0), .int x] (CW θ ea ad n g b r V) (fun r0 Y => r0 = (-1000000003) ∧ Y = CW θ ea ad n g b r V) := by
  refine z_cI (by decide) rfl rfl (Nat.le_of_ble_eq_true rfl) (lv := [(0, .ref (ad 0)), (1, .int x)]) rfl (fun κ C E => ?_)
  have hinX0 : ∀ w ∈ wsX00, w ∈ wsX5_wind := by decide +kernel
  have hinX5 : ∀ w ∈ wsX50, w ∈ wsX5_wind := by decide +kernel
  refine z_iload_n C dX5_wind_0 rfl (show zlk _ 1 = some (.int x) from rfl) ?_
  refine z_bipush C (v := (-3)) dX5_wind_1 (by decide) ?_
  refine z_icmp_lt C 11 dX5_wind_3 (by decide) (fun h3n_1 => absurd h3n_1 (mi_1 (A := (-3)) (by decide) hx)) (fun h3n_1 => ?_)
  refine z_iload_n C dX5_wind_6 rfl (show zlk _ 1 = some (.int x) from rfl) ?_
  refine z_iconst C (v := nI 3) dX5_wind_7 (by decide) ?_
  refine z_icmp_le C 14 dX5_wind_8 (by decide) (fun h8t_2 => ?_) (fun h8t_2 => absurd h8t_2 (fun z => z (mi_2 (B := nI 3) (by decide) hx)))
  refine z_aload_n C dX5_wind_14 rfl (show zlk _ 0 = some (.ref (ad 0)) from rfl) ?_
  refine z_get C hinX5 0 cc_0 rfl 1 (by decide) (by decide +kernel) cg_0_1 dX5_wind_15 ?_
  refine z_getN C (host := "GnatPortraits") hinX0 3 cc_3 rfl 0 (by decide) (by decide +kernel) cg_3_0 dX5_wind_18 ?_
  refine z_if_neB C 27 dX5_wind_21 (by decide) (fun h => absurd h (by rw [hg]; decide)) (fun _ => ?_)
  refine z_ldc C (v := (-1000000003)) (by decide +kernel) dX5_wind_24 ?_
  exact E _ _ _ _ (⟨rfl, rfl⟩) (rfl) dX5_wind_26

set_option maxHeartbeats 4000000 in
set_option maxRecDepth 100000 in
theorem c_X5_wind_3 (l : Launch) (θ : zH) (ea : Nat → Nat → Nat) (ad : Nat → Nat) (n : Nat → Nat) (g : Nat → Int32) (b : Nat → Bool) (r : Nat → Nat → Int32) (V : Nat → Ev) (x : Int32) (hx : m_in (Int32.toInt64 x) (-3) (3) = true) (hg : b 1 = true) (h17 : n 17 < 16) (h16 : n 16 ≤ 16) : cI l yX5_wind wsX5_wind 3 θ [.ref (ad 0), .int x] (CW θ ea ad n g b r V) (fun r0 Y => r0 = g 3 + nI 3 ∧ Y = CW θ ea ad (cnv (n 0) (n 1) (n 2) (n 3) (n 4) (n 5) (n 6) (n 7) (n 8) (n 9) (n 10) (n 11) (n 12) (n 13) (n 14) (n 15) (min (n 16 + 1) 16) ((n 17 + 1) % 16) (n 18) (n 19) (n 20)) (cgv (g 0) (g 1) (g 2) x (g 4) (g 5) (g 6)) b r (va_up V (2 + n 17) ((g 3, g 4, g 5, b 2, g 6, n 13, n 14, n 15), (va_cpy (r 7) (V (2 + n 17)).2.1 0 0 5, va_cpy (r 8) (V (2 + n 17)).2.2.1 0 0 5, va_cpy (r 9) (V (2 + n 17)).2.2.2.1 0 0 4, va_cpy (r 10) (V (2 + n 17)).2.2.2.2.1 0 0 20, va_cpy (r 11) (V (2 + n 17)).2.2.2.2.2.1 0 0 20, va_cpy (r 12) (V (2 + n 17)).2.2.2.2.2.2 0 0 20)))) := by
  refine z_cI (by decide) rfl rfl (Nat.le_of_ble_eq_true rfl) (lv := [(0, .ref (ad 0)), (1, .int x)]) rfl (fun κ C E => ?_)
  have hinX0 : ∀ w ∈ wsX00, w ∈ wsX5_wind := by decide +kernel
  have hinX1 : ∀ w ∈ wsX10, w ∈ wsX5_wind := by decide +kernel
  have hinX5 : ∀ w ∈ wsX50, w ∈ wsX5_wind := by decide +kernel
  refine z_iload_n C dX5_wind_0 rfl (show zlk _ 1 = some (.int x) from rfl) ?_
  refine z_bipush C (v := (-3)) dX5_wind_1 (by decide) ?_
  refine z_icmp_lt C 11 dX5_wind_3 (by decide) (fun h3n_1 => absurd h3n_1 (mi_1 (A := (-3)) (by decide) hx)) (fun h3n_1 => ?_)
  refine z_iload_n C dX5_wind_6 rfl (show zlk _ 1 = some (.int x) from rfl) ?_
  refine z_iconst C (v := nI 3) dX5_wind_7 (by decide) ?_
  refine z_icmp_le C 14 dX5_wind_8 (by decide) (fun h8t_2 => ?_) (fun h8t_2 => absurd h8t_2 (fun z => z (mi_2 (B := nI 3) (by decide) hx)))
  refine z_aload_n C dX5_wind_14 rfl (show zlk _ 0 = some (.ref (ad 0)) from rfl) ?_
  refine z_get C hinX5 0 cc_0 rfl 1 (by decide) (by decide +kernel) cg_0_1 dX5_wind_15 ?_
  refine z_getN C (host := "GnatPortraits") hinX0 3 cc_3 rfl 0 (by decide) (by decide +kernel) cg_3_0 dX5_wind_18 ?_
  refine z_if_neB C 27 dX5_wind_21 (by decide) (fun _ => ?_) (fun h => absurd h (by rw [hg]; decide))
  refine z_aload_n C dX5_wind_27 rfl (show zlk _ 0 = some (.ref (ad 0)) from rfl) ?_
  refine z_get C hinX5 0 cc_0 rfl 3 (by decide) (by decide +kernel) cg_0_3 dX5_wind_28 ?_
  refine z_aload_n C dX5_wind_31 rfl (show zlk _ 0 = some (.ref (ad 0)) from rfl) ?_
  refine z_get C hinX5 0 cc_0 rfl 2 (by decide) (by decide +kernel) cg_0_2 dX5_wind_32 ?_
  refine z_callNv C (As := [.ref (ad 4)]) (rest := []) (host := "GnatPortraits") (c_X2_remember l θ ea ad n g b r V h17 h16) gX5_wind_X2_remember_n192 rfl 1 (by decide +kernel) (by decide +kernel) (by decide +kernel) (by decide +kernel) (by decide +kernel) (by decide) (by decide) 5 rfl rfl rfl rfl rfl (Nat.le_of_ble_eq_true rfl) dX5_wind_35 ?_
  rintro _ rfl
  refine z_X (Y := CW θ ea ad (cnv (n 0) (n 1) (n 2) (n 3) (n 4) (n 5) (n 6) (n 7) (n 8) (n 9) (n 10) (n 11) (n 12) (n 13) (n 14) (n 15) (min (n 16 + 1) 16) ((n 17 + 1) % 16) (n 18) (n 19) (n 20)) g b r (va_up V (2 + n 17) ((g 3, g 4, g 5, b 2, g 6, n 13, n 14, n 15), (va_cpy (r 7) (V (2 + n 17)).2.1 0 0 5, va_cpy (r 8) (V (2 + n 17)).2.2.1 0 0 5, va_cpy (r 9) (V (2 + n 17)).2.2.2.1 0 0 4, va_cpy (r 10) (V (2 + n 17)).2.2.2.2.1 0 0 20, va_cpy (r 11) (V (2 + n 17)).2.2.2.2.2.1 0 0 20, va_cpy (r 12) (V (2 + n 17)).2.2.2.2.2.2 0 0 20)))) (cw_eq rfl rfl rfl rfl rfl rfl rfl rfl rfl rfl rfl rfl rfl rfl rfl rfl rfl rfl rfl rfl rfl rfl rfl rfl rfl rfl rfl rfl rfl rfl rfl rfl rfl rfl rfl rfl rfl rfl rfl rfl rfl rfl rfl rfl rfl rfl rfl rfl rfl rfl rfl) ?_
  refine z_aload_n C dX5_wind_38 rfl (show zlk _ 0 = some (.ref (ad 0)) from rfl) ?_
  refine z_get C hinX5 0 cc_0 rfl 2 (by decide) (by decide +kernel) cg_0_2 dX5_wind_39 ?_
  refine z_getN C (host := "GnatPortraits") hinX1 4 cc_4 rfl 0 (by decide) (by decide +kernel) cg_4_0 dX5_wind_42 ?_
  refine z_istore_n C [(2, .int (g 3)), (0, .ref (ad 0)), (1, .int x)] dX5_wind_45 rfl (by decide) rfl ?_
  refine z_aload_n C dX5_wind_46 rfl (show zlk _ 0 = some (.ref (ad 0)) from rfl) ?_
  refine z_get C hinX5 0 cc_0 rfl 2 (by decide) (by decide +kernel) cg_0_2 dX5_wind_47 ?_
  refine z_iload_n C dX5_wind_50 rfl (show zlk _ 1 = some (.int x) from rfl) ?_
  refine z_putN C (host := "GnatPortraits") hinX1 tyX1 tyX1_ok nmX1 4 cc_4 rfl 0 (by decide) (by decide +kernel) rfl rfl rfl rfl (Nat.le_of_ble_eq_true rfl) _ cp_4_0 dX5_wind_51 ?_
  refine z_iload_n C dX5_wind_54 rfl (show zlk _ 2 = some (.int (g 3)) from rfl) ?_
  refine z_iconst C (v := nI 3) dX5_wind_55 (by decide) ?_
  refine z_iadd C dX5_wind_56 ?_
  exact E _ _ _ _ (⟨rfl, (cw_eq rfl rfl rfl rfl rfl rfl rfl rfl rfl rfl rfl rfl rfl rfl rfl rfl rfl rfl rfl rfl rfl rfl rfl rfl rfl rfl rfl rfl rfl rfl rfl rfl rfl rfl rfl rfl rfl rfl rfl rfl rfl rfl rfl rfl rfl rfl rfl rfl rfl rfl rfl)⟩) (rfl) dX5_wind_57

set_option maxHeartbeats 4000000 in
set_option maxRecDepth 100000 in
theorem c_X5_bats_1 (l : Launch) (θ : zH) (ea : Nat → Nat → Nat) (ad : Nat → Nat) (n : Nat → Nat) (g : Nat → Int32) (b : Nat → Bool) (r : Nat → Nat → Int32) (V : Nat → Ev) (x : Int32) (hx : okN x 64 = false) : cI l yX5_bats wsX5_bats 3 θ [.ref (ad 0), .int x] (CW θ ea ad n g b r V) (fun r0 Y => r0 = (-1000000002) ∧ Y = CW θ ea ad n g b r V) := by
  refine z_cI (by decide) rfl rfl (Nat.le_of_ble_eq_true rfl) (lv := [(0, .ref (ad 0)), (1, .int x)]) rfl (fun κ C E => ?_)
  refine z_iload_n C dX5_bats_0 rfl (show zlk _ 1 = some (.int x) from rfl) ?_
  refine z_if_lt C 10 dX5_bats_1 (by decide) (fun h1t_1 => ?_) (fun h1n_1 => ?_)
  · refine z_ldc C (v := (-1000000002)) (by decide +kernel) dX5_bats_10 ?_
    exact E _ _ _ _ (⟨rfl, rfl⟩) (rfl) dX5_bats_12
  · refine z_iload_n C dX5_bats_4 rfl (show zlk _ 1 = some (.int x) from rfl) ?_
    refine z_bipush C (v := nI 63) dX5_bats_5 (by decide) ?_
    refine z_icmp_le C 13 dX5_bats_7 (by decide) (fun h7n_2 => absurd h7n_2 (okN_nle (N := 63) hx h1n_1 (by decide))) (fun h7n_2 => ?_)
    refine z_ldc C (v := (-1000000002)) (by decide +kernel) dX5_bats_10 ?_
    exact E _ _ _ _ (⟨rfl, rfl⟩) (rfl) dX5_bats_12

set_option maxHeartbeats 4000000 in
set_option maxRecDepth 100000 in
theorem c_X5_bats_2 (l : Launch) (θ : zH) (ea : Nat → Nat → Nat) (ad : Nat → Nat) (n : Nat → Nat) (g : Nat → Int32) (b : Nat → Bool) (r : Nat → Nat → Int32) (V : Nat → Ev) (x : Int32) (hx : okN x 64 = true) (hg : b 1 = false) : cI l yX5_bats wsX5_bats 3 θ [.ref (ad 0), .int x] (CW θ ea ad n g b r V) (fun r0 Y => r0 = (-1000000003) ∧ Y = CW θ ea ad n g b r V) := by
  refine z_cI (by decide) rfl rfl (Nat.le_of_ble_eq_true rfl) (lv := [(0, .ref (ad 0)), (1, .int x)]) rfl (fun κ C E => ?_)
  have hinX0 : ∀ w ∈ wsX00, w ∈ wsX5_bats := by decide +kernel
  have hinX5 : ∀ w ∈ wsX50, w ∈ wsX5_bats := by decide +kernel
  refine z_iload_n C dX5_bats_0 rfl (show zlk _ 1 = some (.int x) from rfl) ?_
  refine z_if_lt C 10 dX5_bats_1 (by decide) (fun h1n_1 => absurd h1n_1 (okN_n0 hx)) (fun h1n_1 => ?_)
  refine z_iload_n C dX5_bats_4 rfl (show zlk _ 1 = some (.int x) from rfl) ?_
  refine z_bipush C (v := nI 63) dX5_bats_5 (by decide) ?_
  refine z_icmp_le C 13 dX5_bats_7 (by decide) (fun h7t_2 => ?_) (fun h7t_2 => absurd h7t_2 (fun z => z (okN_le (N := 63) hx (by decide))))
  refine z_aload_n C dX5_bats_13 rfl (show zlk _ 0 = some (.ref (ad 0)) from rfl) ?_
  refine z_get C hinX5 0 cc_0 rfl 1 (by decide) (by decide +kernel) cg_0_1 dX5_bats_14 ?_
  refine z_getN C (host := "GnatPortraits") hinX0 3 cc_3 rfl 0 (by decide) (by decide +kernel) cg_3_0 dX5_bats_17 ?_
  refine z_if_neB C 26 dX5_bats_20 (by decide) (fun h => absurd h (by rw [hg]; decide)) (fun _ => ?_)
  refine z_ldc C (v := (-1000000003)) (by decide +kernel) dX5_bats_23 ?_
  exact E _ _ _ _ (⟨rfl, rfl⟩) (rfl) dX5_bats_25

set_option maxHeartbeats 4000000 in
set_option maxRecDepth 100000 in
theorem c_X5_bats_3 (l : Launch) (θ : zH) (ea : Nat → Nat → Nat) (ad : Nat → Nat) (n : Nat → Nat) (g : Nat → Int32) (b : Nat → Bool) (r : Nat → Nat → Int32) (V : Nat → Ev) (x : Int32) (hx : okN x 64 = true) (hg : b 1 = true) (h17 : n 17 < 16) (h16 : n 16 ≤ 16) : cI l yX5_bats wsX5_bats 3 θ [.ref (ad 0), .int x] (CW θ ea ad n g b r V) (fun r0 Y => r0 = g 4 ∧ Y = CW θ ea ad (cnv (n 0) (n 1) (n 2) (n 3) (n 4) (n 5) (n 6) (n 7) (n 8) (n 9) (n 10) (n 11) (n 12) (n 13) (n 14) (n 15) (min (n 16 + 1) 16) ((n 17 + 1) % 16) (n 18) (n 19) (n 20)) (cgv (g 0) (g 1) (g 2) (g 3) x (g 5) (g 6)) b r (va_up V (2 + n 17) ((g 3, g 4, g 5, b 2, g 6, n 13, n 14, n 15), (va_cpy (r 7) (V (2 + n 17)).2.1 0 0 5, va_cpy (r 8) (V (2 + n 17)).2.2.1 0 0 5, va_cpy (r 9) (V (2 + n 17)).2.2.2.1 0 0 4, va_cpy (r 10) (V (2 + n 17)).2.2.2.2.1 0 0 20, va_cpy (r 11) (V (2 + n 17)).2.2.2.2.2.1 0 0 20, va_cpy (r 12) (V (2 + n 17)).2.2.2.2.2.2 0 0 20)))) := by
  refine z_cI (by decide) rfl rfl (Nat.le_of_ble_eq_true rfl) (lv := [(0, .ref (ad 0)), (1, .int x)]) rfl (fun κ C E => ?_)
  have hinX0 : ∀ w ∈ wsX00, w ∈ wsX5_bats := by decide +kernel
  have hinX1 : ∀ w ∈ wsX10, w ∈ wsX5_bats := by decide +kernel
  have hinX5 : ∀ w ∈ wsX50, w ∈ wsX5_bats := by decide +kernel
  refine z_iload_n C dX5_bats_0 rfl (show zlk _ 1 = some (.int x) from rfl) ?_
  refine z_if_lt C 10 dX5_bats_1 (by decide) (fun h1n_1 => absurd h1n_1 (okN_n0 hx)) (fun h1n_1 => ?_)
  refine z_iload_n C dX5_bats_4 rfl (show zlk _ 1 = some (.int x) from rfl) ?_
  refine z_bipush C (v := nI 63) dX5_bats_5 (by decide) ?_
  refine z_icmp_le C 13 dX5_bats_7 (by decide) (fun h7t_2 => ?_) (fun h7t_2 => absurd h7t_2 (fun z => z (okN_le (N := 63) hx (by decide))))
  refine z_aload_n C dX5_bats_13 rfl (show zlk _ 0 = some (.ref (ad 0)) from rfl) ?_
  refine z_get C hinX5 0 cc_0 rfl 1 (by decide) (by decide +kernel) cg_0_1 dX5_bats_14 ?_
  refine z_getN C (host := "GnatPortraits") hinX0 3 cc_3 rfl 0 (by decide) (by decide +kernel) cg_3_0 dX5_bats_17 ?_
  refine z_if_neB C 26 dX5_bats_20 (by decide) (fun _ => ?_) (fun h => absurd h (by rw [hg]; decide))
  refine z_aload_n C dX5_bats_26 rfl (show zlk _ 0 = some (.ref (ad 0)) from rfl) ?_
  refine z_get C hinX5 0 cc_0 rfl 3 (by decide) (by decide +kernel) cg_0_3 dX5_bats_27 ?_
  refine z_aload_n C dX5_bats_30 rfl (show zlk _ 0 = some (.ref (ad 0)) from rfl) ?_
  refine z_get C hinX5 0 cc_0 rfl 2 (by decide) (by decide +kernel) cg_0_2 dX5_bats_31 ?_
  refine z_callNv C (As := [.ref (ad 4)]) (rest := []) (host := "GnatPortraits") (c_X2_remember l θ ea ad n g b r V h17 h16) gX5_bats_X2_remember_n192 rfl 1 (by decide +kernel) (by decide +kernel) (by decide +kernel) (by decide +kernel) (by decide +kernel) (by decide) (by decide) 5 rfl rfl rfl rfl rfl (Nat.le_of_ble_eq_true rfl) dX5_bats_34 ?_
  rintro _ rfl
  refine z_X (Y := CW θ ea ad (cnv (n 0) (n 1) (n 2) (n 3) (n 4) (n 5) (n 6) (n 7) (n 8) (n 9) (n 10) (n 11) (n 12) (n 13) (n 14) (n 15) (min (n 16 + 1) 16) ((n 17 + 1) % 16) (n 18) (n 19) (n 20)) g b r (va_up V (2 + n 17) ((g 3, g 4, g 5, b 2, g 6, n 13, n 14, n 15), (va_cpy (r 7) (V (2 + n 17)).2.1 0 0 5, va_cpy (r 8) (V (2 + n 17)).2.2.1 0 0 5, va_cpy (r 9) (V (2 + n 17)).2.2.2.1 0 0 4, va_cpy (r 10) (V (2 + n 17)).2.2.2.2.1 0 0 20, va_cpy (r 11) (V (2 + n 17)).2.2.2.2.2.1 0 0 20, va_cpy (r 12) (V (2 + n 17)).2.2.2.2.2.2 0 0 20)))) (cw_eq rfl rfl rfl rfl rfl rfl rfl rfl rfl rfl rfl rfl rfl rfl rfl rfl rfl rfl rfl rfl rfl rfl rfl rfl rfl rfl rfl rfl rfl rfl rfl rfl rfl rfl rfl rfl rfl rfl rfl rfl rfl rfl rfl rfl rfl rfl rfl rfl rfl rfl rfl) ?_
  refine z_aload_n C dX5_bats_37 rfl (show zlk _ 0 = some (.ref (ad 0)) from rfl) ?_
  refine z_get C hinX5 0 cc_0 rfl 2 (by decide) (by decide +kernel) cg_0_2 dX5_bats_38 ?_
  refine z_getN C (host := "GnatPortraits") hinX1 4 cc_4 rfl 1 (by decide) (by decide +kernel) cg_4_1 dX5_bats_41 ?_
  refine z_istore_n C [(2, .int (g 4)), (0, .ref (ad 0)), (1, .int x)] dX5_bats_44 rfl (by decide) rfl ?_
  refine z_aload_n C dX5_bats_45 rfl (show zlk _ 0 = some (.ref (ad 0)) from rfl) ?_
  refine z_get C hinX5 0 cc_0 rfl 2 (by decide) (by decide +kernel) cg_0_2 dX5_bats_46 ?_
  refine z_iload_n C dX5_bats_49 rfl (show zlk _ 1 = some (.int x) from rfl) ?_
  refine z_putN C (host := "GnatPortraits") hinX1 tyX1 tyX1_ok nmX1 4 cc_4 rfl 1 (by decide) (by decide +kernel) rfl rfl rfl rfl (Nat.le_of_ble_eq_true rfl) _ cp_4_1 dX5_bats_50 ?_
  refine z_iload_n C dX5_bats_53 rfl (show zlk _ 2 = some (.int (g 4)) from rfl) ?_
  exact E _ _ _ _ (⟨rfl, (cw_eq rfl rfl rfl rfl rfl rfl rfl rfl rfl rfl rfl rfl rfl rfl rfl rfl rfl rfl rfl rfl rfl rfl rfl rfl rfl rfl rfl rfl rfl rfl rfl rfl rfl rfl rfl rfl rfl rfl rfl rfl rfl rfl rfl rfl rfl rfl rfl rfl rfl rfl rfl)⟩) (rfl) dX5_bats_54

set_option maxHeartbeats 4000000 in
set_option maxRecDepth 100000 in
theorem c_X5_glass_1 (l : Launch) (θ : zH) (ea : Nat → Nat → Nat) (ad : Nat → Nat) (n : Nat → Nat) (g : Nat → Int32) (b : Nat → Bool) (r : Nat → Nat → Int32) (V : Nat → Ev) (v : Int32) (hv : okN v 4 = false) : cI l yX5_glass wsX5_glass 1 θ [.ref (ad 0), .int v] (CW θ ea ad n g b r V) (fun r0 Y => r0 = (-1000000001) ∧ Y = CW θ ea ad n g b r V) := by
  refine z_cI (by decide) rfl rfl (Nat.le_of_ble_eq_true rfl) (lv := [(0, .ref (ad 0)), (1, .int v)]) rfl (fun κ C E => ?_)
  refine z_iload_n C dX5_glass_0 rfl (show zlk _ 1 = some (.int v) from rfl) ?_
  refine z_callSi C (As := [.int v]) (rest := []) (c_X5_isGlass l θ _ v) gX5_glass_X5_isGlass rfl 1 (by decide +kernel) (by decide) (by decide) rfl rfl (Nat.le_of_ble_eq_true rfl) dX5_glass_1 ?_
  rintro _ _ ⟨rfl, rfl⟩
  refine z_if_eqB C 19 dX5_glass_4 (by decide) (fun _ => ?_) (fun h => absurd h (by rw [hv]; decide))
  refine z_ldc C (v := (-1000000001)) (by decide +kernel) dX5_glass_19 ?_
  exact E _ _ _ _ (⟨rfl, rfl⟩) (rfl) dX5_glass_21

set_option maxHeartbeats 4000000 in
set_option maxRecDepth 100000 in
theorem c_X5_glass_2 (l : Launch) (θ : zH) (ea : Nat → Nat → Nat) (ad : Nat → Nat) (n : Nat → Nat) (g : Nat → Int32) (b : Nat → Bool) (r : Nat → Nat → Int32) (V : Nat → Ev) (v : Nat) (hv : v < 4) : cI l yX5_glass wsX5_glass 1 θ [.ref (ad 0), .int (nI v)] (CW θ ea ad n g b r V) (fun r0 Y => r0 = r 9 v ∧ Y = CW θ ea ad n g b r V) := by
  refine z_cI (by decide) rfl rfl (Nat.le_of_ble_eq_true rfl) (lv := [(0, .ref (ad 0)), (1, .int (nI v))]) rfl (fun κ C E => ?_)
  have hinX1 : ∀ w ∈ wsX10, w ∈ wsX5_glass := by decide +kernel
  have hinX5 : ∀ w ∈ wsX50, w ∈ wsX5_glass := by decide +kernel
  refine z_iload_n C dX5_glass_0 rfl (show zlk _ 1 = some (.int (nI v)) from rfl) ?_
  refine z_callSi C (As := [.int (nI v)]) (rest := []) (c_X5_isGlass l θ _ (nI v)) gX5_glass_X5_isGlass rfl 1 (by decide +kernel) (by decide) (by decide) rfl rfl (Nat.le_of_ble_eq_true rfl) dX5_glass_1 ?_
  rintro _ _ ⟨rfl, rfl⟩
  refine z_if_eqB C 19 dX5_glass_4 (by decide) (fun h => absurd h (by rw [okN_lt hv (by decide)]; decide)) (fun _ => ?_)
  refine z_aload_n C dX5_glass_7 rfl (show zlk _ 0 = some (.ref (ad 0)) from rfl) ?_
  refine z_get C hinX5 0 cc_0 rfl 2 (by decide) (by decide +kernel) cg_0_2 dX5_glass_8 ?_
  refine z_getN C (host := "GnatPortraits") hinX1 4 cc_4 rfl 10 (by decide) (by decide +kernel) cg_4_10 dX5_glass_11 ?_
  refine z_iload_n C dX5_glass_14 rfl (show zlk _ 1 = some (.int (nI v)) from rfl) ?_
  refine z_iald C (f := (r 9)) 20 ca_20 v rfl (by omega) (by decide) dX5_glass_15 ?_
  refine z_goto C 21 dX5_glass_16 (by decide) ?_
  exact E _ _ _ _ (⟨rfl, rfl⟩) (rfl) dX5_glass_21

set_option maxHeartbeats 4000000 in
set_option maxRecDepth 100000 in
theorem c_X5_seed_1 (l : Launch) (θ : zH) (ea : Nat → Nat → Nat) (ad : Nat → Nat) (n : Nat → Nat) (g : Nat → Int32) (b : Nat → Bool) (r : Nat → Nat → Int32) (V : Nat → Ev) (x : Int32) (hx : ¬ 0 ≤ x) : cI l yX5_seed wsX5_seed 0 θ [.ref (ad 0), .int x] (CW θ ea ad n g b r V) (fun r0 Y => r0 = (-1000000002) ∧ Y = CW θ ea ad n g b r V) := by
  refine z_cI (by decide) rfl rfl (Nat.le_of_ble_eq_true rfl) (lv := [(0, .ref (ad 0)), (1, .int x)]) rfl (fun κ C E => ?_)
  refine z_iload_n C dX5_seed_0 rfl (show zlk _ 1 = some (.int x) from rfl) ?_
  refine z_if_ge C 7 dX5_seed_1 (by decide) (fun h1n_1 => absurd h1n_1 (hx)) (fun h1n_1 => ?_)
  refine z_ldc C (v := (-1000000002)) (by decide +kernel) dX5_seed_4 ?_
  exact E _ _ _ _ (⟨rfl, rfl⟩) (rfl) dX5_seed_6

set_option maxHeartbeats 4000000 in
set_option maxRecDepth 100000 in
theorem c_X5_seed_2 (l : Launch) (θ : zH) (ea : Nat → Nat → Nat) (ad : Nat → Nat) (n : Nat → Nat) (g : Nat → Int32) (b : Nat → Bool) (r : Nat → Nat → Int32) (V : Nat → Ev) (v : Nat) (hv : v < 2 ^ 31) : cI l yX5_seed wsX5_seed 0 θ [.ref (ad 0), .int (nI v)] (CW θ ea ad n g b r V) (fun r0 Y => r0 = nI (n 0) ∧ Y = CW θ ea ad (cnv v (n 1) (n 2) (n 3) (n 4) (n 5) (n 6) (n 7) (n 8) (n 9) (n 10) (n 11) (n 12) (n 13) (n 14) (n 15) (n 16) (n 17) (n 18) (n 19) (n 20)) g b r V) := by
  refine z_cI (by decide) rfl rfl (Nat.le_of_ble_eq_true rfl) (lv := [(0, .ref (ad 0)), (1, .int (nI v))]) rfl (fun κ C E => ?_)
  have hinX5 : ∀ w ∈ wsX50, w ∈ wsX5_seed := by decide +kernel
  refine z_iload_n C dX5_seed_0 rfl (show zlk _ 1 = some (.int (nI v)) from rfl) ?_
  refine z_if_geN C 7 dX5_seed_1 (by decide) (by omega) ?_
  refine z_aload_n C dX5_seed_7 rfl (show zlk _ 0 = some (.ref (ad 0)) from rfl) ?_
  refine z_get C hinX5 0 cc_0 rfl 9 (by decide) (by decide +kernel) cg_0_9 dX5_seed_8 ?_
  refine z_istore_n C [(2, .int (nI (n 0))), (0, .ref (ad 0)), (1, .int (nI v))] dX5_seed_11 rfl (by decide) rfl ?_
  refine z_aload_n C dX5_seed_12 rfl (show zlk _ 0 = some (.ref (ad 0)) from rfl) ?_
  refine z_iload_n C dX5_seed_13 rfl (show zlk _ 1 = some (.int (nI v)) from rfl) ?_
  refine z_put C hinX5 tyX5 tyX5_ok nmX5 0 cc_0 rfl 9 (by decide) (by decide +kernel) rfl rfl rfl rfl (Nat.le_of_ble_eq_true rfl) _ cp_0_9 dX5_seed_14 ?_
  refine z_iload_n C dX5_seed_17 rfl (show zlk _ 2 = some (.int (nI (n 0))) from rfl) ?_
  exact E _ _ _ _ (⟨rfl, (cw_eq rfl rfl rfl rfl rfl rfl rfl rfl rfl rfl rfl rfl rfl rfl rfl rfl rfl rfl rfl rfl rfl rfl rfl rfl rfl rfl rfl rfl rfl rfl rfl rfl rfl rfl rfl rfl rfl rfl rfl rfl rfl rfl rfl rfl rfl rfl rfl rfl rfl rfl rfl)⟩) (rfl) dX5_seed_18

set_option maxHeartbeats 4000000 in
set_option maxRecDepth 100000 in
theorem c_X5_like_1 (l : Launch) (θ : zH) (ea : Nat → Nat → Nat) (ad : Nat → Nat) (n : Nat → Nat) (g : Nat → Int32) (b : Nat → Bool) (r : Nat → Nat → Int32) (V : Nat → Ev) (s set : Int32) (hS : n 10 ≤ 6) (hj : okN s (n 10) = false) : cI l yX5_like wsX5_like 2 θ [.ref (ad 0), .int s, .int set] (CW θ ea ad n g b r V) (fun r0 Y => r0 = (-1000000001) ∧ Y = CW θ ea ad n g b r V) := by
  refine z_cI (by decide) rfl rfl (Nat.le_of_ble_eq_true rfl) (lv := [(0, .ref (ad 0)), (1, .int s), (2, .int set)]) rfl (fun κ C E => ?_)
  refine z_aload_n C dX5_like_0 rfl (show zlk _ 0 = some (.ref (ad 0)) from rfl) ?_
  refine z_iload_n C dX5_like_1 rfl (show zlk _ 1 = some (.int s) from rfl) ?_
  refine z_callVi C (As := [.int s]) (rest := []) (c_X5_isSitter l θ ea ad n g b r V s (by omega)) gX5_like_X5_isSitter rfl 1 (by decide +kernel) (by decide) (by decide) 0 rfl rfl rfl rfl rfl (Nat.le_of_ble_eq_true rfl) dX5_like_2 ?_
  rintro _ _ ⟨rfl, rfl⟩
  refine z_if_neB C 11 dX5_like_5 (by decide) (fun h => absurd h (by rw [hj]; decide)) (fun _ => ?_)
  refine z_ldc C (v := (-1000000001)) (by decide +kernel) dX5_like_8 ?_
  exact E _ _ _ _ (⟨rfl, rfl⟩) (rfl) dX5_like_10

set_option maxHeartbeats 4000000 in
set_option maxRecDepth 100000 in
theorem c_X5_like_2 (l : Launch) (θ : zH) (ea : Nat → Nat → Nat) (ad : Nat → Nat) (n : Nat → Nat) (g : Nat → Int32) (b : Nat → Bool) (r : Nat → Nat → Int32) (V : Nat → Ev) (s set : Int32) (hS : n 10 ≤ 6) (hj : okN s (n 10) = true) (hs : okN set 1073741824 = false) : cI l yX5_like wsX5_like 2 θ [.ref (ad 0), .int s, .int set] (CW θ ea ad n g b r V) (fun r0 Y => r0 = (-1000000002) ∧ Y = CW θ ea ad n g b r V) := by
  refine z_cI (by decide) rfl rfl (Nat.le_of_ble_eq_true rfl) (lv := [(0, .ref (ad 0)), (1, .int s), (2, .int set)]) rfl (fun κ C E => ?_)
  refine z_aload_n C dX5_like_0 rfl (show zlk _ 0 = some (.ref (ad 0)) from rfl) ?_
  refine z_iload_n C dX5_like_1 rfl (show zlk _ 1 = some (.int s) from rfl) ?_
  refine z_callVi C (As := [.int s]) (rest := []) (c_X5_isSitter l θ ea ad n g b r V s (by omega)) gX5_like_X5_isSitter rfl 1 (by decide +kernel) (by decide) (by decide) 0 rfl rfl rfl rfl rfl (Nat.le_of_ble_eq_true rfl) dX5_like_2 ?_
  rintro _ _ ⟨rfl, rfl⟩
  refine z_if_neB C 11 dX5_like_5 (by decide) (fun _ => ?_) (fun h => absurd h (by rw [hj]; decide))
  refine z_iload_n C dX5_like_11 rfl (show zlk _ 2 = some (.int set) from rfl) ?_
  refine z_callSi C (As := [.int set]) (rest := []) (c_X5_isSetOfDots l θ _ set) gX5_like_X5_isSetOfDots rfl 1 (by decide +kernel) (by decide) (by decide) rfl rfl (Nat.le_of_ble_eq_true rfl) dX5_like_12 ?_
  rintro _ _ ⟨rfl, rfl⟩
  refine z_if_neB C 21 dX5_like_15 (by decide) (fun h => absurd h (by rw [hs]; decide)) (fun _ => ?_)
  refine z_ldc C (v := (-1000000002)) (by decide +kernel) dX5_like_18 ?_
  exact E _ _ _ _ (⟨rfl, rfl⟩) (rfl) dX5_like_20

set_option maxHeartbeats 4000000 in
set_option maxRecDepth 100000 in
theorem c_X5_like_3 (l : Launch) (θ : zH) (ea : Nat → Nat → Nat) (ad : Nat → Nat) (n : Nat → Nat) (g : Nat → Int32) (b : Nat → Bool) (r : Nat → Nat → Int32) (V : Nat → Ev) (j : Nat) (set : Int32) (hS : n 10 ≤ 6) (hj : j < n 10) (hs : okN set 1073741824 = true) : cI l yX5_like wsX5_like 2 θ [.ref (ad 0), .int (nI j), .int set] (CW θ ea ad n g b r V) (fun r0 Y => r0 = nI 30 - bcn (r 4 j ^^^ set) ∧ Y = CW θ ea ad n g b r V) := by
  refine z_cI (by decide) rfl rfl (Nat.le_of_ble_eq_true rfl) (lv := [(0, .ref (ad 0)), (1, .int (nI j)), (2, .int set)]) rfl (fun κ C E => ?_)
  have hinX0 : ∀ w ∈ wsX00, w ∈ wsX5_like := by decide +kernel
  have hinX5 : ∀ w ∈ wsX50, w ∈ wsX5_like := by decide +kernel
  refine z_aload_n C dX5_like_0 rfl (show zlk _ 0 = some (.ref (ad 0)) from rfl) ?_
  refine z_iload_n C dX5_like_1 rfl (show zlk _ 1 = some (.int (nI j)) from rfl) ?_
  refine z_callVi C (As := [.int (nI j)]) (rest := []) (c_X5_isSitter l θ ea ad n g b r V (nI j) (by omega)) gX5_like_X5_isSitter rfl 1 (by decide +kernel) (by decide) (by decide) 0 rfl rfl rfl rfl rfl (Nat.le_of_ble_eq_true rfl) dX5_like_2 ?_
  rintro _ _ ⟨rfl, rfl⟩
  refine z_if_neB C 11 dX5_like_5 (by decide) (fun _ => ?_) (fun h => absurd h (by rw [okN_lt hj (by omega)]; decide))
  refine z_iload_n C dX5_like_11 rfl (show zlk _ 2 = some (.int set) from rfl) ?_
  refine z_callSi C (As := [.int set]) (rest := []) (c_X5_isSetOfDots l θ _ set) gX5_like_X5_isSetOfDots rfl 1 (by decide +kernel) (by decide) (by decide) rfl rfl (Nat.le_of_ble_eq_true rfl) dX5_like_12 ?_
  rintro _ _ ⟨rfl, rfl⟩
  refine z_if_neB C 21 dX5_like_15 (by decide) (fun _ => ?_) (fun h => absurd h (by rw [hs]; decide))
  refine z_aload_n C dX5_like_21 rfl (show zlk _ 0 = some (.ref (ad 0)) from rfl) ?_
  refine z_get C hinX5 0 cc_0 rfl 1 (by decide) (by decide +kernel) cg_0_1 dX5_like_22 ?_
  refine z_getN C (host := "GnatPortraits") hinX0 3 cc_3 rfl 5 (by decide) (by decide +kernel) cg_3_5 dX5_like_25 ?_
  refine z_iload_n C dX5_like_28 rfl (show zlk _ 1 = some (.int (nI j)) from rfl) ?_
  refine z_iald C (f := (r 4)) 15 ca_15 j rfl (by omega) (by decide) dX5_like_29 ?_
  refine z_iload_n C dX5_like_30 rfl (show zlk _ 2 = some (.int set) from rfl) ?_
  refine z_callSi C (As := [.int ((r 4) j), .int set]) (rest := []) (c_X5_likeness l θ _ ((r 4) j) set) gX5_like_X5_likeness rfl 2 (by decide +kernel) (by decide) (by decide) rfl rfl (Nat.le_of_ble_eq_true rfl) dX5_like_31 ?_
  rintro _ _ ⟨rfl, rfl⟩
  exact E _ _ _ _ (⟨rfl, rfl⟩) (rfl) dX5_like_34

set_option maxHeartbeats 4000000 in
set_option maxRecDepth 100000 in
theorem c_X5_seenAs_1 (l : Launch) (θ : zH) (ea : Nat → Nat → Nat) (ad : Nat → Nat) (n : Nat → Nat) (g : Nat → Int32) (b : Nat → Bool) (r : Nat → Nat → Int32) (V : Nat → Ev) (set : Int32) (hs : okN set 1073741824 = false) : cI l yX5_seenAs wsX5_seenAs 2 θ [.ref (ad 0), .int set] (CW θ ea ad n g b r V) (fun r0 Y => r0 = (-1000000002) ∧ Y = CW θ ea ad n g b r V) := by
  refine z_cI (by decide) rfl rfl (Nat.le_of_ble_eq_true rfl) (lv := [(0, .ref (ad 0)), (1, .int set)]) rfl (fun κ C E => ?_)
  refine z_iload_n C dX5_seenAs_0 rfl (show zlk _ 1 = some (.int set) from rfl) ?_
  refine z_callSi C (As := [.int set]) (rest := []) (c_X5_isSetOfDots l θ _ set) gX5_seenAs_X5_isSetOfDots rfl 1 (by decide +kernel) (by decide) (by decide) rfl rfl (Nat.le_of_ble_eq_true rfl) dX5_seenAs_1 ?_
  rintro _ _ ⟨rfl, rfl⟩
  refine z_if_eqB C 17 dX5_seenAs_4 (by decide) (fun _ => ?_) (fun h => absurd h (by rw [hs]; decide))
  refine z_ldc C (v := (-1000000002)) (by decide +kernel) dX5_seenAs_17 ?_
  exact E _ _ _ _ (⟨rfl, rfl⟩) (rfl) dX5_seenAs_19

set_option maxHeartbeats 4000000 in
set_option maxRecDepth 100000 in
theorem c_X5_seenAs_2 (l : Launch) (θ : zH) (ea : Nat → Nat → Nat) (ad : Nat → Nat) (n : Nat → Nat) (g : Nat → Int32) (b : Nat → Bool) (r : Nat → Nat → Int32) (V : Nat → Ev) (set : Int32) (hS : n 10 ≤ 6) (hs : okN set 1073741824 = true) : cI l yX5_seenAs wsX5_seenAs 2 θ [.ref (ad 0), .int set] (CW θ ea ad n g b r V) (fun r0 Y => r0 = (k_ml (r 4) set (nI 1073741823) (n 10)).1 ∧ Y = CW θ ea ad n g b r V) := by
  refine z_cI (by decide) rfl rfl (Nat.le_of_ble_eq_true rfl) (lv := [(0, .ref (ad 0)), (1, .int set)]) rfl (fun κ C E => ?_)
  refine z_iload_n C dX5_seenAs_0 rfl (show zlk _ 1 = some (.int set) from rfl) ?_
  refine z_callSi C (As := [.int set]) (rest := []) (c_X5_isSetOfDots l θ _ set) gX5_seenAs_X5_isSetOfDots rfl 1 (by decide +kernel) (by decide) (by decide) rfl rfl (Nat.le_of_ble_eq_true rfl) dX5_seenAs_1 ?_
  rintro _ _ ⟨rfl, rfl⟩
  refine z_if_eqB C 17 dX5_seenAs_4 (by decide) (fun h => absurd h (by rw [hs]; decide)) (fun _ => ?_)
  refine z_aload_n C dX5_seenAs_7 rfl (show zlk _ 0 = some (.ref (ad 0)) from rfl) ?_
  refine z_iload_n C dX5_seenAs_8 rfl (show zlk _ 1 = some (.int set) from rfl) ?_
  refine z_ldc C (v := 1073741823) (by decide +kernel) dX5_seenAs_9 ?_
  refine z_top (v' := .int (nI 1073741823)) rfl ?_
  refine z_callVi C (As := [.int set, .int (nI 1073741823)]) (rest := []) (c_X5_mostLike l θ ea ad n g b r V set (nI 1073741823) hS) gX5_seenAs_X5_mostLike rfl 2 (by decide +kernel) (by decide) (by decide) 0 rfl rfl rfl rfl rfl (Nat.le_of_ble_eq_true rfl) dX5_seenAs_11 ?_
  rintro _ _ ⟨rfl, rfl⟩
  refine z_goto C 19 dX5_seenAs_14 (by decide) ?_
  exact E _ _ _ _ (⟨rfl, rfl⟩) (rfl) dX5_seenAs_19

set_option maxHeartbeats 4000000 in
set_option maxRecDepth 100000 in
theorem c_X5_apart_1 (l : Launch) (θ : zH) (ea : Nat → Nat → Nat) (ad : Nat → Nat) (n : Nat → Nat) (g : Nat → Int32) (b : Nat → Bool) (r : Nat → Nat → Int32) (V : Nat → Ev) (s q x : Int32) (hS : n 10 ≤ 6) (hj : okN s (n 10) = false) : cI l yX5_apart wsX5_apart 2 θ [.ref (ad 0), .int s, .int q, .int x] (CW θ ea ad n g b r V) (fun r0 Y => r0 = (-1000000001) ∧ Y = CW θ ea ad n g b r V) := by
  refine z_cI (by decide) rfl rfl (Nat.le_of_ble_eq_true rfl) (lv := [(0, .ref (ad 0)), (1, .int s), (2, .int q), (3, .int x)]) rfl (fun κ C E => ?_)
  refine z_aload_n C dX5_apart_0 rfl (show zlk _ 0 = some (.ref (ad 0)) from rfl) ?_
  refine z_iload_n C dX5_apart_1 rfl (show zlk _ 1 = some (.int s) from rfl) ?_
  refine z_callVi C (As := [.int s]) (rest := []) (c_X5_isSitter l θ ea ad n g b r V s (by omega)) gX5_apart_X5_isSitter rfl 1 (by decide +kernel) (by decide) (by decide) 0 rfl rfl rfl rfl rfl (Nat.le_of_ble_eq_true rfl) dX5_apart_2 ?_
  rintro _ _ ⟨rfl, rfl⟩
  refine z_if_eqB C 21 dX5_apart_5 (by decide) (fun _ => ?_) (fun h => absurd h (by rw [hj]; decide))
  refine z_ldc C (v := (-1000000001)) (by decide +kernel) dX5_apart_21 ?_
  exact E _ _ _ _ (⟨rfl, rfl⟩) (rfl) dX5_apart_23

set_option maxHeartbeats 4000000 in
set_option maxRecDepth 100000 in
theorem c_X5_apart_2 (l : Launch) (θ : zH) (ea : Nat → Nat → Nat) (ad : Nat → Nat) (n : Nat → Nat) (g : Nat → Int32) (b : Nat → Bool) (r : Nat → Nat → Int32) (V : Nat → Ev) (s q x : Int32) (hS : n 10 ≤ 6) (hj : okN s (n 10) = true) (hq : okN q (n 10) = false) : cI l yX5_apart wsX5_apart 2 θ [.ref (ad 0), .int s, .int q, .int x] (CW θ ea ad n g b r V) (fun r0 Y => r0 = (-1000000001) ∧ Y = CW θ ea ad n g b r V) := by
  refine z_cI (by decide) rfl rfl (Nat.le_of_ble_eq_true rfl) (lv := [(0, .ref (ad 0)), (1, .int s), (2, .int q), (3, .int x)]) rfl (fun κ C E => ?_)
  refine z_aload_n C dX5_apart_0 rfl (show zlk _ 0 = some (.ref (ad 0)) from rfl) ?_
  refine z_iload_n C dX5_apart_1 rfl (show zlk _ 1 = some (.int s) from rfl) ?_
  refine z_callVi C (As := [.int s]) (rest := []) (c_X5_isSitter l θ ea ad n g b r V s (by omega)) gX5_apart_X5_isSitter rfl 1 (by decide +kernel) (by decide) (by decide) 0 rfl rfl rfl rfl rfl (Nat.le_of_ble_eq_true rfl) dX5_apart_2 ?_
  rintro _ _ ⟨rfl, rfl⟩
  refine z_if_eqB C 21 dX5_apart_5 (by decide) (fun h => absurd h (by rw [hj]; decide)) (fun _ => ?_)
  refine z_aload_n C dX5_apart_8 rfl (show zlk _ 0 = some (.ref (ad 0)) from rfl) ?_
  refine z_iload_n C dX5_apart_9 rfl (show zlk _ 2 = some (.int q) from rfl) ?_
  refine z_callVi C (As := [.int q]) (rest := []) (c_X5_isSitter l θ ea ad n g b r V q (by omega)) gX5_apart_X5_isSitter rfl 1 (by decide +kernel) (by decide) (by decide) 0 rfl rfl rfl rfl rfl (Nat.le_of_ble_eq_true rfl) dX5_apart_10 ?_
  rintro _ _ ⟨rfl, rfl⟩
  refine z_if_eqB C 21 dX5_apart_13 (by decide) (fun _ => ?_) (fun h => absurd h (by rw [hq]; decide))
  refine z_ldc C (v := (-1000000001)) (by decide +kernel) dX5_apart_21 ?_
  exact E _ _ _ _ (⟨rfl, rfl⟩) (rfl) dX5_apart_23

set_option maxHeartbeats 4000000 in
set_option maxRecDepth 100000 in
theorem c_X5_apart_3 (l : Launch) (θ : zH) (ea : Nat → Nat → Nat) (ad : Nat → Nat) (n : Nat → Nat) (g : Nat → Int32) (b : Nat → Bool) (r : Nat → Nat → Int32) (V : Nat → Ev) (s x : Int32) (hS : n 10 ≤ 6) (hj : okN s (n 10) = true) : cI l yX5_apart wsX5_apart 2 θ [.ref (ad 0), .int s, .int s, .int x] (CW θ ea ad n g b r V) (fun r0 Y => r0 = (-1000000001) ∧ Y = CW θ ea ad n g b r V) := by
  refine z_cI (by decide) rfl rfl (Nat.le_of_ble_eq_true rfl) (lv := [(0, .ref (ad 0)), (1, .int s), (2, .int s), (3, .int x)]) rfl (fun κ C E => ?_)
  refine z_aload_n C dX5_apart_0 rfl (show zlk _ 0 = some (.ref (ad 0)) from rfl) ?_
  refine z_iload_n C dX5_apart_1 rfl (show zlk _ 1 = some (.int s) from rfl) ?_
  refine z_callVi C (As := [.int s]) (rest := []) (c_X5_isSitter l θ ea ad n g b r V s (by omega)) gX5_apart_X5_isSitter rfl 1 (by decide +kernel) (by decide) (by decide) 0 rfl rfl rfl rfl rfl (Nat.le_of_ble_eq_true rfl) dX5_apart_2 ?_
  rintro _ _ ⟨rfl, rfl⟩
  refine z_if_eqB C 21 dX5_apart_5 (by decide) (fun h => absurd h (by rw [hj]; decide)) (fun _ => ?_)
  refine z_aload_n C dX5_apart_8 rfl (show zlk _ 0 = some (.ref (ad 0)) from rfl) ?_
  refine z_iload_n C dX5_apart_9 rfl (show zlk _ 2 = some (.int s) from rfl) ?_
  refine z_callVi C (As := [.int s]) (rest := []) (c_X5_isSitter l θ ea ad n g b r V s (by omega)) gX5_apart_X5_isSitter rfl 1 (by decide +kernel) (by decide) (by decide) 0 rfl rfl rfl rfl rfl (Nat.le_of_ble_eq_true rfl) dX5_apart_10 ?_
  rintro _ _ ⟨rfl, rfl⟩
  refine z_if_eqB C 21 dX5_apart_13 (by decide) (fun h => absurd h (by rw [hj]; decide)) (fun _ => ?_)
  refine z_iload_n C dX5_apart_16 rfl (show zlk _ 1 = some (.int s) from rfl) ?_
  refine z_iload_n C dX5_apart_17 rfl (show zlk _ 2 = some (.int s) from rfl) ?_
  refine z_icmp_ne C 24 dX5_apart_18 (by decide) (fun h18n_1 => absurd h18n_1 (fun z => z rfl)) (fun h18n_1 => ?_)
  refine z_ldc C (v := (-1000000001)) (by decide +kernel) dX5_apart_21 ?_
  exact E _ _ _ _ (⟨rfl, rfl⟩) (rfl) dX5_apart_23

set_option maxHeartbeats 4000000 in
set_option maxRecDepth 100000 in
theorem c_X5_apart_40 (l : Launch) (θ : zH) (ea : Nat → Nat → Nat) (ad : Nat → Nat) (n : Nat → Nat) (g : Nat → Int32) (b : Nat → Bool) (r : Nat → Nat → Int32) (V : Nat → Ev) (j q : Nat) (hS : n 10 ≤ 6) (hj : j < n 10) (hq : q < n 10) (hne : ¬ j = q) : cI l yX5_apart wsX5_apart 2 θ [.ref (ad 0), .int (nI j), .int (nI q), .int (nI 0)] (CW θ ea ad n g b r V) (fun r0 Y => r0 = r 4 j ^^^ r 4 q ∧ Y = CW θ ea ad n g b r V) := by
  refine z_cI (by decide) rfl rfl (Nat.le_of_ble_eq_true rfl) (lv := [(0, .ref (ad 0)), (1, .int (nI j)), (2, .int (nI q)), (3, .int (nI 0))]) rfl (fun κ C E => ?_)
  have hinX0 : ∀ w ∈ wsX00, w ∈ wsX5_apart := by decide +kernel
  have hinX5 : ∀ w ∈ wsX50, w ∈ wsX5_apart := by decide +kernel
  refine z_aload_n C dX5_apart_0 rfl (show zlk _ 0 = some (.ref (ad 0)) from rfl) ?_
  refine z_iload_n C dX5_apart_1 rfl (show zlk _ 1 = some (.int (nI j)) from rfl) ?_
  refine z_callVi C (As := [.int (nI j)]) (rest := []) (c_X5_isSitter l θ ea ad n g b r V (nI j) (by omega)) gX5_apart_X5_isSitter rfl 1 (by decide +kernel) (by decide) (by decide) 0 rfl rfl rfl rfl rfl (Nat.le_of_ble_eq_true rfl) dX5_apart_2 ?_
  rintro _ _ ⟨rfl, rfl⟩
  refine z_if_eqB C 21 dX5_apart_5 (by decide) (fun h => absurd h (by rw [okN_lt hj (by omega)]; decide)) (fun _ => ?_)
  refine z_aload_n C dX5_apart_8 rfl (show zlk _ 0 = some (.ref (ad 0)) from rfl) ?_
  refine z_iload_n C dX5_apart_9 rfl (show zlk _ 2 = some (.int (nI q)) from rfl) ?_
  refine z_callVi C (As := [.int (nI q)]) (rest := []) (c_X5_isSitter l θ ea ad n g b r V (nI q) (by omega)) gX5_apart_X5_isSitter rfl 1 (by decide +kernel) (by decide) (by decide) 0 rfl rfl rfl rfl rfl (Nat.le_of_ble_eq_true rfl) dX5_apart_10 ?_
  rintro _ _ ⟨rfl, rfl⟩
  refine z_if_eqB C 21 dX5_apart_13 (by decide) (fun h => absurd h (by rw [okN_lt hq (by omega)]; decide)) (fun _ => ?_)
  refine z_iload_n C dX5_apart_16 rfl (show zlk _ 1 = some (.int (nI j)) from rfl) ?_
  refine z_iload_n C dX5_apart_17 rfl (show zlk _ 2 = some (.int (nI q)) from rfl) ?_
  refine z_icmp_neT C 24 dX5_apart_18 (by decide) (by omega) (by omega) (hne) ?_
  refine z_aload_n C dX5_apart_24 rfl (show zlk _ 0 = some (.ref (ad 0)) from rfl) ?_
  refine z_get C hinX5 0 cc_0 rfl 1 (by decide) (by decide +kernel) cg_0_1 dX5_apart_25 ?_
  refine z_getN C (host := "GnatPortraits") hinX0 3 cc_3 rfl 5 (by decide) (by decide +kernel) cg_3_5 dX5_apart_28 ?_
  refine z_iload_n C dX5_apart_31 rfl (show zlk _ 1 = some (.int (nI j)) from rfl) ?_
  refine z_iald C (f := (r 4)) 15 ca_15 j rfl (by omega) (by decide) dX5_apart_32 ?_
  refine z_aload_n C dX5_apart_33 rfl (show zlk _ 0 = some (.ref (ad 0)) from rfl) ?_
  refine z_get C hinX5 0 cc_0 rfl 1 (by decide) (by decide +kernel) cg_0_1 dX5_apart_34 ?_
  refine z_getN C (host := "GnatPortraits") hinX0 3 cc_3 rfl 5 (by decide) (by decide +kernel) cg_3_5 dX5_apart_37 ?_
  refine z_iload_n C dX5_apart_40 rfl (show zlk _ 2 = some (.int (nI q)) from rfl) ?_
  refine z_iald C (f := (r 4)) 15 ca_15 q rfl (by omega) (by decide) dX5_apart_41 ?_
  refine z_ixor C dX5_apart_42 ?_
  refine z_istore C [(4, .int (((r 4) j) ^^^ ((r 4) q))), (0, .ref (ad 0)), (1, .int (nI j)), (2, .int (nI q)), (3, .int (nI 0))] dX5_apart_43 (by decide) rfl ?_
  refine z_iload_n C dX5_apart_45 rfl (show zlk _ 3 = some (.int (nI 0)) from rfl) ?_
  refine z_tableIn C 72 dX5_apart_46 (by decide) (by decide) (off := 26) (by decide) (by decide) ?_
  refine z_iload C dX5_apart_72 (show zlk _ 4 = some (.int (((r 4) j) ^^^ ((r 4) q))) from rfl) ?_
  exact E _ _ _ _ (⟨rfl, rfl⟩) (rfl) dX5_apart_74

set_option maxHeartbeats 4000000 in
set_option maxRecDepth 100000 in
theorem c_X5_apart_41 (l : Launch) (θ : zH) (ea : Nat → Nat → Nat) (ad : Nat → Nat) (n : Nat → Nat) (g : Nat → Int32) (b : Nat → Bool) (r : Nat → Nat → Int32) (V : Nat → Ev) (j q : Nat) (hS : n 10 ≤ 6) (hj : j < n 10) (hq : q < n 10) (hne : ¬ j = q) : cI l yX5_apart wsX5_apart 2 θ [.ref (ad 0), .int (nI j), .int (nI q), .int (nI 1)] (CW θ ea ad n g b r V) (fun r0 Y => r0 = bcn (r 4 j ^^^ r 4 q) ∧ Y = CW θ ea ad n g b r V) := by
  refine z_cI (by decide) rfl rfl (Nat.le_of_ble_eq_true rfl) (lv := [(0, .ref (ad 0)), (1, .int (nI j)), (2, .int (nI q)), (3, .int (nI 1))]) rfl (fun κ C E => ?_)
  have hinX0 : ∀ w ∈ wsX00, w ∈ wsX5_apart := by decide +kernel
  have hinX5 : ∀ w ∈ wsX50, w ∈ wsX5_apart := by decide +kernel
  refine z_aload_n C dX5_apart_0 rfl (show zlk _ 0 = some (.ref (ad 0)) from rfl) ?_
  refine z_iload_n C dX5_apart_1 rfl (show zlk _ 1 = some (.int (nI j)) from rfl) ?_
  refine z_callVi C (As := [.int (nI j)]) (rest := []) (c_X5_isSitter l θ ea ad n g b r V (nI j) (by omega)) gX5_apart_X5_isSitter rfl 1 (by decide +kernel) (by decide) (by decide) 0 rfl rfl rfl rfl rfl (Nat.le_of_ble_eq_true rfl) dX5_apart_2 ?_
  rintro _ _ ⟨rfl, rfl⟩
  refine z_if_eqB C 21 dX5_apart_5 (by decide) (fun h => absurd h (by rw [okN_lt hj (by omega)]; decide)) (fun _ => ?_)
  refine z_aload_n C dX5_apart_8 rfl (show zlk _ 0 = some (.ref (ad 0)) from rfl) ?_
  refine z_iload_n C dX5_apart_9 rfl (show zlk _ 2 = some (.int (nI q)) from rfl) ?_
  refine z_callVi C (As := [.int (nI q)]) (rest := []) (c_X5_isSitter l θ ea ad n g b r V (nI q) (by omega)) gX5_apart_X5_isSitter rfl 1 (by decide +kernel) (by decide) (by decide) 0 rfl rfl rfl rfl rfl (Nat.le_of_ble_eq_true rfl) dX5_apart_10 ?_
  rintro _ _ ⟨rfl, rfl⟩
  refine z_if_eqB C 21 dX5_apart_13 (by decide) (fun h => absurd h (by rw [okN_lt hq (by omega)]; decide)) (fun _ => ?_)
  refine z_iload_n C dX5_apart_16 rfl (show zlk _ 1 = some (.int (nI j)) from rfl) ?_
  refine z_iload_n C dX5_apart_17 rfl (show zlk _ 2 = some (.int (nI q)) from rfl) ?_
  refine z_icmp_neT C 24 dX5_apart_18 (by decide) (by omega) (by omega) (hne) ?_
  refine z_aload_n C dX5_apart_24 rfl (show zlk _ 0 = some (.ref (ad 0)) from rfl) ?_
  refine z_get C hinX5 0 cc_0 rfl 1 (by decide) (by decide +kernel) cg_0_1 dX5_apart_25 ?_
  refine z_getN C (host := "GnatPortraits") hinX0 3 cc_3 rfl 5 (by decide) (by decide +kernel) cg_3_5 dX5_apart_28 ?_
  refine z_iload_n C dX5_apart_31 rfl (show zlk _ 1 = some (.int (nI j)) from rfl) ?_
  refine z_iald C (f := (r 4)) 15 ca_15 j rfl (by omega) (by decide) dX5_apart_32 ?_
  refine z_aload_n C dX5_apart_33 rfl (show zlk _ 0 = some (.ref (ad 0)) from rfl) ?_
  refine z_get C hinX5 0 cc_0 rfl 1 (by decide) (by decide +kernel) cg_0_1 dX5_apart_34 ?_
  refine z_getN C (host := "GnatPortraits") hinX0 3 cc_3 rfl 5 (by decide) (by decide +kernel) cg_3_5 dX5_apart_37 ?_
  refine z_iload_n C dX5_apart_40 rfl (show zlk _ 2 = some (.int (nI q)) from rfl) ?_
  refine z_iald C (f := (r 4)) 15 ca_15 q rfl (by omega) (by decide) dX5_apart_41 ?_
  refine z_ixor C dX5_apart_42 ?_
  refine z_istore C [(4, .int (((r 4) j) ^^^ ((r 4) q))), (0, .ref (ad 0)), (1, .int (nI j)), (2, .int (nI q)), (3, .int (nI 1))] dX5_apart_43 (by decide) rfl ?_
  refine z_iload_n C dX5_apart_45 rfl (show zlk _ 3 = some (.int (nI 1)) from rfl) ?_
  refine z_tableIn C 75 dX5_apart_46 (by decide) (by decide) (off := 29) (by decide) (by decide) ?_
  refine z_iload C dX5_apart_75 (show zlk _ 4 = some (.int (((r 4) j) ^^^ ((r 4) q))) from rfl) ?_
  refine z_callSi C (As := [.int (((r 4) j) ^^^ ((r 4) q))]) (rest := []) (c_J6_bitCount_0f7a4 l θ _ (((r 4) j) ^^^ ((r 4) q))) gX5_apart_J6_bitCount_0f7a4 rfl 1 (by decide +kernel) (by decide) (by decide) rfl rfl (Nat.le_of_ble_eq_true rfl) dX5_apart_77 ?_
  rintro _ _ ⟨rfl, rfl⟩
  exact E _ _ _ _ (⟨rfl, rfl⟩) (rfl) dX5_apart_80

set_option maxHeartbeats 4000000 in
set_option maxRecDepth 100000 in
theorem c_X5_apart_42 (l : Launch) (θ : zH) (ea : Nat → Nat → Nat) (ad : Nat → Nat) (n : Nat → Nat) (g : Nat → Int32) (b : Nat → Bool) (r : Nat → Nat → Int32) (V : Nat → Ev) (j q : Nat) (hS : n 10 ≤ 6) (hj : j < n 10) (hq : q < n 10) (hne : ¬ j = q) : cI l yX5_apart wsX5_apart 2 θ [.ref (ad 0), .int (nI j), .int (nI q), .int (nI 2)] (CW θ ea ad n g b r V) (fun r0 Y => r0 = r 4 j &&& r 4 q ∧ Y = CW θ ea ad n g b r V) := by
  refine z_cI (by decide) rfl rfl (Nat.le_of_ble_eq_true rfl) (lv := [(0, .ref (ad 0)), (1, .int (nI j)), (2, .int (nI q)), (3, .int (nI 2))]) rfl (fun κ C E => ?_)
  have hinX0 : ∀ w ∈ wsX00, w ∈ wsX5_apart := by decide +kernel
  have hinX5 : ∀ w ∈ wsX50, w ∈ wsX5_apart := by decide +kernel
  refine z_aload_n C dX5_apart_0 rfl (show zlk _ 0 = some (.ref (ad 0)) from rfl) ?_
  refine z_iload_n C dX5_apart_1 rfl (show zlk _ 1 = some (.int (nI j)) from rfl) ?_
  refine z_callVi C (As := [.int (nI j)]) (rest := []) (c_X5_isSitter l θ ea ad n g b r V (nI j) (by omega)) gX5_apart_X5_isSitter rfl 1 (by decide +kernel) (by decide) (by decide) 0 rfl rfl rfl rfl rfl (Nat.le_of_ble_eq_true rfl) dX5_apart_2 ?_
  rintro _ _ ⟨rfl, rfl⟩
  refine z_if_eqB C 21 dX5_apart_5 (by decide) (fun h => absurd h (by rw [okN_lt hj (by omega)]; decide)) (fun _ => ?_)
  refine z_aload_n C dX5_apart_8 rfl (show zlk _ 0 = some (.ref (ad 0)) from rfl) ?_
  refine z_iload_n C dX5_apart_9 rfl (show zlk _ 2 = some (.int (nI q)) from rfl) ?_
  refine z_callVi C (As := [.int (nI q)]) (rest := []) (c_X5_isSitter l θ ea ad n g b r V (nI q) (by omega)) gX5_apart_X5_isSitter rfl 1 (by decide +kernel) (by decide) (by decide) 0 rfl rfl rfl rfl rfl (Nat.le_of_ble_eq_true rfl) dX5_apart_10 ?_
  rintro _ _ ⟨rfl, rfl⟩
  refine z_if_eqB C 21 dX5_apart_13 (by decide) (fun h => absurd h (by rw [okN_lt hq (by omega)]; decide)) (fun _ => ?_)
  refine z_iload_n C dX5_apart_16 rfl (show zlk _ 1 = some (.int (nI j)) from rfl) ?_
  refine z_iload_n C dX5_apart_17 rfl (show zlk _ 2 = some (.int (nI q)) from rfl) ?_
  refine z_icmp_neT C 24 dX5_apart_18 (by decide) (by omega) (by omega) (hne) ?_
  refine z_aload_n C dX5_apart_24 rfl (show zlk _ 0 = some (.ref (ad 0)) from rfl) ?_
  refine z_get C hinX5 0 cc_0 rfl 1 (by decide) (by decide +kernel) cg_0_1 dX5_apart_25 ?_
  refine z_getN C (host := "GnatPortraits") hinX0 3 cc_3 rfl 5 (by decide) (by decide +kernel) cg_3_5 dX5_apart_28 ?_
  refine z_iload_n C dX5_apart_31 rfl (show zlk _ 1 = some (.int (nI j)) from rfl) ?_
  refine z_iald C (f := (r 4)) 15 ca_15 j rfl (by omega) (by decide) dX5_apart_32 ?_
  refine z_aload_n C dX5_apart_33 rfl (show zlk _ 0 = some (.ref (ad 0)) from rfl) ?_
  refine z_get C hinX5 0 cc_0 rfl 1 (by decide) (by decide +kernel) cg_0_1 dX5_apart_34 ?_
  refine z_getN C (host := "GnatPortraits") hinX0 3 cc_3 rfl 5 (by decide) (by decide +kernel) cg_3_5 dX5_apart_37 ?_
  refine z_iload_n C dX5_apart_40 rfl (show zlk _ 2 = some (.int (nI q)) from rfl) ?_
  refine z_iald C (f := (r 4)) 15 ca_15 q rfl (by omega) (by decide) dX5_apart_41 ?_
  refine z_ixor C dX5_apart_42 ?_
  refine z_istore C [(4, .int (((r 4) j) ^^^ ((r 4) q))), (0, .ref (ad 0)), (1, .int (nI j)), (2, .int (nI q)), (3, .int (nI 2))] dX5_apart_43 (by decide) rfl ?_
  refine z_iload_n C dX5_apart_45 rfl (show zlk _ 3 = some (.int (nI 2)) from rfl) ?_
  refine z_tableIn C 81 dX5_apart_46 (by decide) (by decide) (off := 35) (by decide) (by decide) ?_
  refine z_aload_n C dX5_apart_81 rfl (show zlk _ 0 = some (.ref (ad 0)) from rfl) ?_
  refine z_get C hinX5 0 cc_0 rfl 1 (by decide) (by decide +kernel) cg_0_1 dX5_apart_82 ?_
  refine z_getN C (host := "GnatPortraits") hinX0 3 cc_3 rfl 5 (by decide) (by decide +kernel) cg_3_5 dX5_apart_85 ?_
  refine z_iload_n C dX5_apart_88 rfl (show zlk _ 1 = some (.int (nI j)) from rfl) ?_
  refine z_iald C (f := (r 4)) 15 ca_15 j rfl (by omega) (by decide) dX5_apart_89 ?_
  refine z_aload_n C dX5_apart_90 rfl (show zlk _ 0 = some (.ref (ad 0)) from rfl) ?_
  refine z_get C hinX5 0 cc_0 rfl 1 (by decide) (by decide +kernel) cg_0_1 dX5_apart_91 ?_
  refine z_getN C (host := "GnatPortraits") hinX0 3 cc_3 rfl 5 (by decide) (by decide +kernel) cg_3_5 dX5_apart_94 ?_
  refine z_iload_n C dX5_apart_97 rfl (show zlk _ 2 = some (.int (nI q)) from rfl) ?_
  refine z_iald C (f := (r 4)) 15 ca_15 q rfl (by omega) (by decide) dX5_apart_98 ?_
  refine z_iand C dX5_apart_99 ?_
  exact E _ _ _ _ (⟨rfl, rfl⟩) (rfl) dX5_apart_100

set_option maxHeartbeats 4000000 in
set_option maxRecDepth 100000 in
theorem c_X5_apart_5 (l : Launch) (θ : zH) (ea : Nat → Nat → Nat) (ad : Nat → Nat) (n : Nat → Nat) (g : Nat → Int32) (b : Nat → Bool) (r : Nat → Nat → Int32) (V : Nat → Ev) (j q : Nat) (x : Int32) (hS : n 10 ≤ 6) (hj : j < n 10) (hq : q < n 10) (hne : ¬ j = q) (hx : okN x 3 = false) : cI l yX5_apart wsX5_apart 2 θ [.ref (ad 0), .int (nI j), .int (nI q), .int x] (CW θ ea ad n g b r V) (fun r0 Y => r0 = (-1000000002) ∧ Y = CW θ ea ad n g b r V) := by
  refine z_cI (by decide) rfl rfl (Nat.le_of_ble_eq_true rfl) (lv := [(0, .ref (ad 0)), (1, .int (nI j)), (2, .int (nI q)), (3, .int x)]) rfl (fun κ C E => ?_)
  have hinX0 : ∀ w ∈ wsX00, w ∈ wsX5_apart := by decide +kernel
  have hinX5 : ∀ w ∈ wsX50, w ∈ wsX5_apart := by decide +kernel
  refine z_aload_n C dX5_apart_0 rfl (show zlk _ 0 = some (.ref (ad 0)) from rfl) ?_
  refine z_iload_n C dX5_apart_1 rfl (show zlk _ 1 = some (.int (nI j)) from rfl) ?_
  refine z_callVi C (As := [.int (nI j)]) (rest := []) (c_X5_isSitter l θ ea ad n g b r V (nI j) (by omega)) gX5_apart_X5_isSitter rfl 1 (by decide +kernel) (by decide) (by decide) 0 rfl rfl rfl rfl rfl (Nat.le_of_ble_eq_true rfl) dX5_apart_2 ?_
  rintro _ _ ⟨rfl, rfl⟩
  refine z_if_eqB C 21 dX5_apart_5 (by decide) (fun h => absurd h (by rw [okN_lt hj (by omega)]; decide)) (fun _ => ?_)
  refine z_aload_n C dX5_apart_8 rfl (show zlk _ 0 = some (.ref (ad 0)) from rfl) ?_
  refine z_iload_n C dX5_apart_9 rfl (show zlk _ 2 = some (.int (nI q)) from rfl) ?_
  refine z_callVi C (As := [.int (nI q)]) (rest := []) (c_X5_isSitter l θ ea ad n g b r V (nI q) (by omega)) gX5_apart_X5_isSitter rfl 1 (by decide +kernel) (by decide) (by decide) 0 rfl rfl rfl rfl rfl (Nat.le_of_ble_eq_true rfl) dX5_apart_10 ?_
  rintro _ _ ⟨rfl, rfl⟩
  refine z_if_eqB C 21 dX5_apart_13 (by decide) (fun h => absurd h (by rw [okN_lt hq (by omega)]; decide)) (fun _ => ?_)
  refine z_iload_n C dX5_apart_16 rfl (show zlk _ 1 = some (.int (nI j)) from rfl) ?_
  refine z_iload_n C dX5_apart_17 rfl (show zlk _ 2 = some (.int (nI q)) from rfl) ?_
  refine z_icmp_neT C 24 dX5_apart_18 (by decide) (by omega) (by omega) (hne) ?_
  refine z_aload_n C dX5_apart_24 rfl (show zlk _ 0 = some (.ref (ad 0)) from rfl) ?_
  refine z_get C hinX5 0 cc_0 rfl 1 (by decide) (by decide +kernel) cg_0_1 dX5_apart_25 ?_
  refine z_getN C (host := "GnatPortraits") hinX0 3 cc_3 rfl 5 (by decide) (by decide +kernel) cg_3_5 dX5_apart_28 ?_
  refine z_iload_n C dX5_apart_31 rfl (show zlk _ 1 = some (.int (nI j)) from rfl) ?_
  refine z_iald C (f := (r 4)) 15 ca_15 j rfl (by omega) (by decide) dX5_apart_32 ?_
  refine z_aload_n C dX5_apart_33 rfl (show zlk _ 0 = some (.ref (ad 0)) from rfl) ?_
  refine z_get C hinX5 0 cc_0 rfl 1 (by decide) (by decide +kernel) cg_0_1 dX5_apart_34 ?_
  refine z_getN C (host := "GnatPortraits") hinX0 3 cc_3 rfl 5 (by decide) (by decide +kernel) cg_3_5 dX5_apart_37 ?_
  refine z_iload_n C dX5_apart_40 rfl (show zlk _ 2 = some (.int (nI q)) from rfl) ?_
  refine z_iald C (f := (r 4)) 15 ca_15 q rfl (by omega) (by decide) dX5_apart_41 ?_
  refine z_ixor C dX5_apart_42 ?_
  refine z_istore C [(4, .int (((r 4) j) ^^^ ((r 4) q))), (0, .ref (ad 0)), (1, .int (nI j)), (2, .int (nI q)), (3, .int x)] dX5_apart_43 (by decide) rfl ?_
  refine z_iload_n C dX5_apart_45 rfl (show zlk _ 3 = some (.int x) from rfl) ?_
  refine z_tableOut C 101 dX5_apart_46 (okN_out (N := 2) hx) (by decide) ?_
  refine z_ldc C (v := (-1000000002)) (by decide +kernel) dX5_apart_101 ?_
  exact E _ _ _ _ (⟨rfl, rfl⟩) (rfl) dX5_apart_103

set_option maxHeartbeats 4000000 in
set_option maxRecDepth 100000 in
theorem c_X5_turned_1 (l : Launch) (θ : zH) (ea : Nat → Nat → Nat) (ad : Nat → Nat) (n : Nat → Nat) (g : Nat → Int32) (b : Nat → Bool) (r : Nat → Nat → Int32) (V : Nat → Ev) (set x : Int32) (hs : okN set 1073741824 = false) : cI l yX5_turned wsX5_turned 2 θ [.ref (ad 0), .int set, .int x] (CW θ ea ad n g b r V) (fun r0 Y => r0 = (-1000000002) ∧ Y = CW θ ea ad n g b r V) := by
  refine z_cI (by decide) rfl rfl (Nat.le_of_ble_eq_true rfl) (lv := [(0, .ref (ad 0)), (1, .int set), (2, .int x)]) rfl (fun κ C E => ?_)
  refine z_iload_n C dX5_turned_0 rfl (show zlk _ 1 = some (.int set) from rfl) ?_
  refine z_callSi C (As := [.int set]) (rest := []) (c_X5_isSetOfDots l θ _ set) gX5_turned_X5_isSetOfDots rfl 1 (by decide +kernel) (by decide) (by decide) rfl rfl (Nat.le_of_ble_eq_true rfl) dX5_turned_1 ?_
  rintro _ _ ⟨rfl, rfl⟩
  refine z_if_eqB C 16 dX5_turned_4 (by decide) (fun _ => ?_) (fun h => absurd h (by rw [hs]; decide))
  refine z_ldc C (v := (-1000000002)) (by decide +kernel) dX5_turned_16 ?_
  exact E _ _ _ _ (⟨rfl, rfl⟩) (rfl) dX5_turned_18

set_option maxHeartbeats 4000000 in
set_option maxRecDepth 100000 in
theorem c_X5_turned_2 (l : Launch) (θ : zH) (ea : Nat → Nat → Nat) (ad : Nat → Nat) (n : Nat → Nat) (g : Nat → Int32) (b : Nat → Bool) (r : Nat → Nat → Int32) (V : Nat → Ev) (set x : Int32) (hs : okN set 1073741824 = true) (hx : okN x 2 = false) : cI l yX5_turned wsX5_turned 2 θ [.ref (ad 0), .int set, .int x] (CW θ ea ad n g b r V) (fun r0 Y => r0 = (-1000000002) ∧ Y = CW θ ea ad n g b r V) := by
  refine z_cI (by decide) rfl rfl (Nat.le_of_ble_eq_true rfl) (lv := [(0, .ref (ad 0)), (1, .int set), (2, .int x)]) rfl (fun κ C E => ?_)
  refine z_iload_n C dX5_turned_0 rfl (show zlk _ 1 = some (.int set) from rfl) ?_
  refine z_callSi C (As := [.int set]) (rest := []) (c_X5_isSetOfDots l θ _ set) gX5_turned_X5_isSetOfDots rfl 1 (by decide +kernel) (by decide) (by decide) rfl rfl (Nat.le_of_ble_eq_true rfl) dX5_turned_1 ?_
  rintro _ _ ⟨rfl, rfl⟩
  refine z_if_eqB C 16 dX5_turned_4 (by decide) (fun h => absurd h (by rw [hs]; decide)) (fun _ => ?_)
  refine z_iload_n C dX5_turned_7 rfl (show zlk _ 2 = some (.int x) from rfl) ?_
  refine z_if_lt C 16 dX5_turned_8 (by decide) (fun h8t_1 => ?_) (fun h8n_1 => ?_)
  · refine z_ldc C (v := (-1000000002)) (by decide +kernel) dX5_turned_16 ?_
    exact E _ _ _ _ (⟨rfl, rfl⟩) (rfl) dX5_turned_18
  · refine z_iload_n C dX5_turned_11 rfl (show zlk _ 2 = some (.int x) from rfl) ?_
    refine z_iconst C (v := nI 1) dX5_turned_12 (by decide) ?_
    refine z_icmp_le C 19 dX5_turned_13 (by decide) (fun h13n_2 => absurd h13n_2 (okN_nle (N := 1) hx h8n_1 (by decide))) (fun h13n_2 => ?_)
    refine z_ldc C (v := (-1000000002)) (by decide +kernel) dX5_turned_16 ?_
    exact E _ _ _ _ (⟨rfl, rfl⟩) (rfl) dX5_turned_18

set_option maxHeartbeats 4000000 in
set_option maxRecDepth 100000 in
theorem c_X5_turned_30 (l : Launch) (θ : zH) (ea : Nat → Nat → Nat) (ad : Nat → Nat) (n : Nat → Nat) (g : Nat → Int32) (b : Nat → Bool) (r : Nat → Nat → Int32) (V : Nat → Ev) (set : Int32) (hs : okN set 1073741824 = true) : cI l yX5_turned wsX5_turned 2 θ [.ref (ad 0), .int set, .int (nI 0)] (CW θ ea ad n g b r V) (fun r0 Y => r0 = k_ho set 30 ∧ Y = CW θ ea ad n g b r V) := by
  refine z_cI (by decide) rfl rfl (Nat.le_of_ble_eq_true rfl) (lv := [(0, .ref (ad 0)), (1, .int set), (2, .int (nI 0))]) rfl (fun κ C E => ?_)
  refine z_iload_n C dX5_turned_0 rfl (show zlk _ 1 = some (.int set) from rfl) ?_
  refine z_callSi C (As := [.int set]) (rest := []) (c_X5_isSetOfDots l θ _ set) gX5_turned_X5_isSetOfDots rfl 1 (by decide +kernel) (by decide) (by decide) rfl rfl (Nat.le_of_ble_eq_true rfl) dX5_turned_1 ?_
  rintro _ _ ⟨rfl, rfl⟩
  refine z_if_eqB C 16 dX5_turned_4 (by decide) (fun h => absurd h (by rw [hs]; decide)) (fun _ => ?_)
  refine z_iload_n C dX5_turned_7 rfl (show zlk _ 2 = some (.int (nI 0)) from rfl) ?_
  refine z_if_ltN C 16 dX5_turned_8 (by decide) (by omega) ?_
  refine z_iload_n C dX5_turned_11 rfl (show zlk _ 2 = some (.int (nI 0)) from rfl) ?_
  refine z_iconst C (v := nI 1) dX5_turned_12 (by decide) ?_
  refine z_icmp_leT C 19 dX5_turned_13 (by decide) (by omega) (by omega) (by decide) ?_
  refine z_iload_n C dX5_turned_19 rfl (show zlk _ 2 = some (.int (nI 0)) from rfl) ?_
  refine z_if_neN C 30 dX5_turned_20 (by decide) (by decide) (fun h => absurd h (by decide)) (fun _ => ?_)
  refine z_iload_n C dX5_turned_23 rfl (show zlk _ 1 = some (.int set) from rfl) ?_
  refine z_callSi C (As := [.int set]) (rest := []) (c_X5_holesOf l θ _ set) gX5_turned_X5_holesOf rfl 1 (by decide +kernel) (by decide) (by decide) rfl rfl (Nat.le_of_ble_eq_true rfl) dX5_turned_24 ?_
  rintro _ _ ⟨rfl, rfl⟩
  refine z_goto C 34 dX5_turned_27 (by decide) ?_
  exact E _ _ _ _ (⟨rfl, rfl⟩) (rfl) dX5_turned_34

set_option maxHeartbeats 4000000 in
set_option maxRecDepth 100000 in
theorem c_X5_turned_31 (l : Launch) (θ : zH) (ea : Nat → Nat → Nat) (ad : Nat → Nat) (n : Nat → Nat) (g : Nat → Int32) (b : Nat → Bool) (r : Nat → Nat → Int32) (V : Nat → Ev) (set : Int32) (hs : okN set 1073741824 = true) : cI l yX5_turned wsX5_turned 2 θ [.ref (ad 0), .int set, .int (nI 1)] (CW θ ea ad n g b r V) (fun r0 Y => r0 = k_mi set 30 ∧ Y = CW θ ea ad n g b r V) := by
  refine z_cI (by decide) rfl rfl (Nat.le_of_ble_eq_true rfl) (lv := [(0, .ref (ad 0)), (1, .int set), (2, .int (nI 1))]) rfl (fun κ C E => ?_)
  refine z_iload_n C dX5_turned_0 rfl (show zlk _ 1 = some (.int set) from rfl) ?_
  refine z_callSi C (As := [.int set]) (rest := []) (c_X5_isSetOfDots l θ _ set) gX5_turned_X5_isSetOfDots rfl 1 (by decide +kernel) (by decide) (by decide) rfl rfl (Nat.le_of_ble_eq_true rfl) dX5_turned_1 ?_
  rintro _ _ ⟨rfl, rfl⟩
  refine z_if_eqB C 16 dX5_turned_4 (by decide) (fun h => absurd h (by rw [hs]; decide)) (fun _ => ?_)
  refine z_iload_n C dX5_turned_7 rfl (show zlk _ 2 = some (.int (nI 1)) from rfl) ?_
  refine z_if_ltN C 16 dX5_turned_8 (by decide) (by omega) ?_
  refine z_iload_n C dX5_turned_11 rfl (show zlk _ 2 = some (.int (nI 1)) from rfl) ?_
  refine z_iconst C (v := nI 1) dX5_turned_12 (by decide) ?_
  refine z_icmp_leT C 19 dX5_turned_13 (by decide) (by omega) (by omega) (by decide) ?_
  refine z_iload_n C dX5_turned_19 rfl (show zlk _ 2 = some (.int (nI 1)) from rfl) ?_
  refine z_if_neN C 30 dX5_turned_20 (by decide) (by decide) (fun _ => ?_) (fun h => absurd h (by decide))
  refine z_iload_n C dX5_turned_30 rfl (show zlk _ 1 = some (.int set) from rfl) ?_
  refine z_callSi C (As := [.int set]) (rest := []) (c_X5_mirrorOf l θ _ set) gX5_turned_X5_mirrorOf rfl 1 (by decide +kernel) (by decide) (by decide) rfl rfl (Nat.le_of_ble_eq_true rfl) dX5_turned_31 ?_
  rintro _ _ ⟨rfl, rfl⟩
  exact E _ _ _ _ (⟨rfl, rfl⟩) (rfl) dX5_turned_34

set_option maxHeartbeats 4000000 in
set_option maxRecDepth 100000 in
theorem c_X5_votes_1 (l : Launch) (θ : zH) (ea : Nat → Nat → Nat) (ad : Nat → Nat) (n : Nat → Nat) (g : Nat → Int32) (b : Nat → Bool) (r : Nat → Nat → Int32) (V : Nat → Ev) (set s : Int32) (hS : n 10 ≤ 6) (h1 : ¬ s = (-1)) (hj : okN s (n 10) = false) : cI l yX5_votes wsX5_votes 3 θ [.ref (ad 0), .int set, .int s] (CW θ ea ad n g b r V) (fun r0 Y => r0 = (-1000000001) ∧ Y = CW θ ea ad n g b r V) := by
  refine z_cI (by decide) rfl rfl (Nat.le_of_ble_eq_true rfl) (lv := [(0, .ref (ad 0)), (1, .int set), (2, .int s)]) rfl (fun κ C E => ?_)
  refine z_iload_n C dX5_votes_0 rfl (show zlk _ 2 = some (.int s) from rfl) ?_
  refine z_iconst C (v := (-1)) dX5_votes_1 (by decide) ?_
  refine z_icmp_eq C 16 dX5_votes_2 (by decide) (fun h2n_1 => absurd h2n_1 (h1)) (fun h2n_1 => ?_)
  refine z_aload_n C dX5_votes_5 rfl (show zlk _ 0 = some (.ref (ad 0)) from rfl) ?_
  refine z_iload_n C dX5_votes_6 rfl (show zlk _ 2 = some (.int s) from rfl) ?_
  refine z_callVi C (As := [.int s]) (rest := []) (c_X5_isSitter l θ ea ad n g b r V s (by omega)) gX5_votes_X5_isSitter rfl 1 (by decide +kernel) (by decide) (by decide) 0 rfl rfl rfl rfl rfl (Nat.le_of_ble_eq_true rfl) dX5_votes_7 ?_
  rintro _ _ ⟨rfl, rfl⟩
  refine z_if_neB C 16 dX5_votes_10 (by decide) (fun h => absurd h (by rw [hj]; decide)) (fun _ => ?_)
  refine z_ldc C (v := (-1000000001)) (by decide +kernel) dX5_votes_13 ?_
  exact E _ _ _ _ (⟨rfl, rfl⟩) (rfl) dX5_votes_15

set_option maxHeartbeats 4000000 in
set_option maxRecDepth 100000 in
theorem c_X5_votes_2 (l : Launch) (θ : zH) (ea : Nat → Nat → Nat) (ad : Nat → Nat) (n : Nat → Nat) (g : Nat → Int32) (b : Nat → Bool) (r : Nat → Nat → Int32) (V : Nat → Ev) (set s : Int32) (hS : n 10 ≤ 6) (h1 : ¬ s = (-1)) (hj : okN s (n 10) = true) (hs : okN set 1073741824 = false) : cI l yX5_votes wsX5_votes 3 θ [.ref (ad 0), .int set, .int s] (CW θ ea ad n g b r V) (fun r0 Y => r0 = (-1000000002) ∧ Y = CW θ ea ad n g b r V) := by
  refine z_cI (by decide) rfl rfl (Nat.le_of_ble_eq_true rfl) (lv := [(0, .ref (ad 0)), (1, .int set), (2, .int s)]) rfl (fun κ C E => ?_)
  refine z_iload_n C dX5_votes_0 rfl (show zlk _ 2 = some (.int s) from rfl) ?_
  refine z_iconst C (v := (-1)) dX5_votes_1 (by decide) ?_
  refine z_icmp_eq C 16 dX5_votes_2 (by decide) (fun h2n_1 => absurd h2n_1 (h1)) (fun h2n_1 => ?_)
  refine z_aload_n C dX5_votes_5 rfl (show zlk _ 0 = some (.ref (ad 0)) from rfl) ?_
  refine z_iload_n C dX5_votes_6 rfl (show zlk _ 2 = some (.int s) from rfl) ?_
  refine z_callVi C (As := [.int s]) (rest := []) (c_X5_isSitter l θ ea ad n g b r V s (by omega)) gX5_votes_X5_isSitter rfl 1 (by decide +kernel) (by decide) (by decide) 0 rfl rfl rfl rfl rfl (Nat.le_of_ble_eq_true rfl) dX5_votes_7 ?_
  rintro _ _ ⟨rfl, rfl⟩
  refine z_if_neB C 16 dX5_votes_10 (by decide) (fun _ => ?_) (fun h => absurd h (by rw [hj]; decide))
  refine z_iload_n C dX5_votes_16 rfl (show zlk _ 1 = some (.int set) from rfl) ?_
  refine z_callSi C (As := [.int set]) (rest := []) (c_X5_isSetOfDots l θ _ set) gX5_votes_X5_isSetOfDots rfl 1 (by decide +kernel) (by decide) (by decide) rfl rfl (Nat.le_of_ble_eq_true rfl) dX5_votes_17 ?_
  rintro _ _ ⟨rfl, rfl⟩
  refine z_if_neB C 26 dX5_votes_20 (by decide) (fun h => absurd h (by rw [hs]; decide)) (fun _ => ?_)
  refine z_ldc C (v := (-1000000002)) (by decide +kernel) dX5_votes_23 ?_
  exact E _ _ _ _ (⟨rfl, rfl⟩) (rfl) dX5_votes_25

set_option maxHeartbeats 4000000 in
set_option maxRecDepth 100000 in
theorem c_X5_votes_3 (l : Launch) (θ : zH) (ea : Nat → Nat → Nat) (ad : Nat → Nat) (n : Nat → Nat) (g : Nat → Int32) (b : Nat → Bool) (r : Nat → Nat → Int32) (V : Nat → Ev) (set : Int32) (hs : okN set 1073741824 = false) : cI l yX5_votes wsX5_votes 3 θ [.ref (ad 0), .int set, .int (-1)] (CW θ ea ad n g b r V) (fun r0 Y => r0 = (-1000000002) ∧ Y = CW θ ea ad n g b r V) := by
  refine z_cI (by decide) rfl rfl (Nat.le_of_ble_eq_true rfl) (lv := [(0, .ref (ad 0)), (1, .int set), (2, .int (-1))]) rfl (fun κ C E => ?_)
  refine z_iload_n C dX5_votes_0 rfl (show zlk _ 2 = some (.int (-1)) from rfl) ?_
  refine z_iconst C (v := (-1)) dX5_votes_1 (by decide) ?_
  refine z_icmp_eq C 16 dX5_votes_2 (by decide) (fun h2t_1 => ?_) (fun h2t_1 => absurd h2t_1 (fun z => z rfl))
  refine z_iload_n C dX5_votes_16 rfl (show zlk _ 1 = some (.int set) from rfl) ?_
  refine z_callSi C (As := [.int set]) (rest := []) (c_X5_isSetOfDots l θ _ set) gX5_votes_X5_isSetOfDots rfl 1 (by decide +kernel) (by decide) (by decide) rfl rfl (Nat.le_of_ble_eq_true rfl) dX5_votes_17 ?_
  rintro _ _ ⟨rfl, rfl⟩
  refine z_if_neB C 26 dX5_votes_20 (by decide) (fun h => absurd h (by rw [hs]; decide)) (fun _ => ?_)
  refine z_ldc C (v := (-1000000002)) (by decide +kernel) dX5_votes_23 ?_
  exact E _ _ _ _ (⟨rfl, rfl⟩) (rfl) dX5_votes_25

set_option maxHeartbeats 4000000 in
set_option maxRecDepth 100000 in
theorem c_X5_votes_4 (l : Launch) (θ : zH) (ea : Nat → Nat → Nat) (ad : Nat → Nat) (n : Nat → Nat) (g : Nat → Int32) (b : Nat → Bool) (r : Nat → Nat → Int32) (V : Nat → Ev) (set : Int32) (j : Nat) (hS : n 10 ≤ 6) (hc : n 12 ≤ 6) (hj : j < n 10) (hs : okN set 1073741824 = true) : cI l yX5_votes wsX5_votes 3 θ [.ref (ad 0), .int set, .int (nI j)] (CW θ ea ad n g b r V) (fun r0 Y => r0 = (k_tv (r 4) (r 6) set (n 10) (r 16) (n 12)) j ∧ Y = CW θ ea ad n g b (crv (r 0) (r 1) (r 2) (r 3) (r 4) (r 5) (r 6) (r 7) (r 8) (r 9) (r 10) (r 11) (r 12) (r 13) (r 14) (r 15) (k_tv (r 4) (r 6) set (n 10) (r 16) (n 12)) (r 17) (r 18)) V) := by
  refine z_cI (by decide) rfl rfl (Nat.le_of_ble_eq_true rfl) (lv := [(0, .ref (ad 0)), (1, .int set), (2, .int (nI j))]) rfl (fun κ C E => ?_)
  have hinX5 : ∀ w ∈ wsX50, w ∈ wsX5_votes := by decide +kernel
  refine z_iload_n C dX5_votes_0 rfl (show zlk _ 2 = some (.int (nI j)) from rfl) ?_
  refine z_iconst C (v := (-1)) dX5_votes_1 (by decide) ?_
  refine z_icmp_eq C 16 dX5_votes_2 (by decide) (fun h2n_1 => absurd h2n_1 (nI_nm1 (by omega))) (fun h2n_1 => ?_)
  refine z_aload_n C dX5_votes_5 rfl (show zlk _ 0 = some (.ref (ad 0)) from rfl) ?_
  refine z_iload_n C dX5_votes_6 rfl (show zlk _ 2 = some (.int (nI j)) from rfl) ?_
  refine z_callVi C (As := [.int (nI j)]) (rest := []) (c_X5_isSitter l θ ea ad n g b r V (nI j) (by omega)) gX5_votes_X5_isSitter rfl 1 (by decide +kernel) (by decide) (by decide) 0 rfl rfl rfl rfl rfl (Nat.le_of_ble_eq_true rfl) dX5_votes_7 ?_
  rintro _ _ ⟨rfl, rfl⟩
  refine z_if_neB C 16 dX5_votes_10 (by decide) (fun _ => ?_) (fun h => absurd h (by rw [okN_lt hj (by omega)]; decide))
  refine z_iload_n C dX5_votes_16 rfl (show zlk _ 1 = some (.int set) from rfl) ?_
  refine z_callSi C (As := [.int set]) (rest := []) (c_X5_isSetOfDots l θ _ set) gX5_votes_X5_isSetOfDots rfl 1 (by decide +kernel) (by decide) (by decide) rfl rfl (Nat.le_of_ble_eq_true rfl) dX5_votes_17 ?_
  rintro _ _ ⟨rfl, rfl⟩
  refine z_if_neB C 26 dX5_votes_20 (by decide) (fun _ => ?_) (fun h => absurd h (by rw [hs]; decide))
  refine z_aload_n C dX5_votes_26 rfl (show zlk _ 0 = some (.ref (ad 0)) from rfl) ?_
  refine z_iload_n C dX5_votes_27 rfl (show zlk _ 1 = some (.int set) from rfl) ?_
  refine z_callVv C (As := [.int set]) (rest := []) (c_X5_countVotes l θ ea ad n g b r V set hS hc) gX5_votes_X5_countVotes rfl 1 (by decide +kernel) (by decide) (by decide) 0 rfl rfl rfl rfl rfl (Nat.le_of_ble_eq_true rfl) dX5_votes_28 ?_
  rintro _ rfl
  refine z_X (Y := CW θ ea ad n g b (crv (r 0) (r 1) (r 2) (r 3) (r 4) (r 5) (r 6) (r 7) (r 8) (r 9) (r 10) (r 11) (r 12) (r 13) (r 14) (r 15) (k_tv (r 4) (r 6) set (n 10) (r 16) (n 12)) (r 17) (r 18)) V) (cw_eq rfl rfl rfl rfl rfl rfl rfl rfl rfl rfl rfl rfl rfl rfl rfl rfl rfl rfl rfl rfl rfl rfl rfl rfl rfl rfl rfl rfl rfl rfl rfl rfl rfl rfl rfl rfl rfl rfl rfl rfl rfl rfl rfl rfl rfl rfl rfl rfl rfl rfl rfl) ?_
  refine z_iload_n C dX5_votes_31 rfl (show zlk _ 2 = some (.int (nI j)) from rfl) ?_
  refine z_iconst C (v := (-1)) dX5_votes_32 (by decide) ?_
  refine z_icmp_ne C 43 dX5_votes_33 (by decide) (fun h33t_2 => ?_) (fun h33t_2 => absurd h33t_2 (nI_nm1 (by omega)))
  refine z_aload_n C dX5_votes_43 rfl (show zlk _ 0 = some (.ref (ad 0)) from rfl) ?_
  refine z_get C hinX5 0 cc_0 rfl 8 (by decide) (by decide +kernel) cg_0_8 dX5_votes_44 ?_
  refine z_iload_n C dX5_votes_47 rfl (show zlk _ 2 = some (.int (nI j)) from rfl) ?_
  refine z_iald C (f := (k_tv (r 4) (r 6) set (n 10) (r 16) (n 12))) 10 cav_10 j rfl (by omega) (by decide) dX5_votes_48 ?_
  exact E _ _ _ _ (⟨rfl, (cw_eq rfl rfl rfl rfl rfl rfl rfl rfl rfl rfl rfl rfl rfl rfl rfl rfl rfl rfl rfl rfl rfl rfl rfl rfl rfl rfl rfl rfl rfl rfl rfl rfl rfl rfl rfl rfl rfl rfl rfl rfl rfl rfl rfl rfl rfl rfl rfl rfl rfl rfl rfl)⟩) (rfl) dX5_votes_49

set_option maxHeartbeats 4000000 in
set_option maxRecDepth 100000 in
theorem c_X5_votes_5 (l : Launch) (θ : zH) (ea : Nat → Nat → Nat) (ad : Nat → Nat) (n : Nat → Nat) (g : Nat → Int32) (b : Nat → Bool) (r : Nat → Nat → Int32) (V : Nat → Ev) (set : Int32) (hS : n 10 ≤ 6) (hc : n 12 ≤ 6) (hs : okN set 1073741824 = true) : cI l yX5_votes wsX5_votes 3 θ [.ref (ad 0), .int set, .int (-1)] (CW θ ea ad n g b r V) (fun r0 Y => r0 = (k_el (k_tv (r 4) (r 6) set (n 10) (r 16) (n 12)) (n 10)).1 ∧ Y = CW θ ea ad n g b (crv (r 0) (r 1) (r 2) (r 3) (r 4) (r 5) (r 6) (r 7) (r 8) (r 9) (r 10) (r 11) (r 12) (r 13) (r 14) (r 15) (k_tv (r 4) (r 6) set (n 10) (r 16) (n 12)) (r 17) (r 18)) V) := by
  refine z_cI (by decide) rfl rfl (Nat.le_of_ble_eq_true rfl) (lv := [(0, .ref (ad 0)), (1, .int set), (2, .int (-1))]) rfl (fun κ C E => ?_)
  refine z_iload_n C dX5_votes_0 rfl (show zlk _ 2 = some (.int (-1)) from rfl) ?_
  refine z_iconst C (v := (-1)) dX5_votes_1 (by decide) ?_
  refine z_icmp_eq C 16 dX5_votes_2 (by decide) (fun h2t_1 => ?_) (fun h2t_1 => absurd h2t_1 (fun z => z rfl))
  refine z_iload_n C dX5_votes_16 rfl (show zlk _ 1 = some (.int set) from rfl) ?_
  refine z_callSi C (As := [.int set]) (rest := []) (c_X5_isSetOfDots l θ _ set) gX5_votes_X5_isSetOfDots rfl 1 (by decide +kernel) (by decide) (by decide) rfl rfl (Nat.le_of_ble_eq_true rfl) dX5_votes_17 ?_
  rintro _ _ ⟨rfl, rfl⟩
  refine z_if_neB C 26 dX5_votes_20 (by decide) (fun _ => ?_) (fun h => absurd h (by rw [hs]; decide))
  refine z_aload_n C dX5_votes_26 rfl (show zlk _ 0 = some (.ref (ad 0)) from rfl) ?_
  refine z_iload_n C dX5_votes_27 rfl (show zlk _ 1 = some (.int set) from rfl) ?_
  refine z_callVv C (As := [.int set]) (rest := []) (c_X5_countVotes l θ ea ad n g b r V set hS hc) gX5_votes_X5_countVotes rfl 1 (by decide +kernel) (by decide) (by decide) 0 rfl rfl rfl rfl rfl (Nat.le_of_ble_eq_true rfl) dX5_votes_28 ?_
  rintro _ rfl
  refine z_X (Y := CW θ ea ad n g b (crv (r 0) (r 1) (r 2) (r 3) (r 4) (r 5) (r 6) (r 7) (r 8) (r 9) (r 10) (r 11) (r 12) (r 13) (r 14) (r 15) (k_tv (r 4) (r 6) set (n 10) (r 16) (n 12)) (r 17) (r 18)) V) (cw_eq rfl rfl rfl rfl rfl rfl rfl rfl rfl rfl rfl rfl rfl rfl rfl rfl rfl rfl rfl rfl rfl rfl rfl rfl rfl rfl rfl rfl rfl rfl rfl rfl rfl rfl rfl rfl rfl rfl rfl rfl rfl rfl rfl rfl rfl rfl rfl rfl rfl rfl rfl) ?_
  refine z_iload_n C dX5_votes_31 rfl (show zlk _ 2 = some (.int (-1)) from rfl) ?_
  refine z_iconst C (v := (-1)) dX5_votes_32 (by decide) ?_
  refine z_icmp_ne C 43 dX5_votes_33 (by decide) (fun h33n_2 => absurd h33n_2 (fun z => z rfl)) (fun h33n_2 => ?_)
  refine z_aload_n C dX5_votes_36 rfl (show zlk _ 0 = some (.ref (ad 0)) from rfl) ?_
  refine z_callVi C (As := []) (rest := []) (c_X5_elected l θ ea ad n g b (crv (r 0) (r 1) (r 2) (r 3) (r 4) (r 5) (r 6) (r 7) (r 8) (r 9) (r 10) (r 11) (r 12) (r 13) (r 14) (r 15) (k_tv (r 4) (r 6) set (n 10) (r 16) (n 12)) (r 17) (r 18)) V hS) gX5_votes_X5_elected rfl 0 (by decide +kernel) (by decide) (by decide) 0 rfl rfl rfl rfl rfl (Nat.le_of_ble_eq_true rfl) dX5_votes_37 ?_
  rintro _ _ ⟨rfl, rfl⟩
  refine z_top (v' := .int ((k_el (k_tv (r 4) (r 6) set (n 10) (r 16) (n 12)) (n 10)).1)) rfl ?_
  refine z_goto C 49 dX5_votes_40 (by decide) ?_
  exact E _ _ _ _ (⟨rfl, (cw_eq rfl rfl rfl rfl rfl rfl rfl rfl rfl rfl rfl rfl rfl rfl rfl rfl rfl rfl rfl rfl rfl rfl rfl rfl rfl rfl rfl rfl rfl rfl rfl rfl rfl rfl rfl rfl rfl rfl rfl rfl rfl rfl rfl rfl rfl rfl rfl rfl rfl rfl rfl)⟩) (rfl) dX5_votes_49

set_option maxHeartbeats 4000000 in
set_option maxRecDepth 100000 in
theorem c_X5_refusalOfDusks_1 (l : Launch) (θ : zH) (ea : Nat → Nat → Nat) (ad : Nat → Nat) (n : Nat → Nat) (g : Nat → Int32) (b : Nat → Bool) (r : Nat → Nat → Int32) (V : Nat → Ev) (x : Int32) (hx : m_in (Int32.toInt64 x) 1 (60) = false) : cI l yX5_refusalOfDusks wsX5_refusalOfDusks 0 θ [.ref (ad 0), .int x] (CW θ ea ad n g b r V) (fun r0 Y => r0 = (-1000000002) ∧ Y = CW θ ea ad n g b r V) := by
  refine z_cI (by decide) rfl rfl (Nat.le_of_ble_eq_true rfl) (lv := [(0, .ref (ad 0)), (1, .int x)]) rfl (fun κ C E => ?_)
  refine z_iload_n C dX5_refusalOfDusks_0 rfl (show zlk _ 1 = some (.int x) from rfl) ?_
  refine z_iconst C (v := nI 1) dX5_refusalOfDusks_1 (by decide) ?_
  refine z_icmp_lt C 11 dX5_refusalOfDusks_2 (by decide) (fun h2t_1 => ?_) (fun h2n_1 => ?_)
  · refine z_ldc C (v := (-1000000002)) (by decide +kernel) dX5_refusalOfDusks_11 ?_
    exact E _ _ _ _ (⟨rfl, rfl⟩) (rfl) dX5_refusalOfDusks_13
  · refine z_iload_n C dX5_refusalOfDusks_5 rfl (show zlk _ 1 = some (.int x) from rfl) ?_
    refine z_bipush C (v := nI 60) dX5_refusalOfDusks_6 (by decide) ?_
    refine z_icmp_le C 14 dX5_refusalOfDusks_8 (by decide) (fun h8n_2 => absurd h8n_2 (mi_3 (A := nI 1) (B := nI 60) (by decide) (by decide) hx h2n_1)) (fun h8n_2 => ?_)
    refine z_ldc C (v := (-1000000002)) (by decide +kernel) dX5_refusalOfDusks_11 ?_
    exact E _ _ _ _ (⟨rfl, rfl⟩) (rfl) dX5_refusalOfDusks_13

set_option maxHeartbeats 4000000 in
set_option maxRecDepth 100000 in
theorem c_X5_refusalOfDusks_2 (l : Launch) (θ : zH) (ea : Nat → Nat → Nat) (ad : Nat → Nat) (n : Nat → Nat) (g : Nat → Int32) (b : Nat → Bool) (r : Nat → Nat → Int32) (V : Nat → Ev) (x : Int32) (hx : m_in (Int32.toInt64 x) 1 (60) = true) (hg : b 1 = false) : cI l yX5_refusalOfDusks wsX5_refusalOfDusks 0 θ [.ref (ad 0), .int x] (CW θ ea ad n g b r V) (fun r0 Y => r0 = (-1000000003) ∧ Y = CW θ ea ad n g b r V) := by
  refine z_cI (by decide) rfl rfl (Nat.le_of_ble_eq_true rfl) (lv := [(0, .ref (ad 0)), (1, .int x)]) rfl (fun κ C E => ?_)
  have hinX0 : ∀ w ∈ wsX00, w ∈ wsX5_refusalOfDusks := by decide +kernel
  have hinX5 : ∀ w ∈ wsX50, w ∈ wsX5_refusalOfDusks := by decide +kernel
  refine z_iload_n C dX5_refusalOfDusks_0 rfl (show zlk _ 1 = some (.int x) from rfl) ?_
  refine z_iconst C (v := nI 1) dX5_refusalOfDusks_1 (by decide) ?_
  refine z_icmp_lt C 11 dX5_refusalOfDusks_2 (by decide) (fun h2n_1 => absurd h2n_1 (mi_1 (A := nI 1) (by decide) hx)) (fun h2n_1 => ?_)
  refine z_iload_n C dX5_refusalOfDusks_5 rfl (show zlk _ 1 = some (.int x) from rfl) ?_
  refine z_bipush C (v := nI 60) dX5_refusalOfDusks_6 (by decide) ?_
  refine z_icmp_le C 14 dX5_refusalOfDusks_8 (by decide) (fun h8t_2 => ?_) (fun h8t_2 => absurd h8t_2 (fun z => z (mi_2 (B := nI 60) (by decide) hx)))
  refine z_aload_n C dX5_refusalOfDusks_14 rfl (show zlk _ 0 = some (.ref (ad 0)) from rfl) ?_
  refine z_get C hinX5 0 cc_0 rfl 1 (by decide) (by decide +kernel) cg_0_1 dX5_refusalOfDusks_15 ?_
  refine z_getN C (host := "GnatPortraits") hinX0 3 cc_3 rfl 0 (by decide) (by decide +kernel) cg_3_0 dX5_refusalOfDusks_18 ?_
  refine z_if_neB C 27 dX5_refusalOfDusks_21 (by decide) (fun h => absurd h (by rw [hg]; decide)) (fun _ => ?_)
  refine z_ldc C (v := (-1000000003)) (by decide +kernel) dX5_refusalOfDusks_24 ?_
  exact E _ _ _ _ (⟨rfl, rfl⟩) (rfl) dX5_refusalOfDusks_26

set_option maxHeartbeats 4000000 in
set_option maxRecDepth 100000 in
theorem c_X5_refusalOfDusks_3 (l : Launch) (θ : zH) (ea : Nat → Nat → Nat) (ad : Nat → Nat) (n : Nat → Nat) (g : Nat → Int32) (b : Nat → Bool) (r : Nat → Nat → Int32) (V : Nat → Ev) (x : Int32) (hx : m_in (Int32.toInt64 x) 1 (60) = true) (hg : b 1 = true) (hd : n 13 < 2 ^ 30) (hl : 9000 < n 13) : cI l yX5_refusalOfDusks wsX5_refusalOfDusks 0 θ [.ref (ad 0), .int x] (CW θ ea ad n g b r V) (fun r0 Y => r0 = (-1000000004) ∧ Y = CW θ ea ad n g b r V) := by
  refine z_cI (by decide) rfl rfl (Nat.le_of_ble_eq_true rfl) (lv := [(0, .ref (ad 0)), (1, .int x)]) rfl (fun κ C E => ?_)
  have hinX0 : ∀ w ∈ wsX00, w ∈ wsX5_refusalOfDusks := by decide +kernel
  have hinX1 : ∀ w ∈ wsX10, w ∈ wsX5_refusalOfDusks := by decide +kernel
  have hinX5 : ∀ w ∈ wsX50, w ∈ wsX5_refusalOfDusks := by decide +kernel
  refine z_iload_n C dX5_refusalOfDusks_0 rfl (show zlk _ 1 = some (.int x) from rfl) ?_
  refine z_iconst C (v := nI 1) dX5_refusalOfDusks_1 (by decide) ?_
  refine z_icmp_lt C 11 dX5_refusalOfDusks_2 (by decide) (fun h2n_1 => absurd h2n_1 (mi_1 (A := nI 1) (by decide) hx)) (fun h2n_1 => ?_)
  refine z_iload_n C dX5_refusalOfDusks_5 rfl (show zlk _ 1 = some (.int x) from rfl) ?_
  refine z_bipush C (v := nI 60) dX5_refusalOfDusks_6 (by decide) ?_
  refine z_icmp_le C 14 dX5_refusalOfDusks_8 (by decide) (fun h8t_2 => ?_) (fun h8t_2 => absurd h8t_2 (fun z => z (mi_2 (B := nI 60) (by decide) hx)))
  refine z_aload_n C dX5_refusalOfDusks_14 rfl (show zlk _ 0 = some (.ref (ad 0)) from rfl) ?_
  refine z_get C hinX5 0 cc_0 rfl 1 (by decide) (by decide +kernel) cg_0_1 dX5_refusalOfDusks_15 ?_
  refine z_getN C (host := "GnatPortraits") hinX0 3 cc_3 rfl 0 (by decide) (by decide +kernel) cg_3_0 dX5_refusalOfDusks_18 ?_
  refine z_if_neB C 27 dX5_refusalOfDusks_21 (by decide) (fun _ => ?_) (fun h => absurd h (by rw [hg]; decide))
  refine z_aload_n C dX5_refusalOfDusks_27 rfl (show zlk _ 0 = some (.ref (ad 0)) from rfl) ?_
  refine z_get C hinX5 0 cc_0 rfl 2 (by decide) (by decide +kernel) cg_0_2 dX5_refusalOfDusks_28 ?_
  refine z_getN C (host := "GnatPortraits") hinX1 4 cc_4 rfl 5 (by decide) (by decide +kernel) cg_4_5 dX5_refusalOfDusks_31 ?_
  refine z_sipush C (v := nI 9000) dX5_refusalOfDusks_34 (by decide) ?_
  refine z_icmp_leF C 45 dX5_refusalOfDusks_37 (by decide) (by omega) (by omega) (by omega) ?_
  refine z_ldc C (v := (-1000000004)) (by decide +kernel) dX5_refusalOfDusks_40 ?_
  refine z_goto C 46 dX5_refusalOfDusks_42 (by decide) ?_
  exact E _ _ _ _ (⟨rfl, rfl⟩) (rfl) dX5_refusalOfDusks_46

set_option maxHeartbeats 4000000 in
set_option maxRecDepth 100000 in
theorem c_X5_refusalOfDusks_4 (l : Launch) (θ : zH) (ea : Nat → Nat → Nat) (ad : Nat → Nat) (n : Nat → Nat) (g : Nat → Int32) (b : Nat → Bool) (r : Nat → Nat → Int32) (V : Nat → Ev) (x : Int32) (hx : m_in (Int32.toInt64 x) 1 (60) = true) (hg : b 1 = true) (hd : n 13 < 2 ^ 30) (hl : n 13 ≤ 9000) : cI l yX5_refusalOfDusks wsX5_refusalOfDusks 0 θ [.ref (ad 0), .int x] (CW θ ea ad n g b r V) (fun r0 Y => r0 = nI 0 ∧ Y = CW θ ea ad n g b r V) := by
  refine z_cI (by decide) rfl rfl (Nat.le_of_ble_eq_true rfl) (lv := [(0, .ref (ad 0)), (1, .int x)]) rfl (fun κ C E => ?_)
  have hinX0 : ∀ w ∈ wsX00, w ∈ wsX5_refusalOfDusks := by decide +kernel
  have hinX1 : ∀ w ∈ wsX10, w ∈ wsX5_refusalOfDusks := by decide +kernel
  have hinX5 : ∀ w ∈ wsX50, w ∈ wsX5_refusalOfDusks := by decide +kernel
  refine z_iload_n C dX5_refusalOfDusks_0 rfl (show zlk _ 1 = some (.int x) from rfl) ?_
  refine z_iconst C (v := nI 1) dX5_refusalOfDusks_1 (by decide) ?_
  refine z_icmp_lt C 11 dX5_refusalOfDusks_2 (by decide) (fun h2n_1 => absurd h2n_1 (mi_1 (A := nI 1) (by decide) hx)) (fun h2n_1 => ?_)
  refine z_iload_n C dX5_refusalOfDusks_5 rfl (show zlk _ 1 = some (.int x) from rfl) ?_
  refine z_bipush C (v := nI 60) dX5_refusalOfDusks_6 (by decide) ?_
  refine z_icmp_le C 14 dX5_refusalOfDusks_8 (by decide) (fun h8t_2 => ?_) (fun h8t_2 => absurd h8t_2 (fun z => z (mi_2 (B := nI 60) (by decide) hx)))
  refine z_aload_n C dX5_refusalOfDusks_14 rfl (show zlk _ 0 = some (.ref (ad 0)) from rfl) ?_
  refine z_get C hinX5 0 cc_0 rfl 1 (by decide) (by decide +kernel) cg_0_1 dX5_refusalOfDusks_15 ?_
  refine z_getN C (host := "GnatPortraits") hinX0 3 cc_3 rfl 0 (by decide) (by decide +kernel) cg_3_0 dX5_refusalOfDusks_18 ?_
  refine z_if_neB C 27 dX5_refusalOfDusks_21 (by decide) (fun _ => ?_) (fun h => absurd h (by rw [hg]; decide))
  refine z_aload_n C dX5_refusalOfDusks_27 rfl (show zlk _ 0 = some (.ref (ad 0)) from rfl) ?_
  refine z_get C hinX5 0 cc_0 rfl 2 (by decide) (by decide +kernel) cg_0_2 dX5_refusalOfDusks_28 ?_
  refine z_getN C (host := "GnatPortraits") hinX1 4 cc_4 rfl 5 (by decide) (by decide +kernel) cg_4_5 dX5_refusalOfDusks_31 ?_
  refine z_sipush C (v := nI 9000) dX5_refusalOfDusks_34 (by decide) ?_
  refine z_icmp_leT C 45 dX5_refusalOfDusks_37 (by decide) (by omega) (by omega) (hl) ?_
  refine z_iconst C (v := nI 0) dX5_refusalOfDusks_45 (by decide) ?_
  exact E _ _ _ _ (⟨rfl, rfl⟩) (rfl) dX5_refusalOfDusks_46

