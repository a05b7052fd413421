set_option maxHeartbeats 4000000 in
set_option maxRecDepth 100000 in
theorem c_X4_faultOfWord_g0 (l : Launch) (θ : zH) (ea : Nat → Nat → Nat) (ad : Nat → Nat) (n : Nat → Nat) (g : Nat → Int32) (b : Nat → Bool) (r : Nat → Nat → Int32) (V : Nat → Ev)  (hb : b 0 = false) : cI l yX4_faultOfWord wsX4_faultOfWord 0 θ [.ref (ad 1), .int (nI 103)] (CW θ ea ad n g b r V) (fun r0 Y => r0 = nI 0 ∧ Y = CW θ ea ad n g b r V) := by
  refine z_cI (by decide) rfl rfl (Nat.le_of_ble_eq_true rfl) (lv := [(0, .ref (ad 1)), (1, .int (nI 103))]) rfl (fun κ C E => ?_)
  have hinX0 : ∀ w ∈ wsX00, w ∈ wsX4_faultOfWord := by decide +kernel
  have hinX4 : ∀ w ∈ wsX40, w ∈ wsX4_faultOfWord := by decide +kernel
  refine z_aload_n C dX4_faultOfWord_0 rfl (show zlk _ 0 = some (.ref (ad 1)) from rfl) ?_
  refine z_get C hinX4 1 cc_1 rfl 1 (by decide) (by decide +kernel) cg_1_1 dX4_faultOfWord_1 ?_
  refine z_getN C (host := "GnatPortraits") hinX0 2 cc_2 rfl 0 (by decide) (by decide +kernel) cg_2_0 dX4_faultOfWord_4 ?_
  refine z_if_neB C 22 dX4_faultOfWord_7 (by decide) (fun h => absurd h (by rw [hb]; decide)) (fun _ => ?_)
  refine z_iload_n C dX4_faultOfWord_10 rfl (show zlk _ 1 = some (.int (nI 103)) from rfl) ?_
  refine z_bipush C (v := nI 103) dX4_faultOfWord_11 (by decide) ?_
  refine z_icmp_neF C 20 dX4_faultOfWord_13 (by decide) (by omega) (by omega) (by decide) ?_
  refine z_iconst C (v := nI 0) dX4_faultOfWord_16 (by decide) ?_
  refine z_goto C 21 dX4_faultOfWord_17 (by decide) ?_
  exact E _ _ _ _ (⟨rfl, rfl⟩) (rfl) dX4_faultOfWord_21

set_option maxHeartbeats 4000000 in
set_option maxRecDepth 100000 in
theorem c_X4_faultOfWord_x0 (l : Launch) (θ : zH) (ea : Nat → Nat → Nat) (ad : Nat → Nat) (n : Nat → Nat) (g : Nat → Int32) (b : Nat → Bool) (r : Nat → Nat → Int32) (V : Nat → Ev) (c : Int32) (hb : b 0 = false) (hc : ¬ c = nI 103) : cI l yX4_faultOfWord wsX4_faultOfWord 0 θ [.ref (ad 1), .int c] (CW θ ea ad n g b r V) (fun r0 Y => r0 = nI 1 ∧ Y = CW θ ea ad n g b r V) := by
  refine z_cI (by decide) rfl rfl (Nat.le_of_ble_eq_true rfl) (lv := [(0, .ref (ad 1)), (1, .int c)]) rfl (fun κ C E => ?_)
  have hinX0 : ∀ w ∈ wsX00, w ∈ wsX4_faultOfWord := by decide +kernel
  have hinX4 : ∀ w ∈ wsX40, w ∈ wsX4_faultOfWord := by decide +kernel
  refine z_aload_n C dX4_faultOfWord_0 rfl (show zlk _ 0 = some (.ref (ad 1)) from rfl) ?_
  refine z_get C hinX4 1 cc_1 rfl 1 (by decide) (by decide +kernel) cg_1_1 dX4_faultOfWord_1 ?_
  refine z_getN C (host := "GnatPortraits") hinX0 2 cc_2 rfl 0 (by decide) (by decide +kernel) cg_2_0 dX4_faultOfWord_4 ?_
  refine z_if_neB C 22 dX4_faultOfWord_7 (by decide) (fun h => absurd h (by rw [hb]; decide)) (fun _ => ?_)
  refine z_iload_n C dX4_faultOfWord_10 rfl (show zlk _ 1 = some (.int c) from rfl) ?_
  refine z_bipush C (v := nI 103) dX4_faultOfWord_11 (by decide) ?_
  refine z_icmp_ne C 20 dX4_faultOfWord_13 (by decide) (fun h13t_1 => ?_) (fun h13t_1 => absurd h13t_1 (hc))
  refine z_iconst C (v := nI 1) dX4_faultOfWord_20 (by decide) ?_
  exact E _ _ _ _ (⟨rfl, rfl⟩) (rfl) dX4_faultOfWord_21

set_option maxHeartbeats 4000000 in
set_option maxRecDepth 100000 in
theorem c_X4_faultOfWord_g1 (l : Launch) (θ : zH) (ea : Nat → Nat → Nat) (ad : Nat → Nat) (n : Nat → Nat) (g : Nat → Int32) (b : Nat → Bool) (r : Nat → Nat → Int32) (V : Nat → Ev)  (hb : b 0 = true) : cI l yX4_faultOfWord wsX4_faultOfWord 0 θ [.ref (ad 1), .int (nI 103)] (CW θ ea ad n g b r V) (fun r0 Y => r0 = nI 3 ∧ Y = CW θ ea ad n g b r V) := by
  refine z_cI (by decide) rfl rfl (Nat.le_of_ble_eq_true rfl) (lv := [(0, .ref (ad 1)), (1, .int (nI 103))]) rfl (fun κ C E => ?_)
  have hinX0 : ∀ w ∈ wsX00, w ∈ wsX4_faultOfWord := by decide +kernel
  have hinX4 : ∀ w ∈ wsX40, w ∈ wsX4_faultOfWord := by decide +kernel
  refine z_aload_n C dX4_faultOfWord_0 rfl (show zlk _ 0 = some (.ref (ad 1)) from rfl) ?_
  refine z_get C hinX4 1 cc_1 rfl 1 (by decide) (by decide +kernel) cg_1_1 dX4_faultOfWord_1 ?_
  refine z_getN C (host := "GnatPortraits") hinX0 2 cc_2 rfl 0 (by decide) (by decide +kernel) cg_2_0 dX4_faultOfWord_4 ?_
  refine z_if_neB C 22 dX4_faultOfWord_7 (by decide) (fun _ => ?_) (fun h => absurd h (by rw [hb]; decide))
  refine z_iload_n C dX4_faultOfWord_22 rfl (show zlk _ 1 = some (.int (nI 103)) from rfl) ?_
  refine z_lookup C 64 dX4_faultOfWord_23 (by decide) (off := 41) (by decide) (by decide) ?_
  refine z_iconst C (v := nI 3) dX4_faultOfWord_64 (by decide) ?_
  exact E _ _ _ _ (⟨rfl, rfl⟩) (rfl) dX4_faultOfWord_65

set_option maxHeartbeats 4000000 in
set_option maxRecDepth 100000 in
theorem c_X4_faultOfWord_s1 (l : Launch) (θ : zH) (ea : Nat → Nat → Nat) (ad : Nat → Nat) (n : Nat → Nat) (g : Nat → Int32) (b : Nat → Bool) (r : Nat → Nat → Int32) (V : Nat → Ev)  (hb : b 0 = true) (hn : n 6 < 6) : cI l yX4_faultOfWord wsX4_faultOfWord 0 θ [.ref (ad 1), .int (nI 115)] (CW θ ea ad n g b r V) (fun r0 Y => r0 = nI 0 ∧ Y = CW θ ea ad n g b r V) := by
  refine z_cI (by decide) rfl rfl (Nat.le_of_ble_eq_true rfl) (lv := [(0, .ref (ad 1)), (1, .int (nI 115))]) rfl (fun κ C E => ?_)
  have hinX0 : ∀ w ∈ wsX00, w ∈ wsX4_faultOfWord := by decide +kernel
  have hinX4 : ∀ w ∈ wsX40, w ∈ wsX4_faultOfWord := by decide +kernel
  refine z_aload_n C dX4_faultOfWord_0 rfl (show zlk _ 0 = some (.ref (ad 1)) from rfl) ?_
  refine z_get C hinX4 1 cc_1 rfl 1 (by decide) (by decide +kernel) cg_1_1 dX4_faultOfWord_1 ?_
  refine z_getN C (host := "GnatPortraits") hinX0 2 cc_2 rfl 0 (by decide) (by decide +kernel) cg_2_0 dX4_faultOfWord_4 ?_
  refine z_if_neB C 22 dX4_faultOfWord_7 (by decide) (fun _ => ?_) (fun h => absurd h (by rw [hb]; decide))
  refine z_iload_n C dX4_faultOfWord_22 rfl (show zlk _ 1 = some (.int (nI 115)) from rfl) ?_
  refine z_lookup C 66 dX4_faultOfWord_23 (by decide) (off := 43) (by decide) (by decide) ?_
  refine z_aload_n C dX4_faultOfWord_66 rfl (show zlk _ 0 = some (.ref (ad 1)) from rfl) ?_
  refine z_get C hinX4 1 cc_1 rfl 1 (by decide) (by decide +kernel) cg_1_1 dX4_faultOfWord_67 ?_
  refine z_getN C (host := "GnatPortraits") hinX0 2 cc_2 rfl 2 (by decide) (by decide +kernel) cg_2_2 dX4_faultOfWord_70 ?_
  refine z_bipush C (v := nI 6) dX4_faultOfWord_73 (by decide) ?_
  refine z_icmp_geF C 82 dX4_faultOfWord_75 (by decide) (by omega) (by omega) (by omega) ?_
  refine z_iconst C (v := nI 0) dX4_faultOfWord_78 (by decide) ?_
  refine z_goto C 83 dX4_faultOfWord_79 (by decide) ?_
  exact E _ _ _ _ (⟨rfl, rfl⟩) (rfl) dX4_faultOfWord_83

set_option maxHeartbeats 4000000 in
set_option maxRecDepth 100000 in
theorem c_X4_faultOfWord_s3 (l : Launch) (θ : zH) (ea : Nat → Nat → Nat) (ad : Nat → Nat) (n : Nat → Nat) (g : Nat → Int32) (b : Nat → Bool) (r : Nat → Nat → Int32) (V : Nat → Ev)  (hb : b 0 = true) (hn : n 6 = 6) : cI l yX4_faultOfWord wsX4_faultOfWord 0 θ [.ref (ad 1), .int (nI 115)] (CW θ ea ad n g b r V) (fun r0 Y => r0 = nI 3 ∧ Y = CW θ ea ad n g b r V) := by
  refine z_cI (by decide) rfl rfl (Nat.le_of_ble_eq_true rfl) (lv := [(0, .ref (ad 1)), (1, .int (nI 115))]) rfl (fun κ C E => ?_)
  have hinX0 : ∀ w ∈ wsX00, w ∈ wsX4_faultOfWord := by decide +kernel
  have hinX4 : ∀ w ∈ wsX40, w ∈ wsX4_faultOfWord := by decide +kernel
  refine z_aload_n C dX4_faultOfWord_0 rfl (show zlk _ 0 = some (.ref (ad 1)) from rfl) ?_
  refine z_get C hinX4 1 cc_1 rfl 1 (by decide) (by decide +kernel) cg_1_1 dX4_faultOfWord_1 ?_
  refine z_getN C (host := "GnatPortraits") hinX0 2 cc_2 rfl 0 (by decide) (by decide +kernel) cg_2_0 dX4_faultOfWord_4 ?_
  refine z_if_neB C 22 dX4_faultOfWord_7 (by decide) (fun _ => ?_) (fun h => absurd h (by rw [hb]; decide))
  refine z_iload_n C dX4_faultOfWord_22 rfl (show zlk _ 1 = some (.int (nI 115)) from rfl) ?_
  refine z_lookup C 66 dX4_faultOfWord_23 (by decide) (off := 43) (by decide) (by decide) ?_
  refine z_aload_n C dX4_faultOfWord_66 rfl (show zlk _ 0 = some (.ref (ad 1)) from rfl) ?_
  refine z_get C hinX4 1 cc_1 rfl 1 (by decide) (by decide +kernel) cg_1_1 dX4_faultOfWord_67 ?_
  refine z_getN C (host := "GnatPortraits") hinX0 2 cc_2 rfl 2 (by decide) (by decide +kernel) cg_2_2 dX4_faultOfWord_70 ?_
  refine z_bipush C (v := nI 6) dX4_faultOfWord_73 (by decide) ?_
  refine z_icmp_geT C 82 dX4_faultOfWord_75 (by decide) (by omega) (by omega) (by omega) ?_
  refine z_iconst C (v := nI 3) dX4_faultOfWord_82 (by decide) ?_
  exact E _ _ _ _ (⟨rfl, rfl⟩) (rfl) dX4_faultOfWord_83

set_option maxHeartbeats 4000000 in
set_option maxRecDepth 100000 in
theorem c_X4_faultOfWord_w1 (l : Launch) (θ : zH) (ea : Nat → Nat → Nat) (ad : Nat → Nat) (n : Nat → Nat) (g : Nat → Int32) (b : Nat → Bool) (r : Nat → Nat → Int32) (V : Nat → Ev)  (hb : b 0 = true) (hn : n 7 < 5) : cI l yX4_faultOfWord wsX4_faultOfWord 0 θ [.ref (ad 1), .int (nI 119)] (CW θ ea ad n g b r V) (fun r0 Y => r0 = nI 0 ∧ Y = CW θ ea ad n g b r V) := by
  refine z_cI (by decide) rfl rfl (Nat.le_of_ble_eq_true rfl) (lv := [(0, .ref (ad 1)), (1, .int (nI 119))]) rfl (fun κ C E => ?_)
  have hinX0 : ∀ w ∈ wsX00, w ∈ wsX4_faultOfWord := by decide +kernel
  have hinX4 : ∀ w ∈ wsX40, w ∈ wsX4_faultOfWord := by decide +kernel
  refine z_aload_n C dX4_faultOfWord_0 rfl (show zlk _ 0 = some (.ref (ad 1)) from rfl) ?_
  refine z_get C hinX4 1 cc_1 rfl 1 (by decide) (by decide +kernel) cg_1_1 dX4_faultOfWord_1 ?_
  refine z_getN C (host := "GnatPortraits") hinX0 2 cc_2 rfl 0 (by decide) (by decide +kernel) cg_2_0 dX4_faultOfWord_4 ?_
  refine z_if_neB C 22 dX4_faultOfWord_7 (by decide) (fun _ => ?_) (fun h => absurd h (by rw [hb]; decide))
  refine z_iload_n C dX4_faultOfWord_22 rfl (show zlk _ 1 = some (.int (nI 119)) from rfl) ?_
  refine z_lookup C 84 dX4_faultOfWord_23 (by decide) (off := 61) (by decide) (by decide) ?_
  refine z_aload_n C dX4_faultOfWord_84 rfl (show zlk _ 0 = some (.ref (ad 1)) from rfl) ?_
  refine z_get C hinX4 1 cc_1 rfl 1 (by decide) (by decide +kernel) cg_1_1 dX4_faultOfWord_85 ?_
  refine z_getN C (host := "GnatPortraits") hinX0 2 cc_2 rfl 3 (by decide) (by decide +kernel) cg_2_3 dX4_faultOfWord_88 ?_
  refine z_iconst C (v := nI 5) dX4_faultOfWord_91 (by decide) ?_
  refine z_icmp_geF C 99 dX4_faultOfWord_92 (by decide) (by omega) (by omega) (by omega) ?_
  refine z_iconst C (v := nI 0) dX4_faultOfWord_95 (by decide) ?_
  refine z_goto C 100 dX4_faultOfWord_96 (by decide) ?_
  exact E _ _ _ _ (⟨rfl, rfl⟩) (rfl) dX4_faultOfWord_100

set_option maxHeartbeats 4000000 in
set_option maxRecDepth 100000 in
theorem c_X4_faultOfWord_w3 (l : Launch) (θ : zH) (ea : Nat → Nat → Nat) (ad : Nat → Nat) (n : Nat → Nat) (g : Nat → Int32) (b : Nat → Bool) (r : Nat → Nat → Int32) (V : Nat → Ev)  (hb : b 0 = true) (hn : n 7 = 5) : cI l yX4_faultOfWord wsX4_faultOfWord 0 θ [.ref (ad 1), .int (nI 119)] (CW θ ea ad n g b r V) (fun r0 Y => r0 = nI 3 ∧ Y = CW θ ea ad n g b r V) := by
  refine z_cI (by decide) rfl rfl (Nat.le_of_ble_eq_true rfl) (lv := [(0, .ref (ad 1)), (1, .int (nI 119))]) rfl (fun κ C E => ?_)
  have hinX0 : ∀ w ∈ wsX00, w ∈ wsX4_faultOfWord := by decide +kernel
  have hinX4 : ∀ w ∈ wsX40, w ∈ wsX4_faultOfWord := by decide +kernel
  refine z_aload_n C dX4_faultOfWord_0 rfl (show zlk _ 0 = some (.ref (ad 1)) from rfl) ?_
  refine z_get C hinX4 1 cc_1 rfl 1 (by decide) (by decide +kernel) cg_1_1 dX4_faultOfWord_1 ?_
  refine z_getN C (host := "GnatPortraits") hinX0 2 cc_2 rfl 0 (by decide) (by decide +kernel) cg_2_0 dX4_faultOfWord_4 ?_
  refine z_if_neB C 22 dX4_faultOfWord_7 (by decide) (fun _ => ?_) (fun h => absurd h (by rw [hb]; decide))
  refine z_iload_n C dX4_faultOfWord_22 rfl (show zlk _ 1 = some (.int (nI 119)) from rfl) ?_
  refine z_lookup C 84 dX4_faultOfWord_23 (by decide) (off := 61) (by decide) (by decide) ?_
  refine z_aload_n C dX4_faultOfWord_84 rfl (show zlk _ 0 = some (.ref (ad 1)) from rfl) ?_
  refine z_get C hinX4 1 cc_1 rfl 1 (by decide) (by decide +kernel) cg_1_1 dX4_faultOfWord_85 ?_
  refine z_getN C (host := "GnatPortraits") hinX0 2 cc_2 rfl 3 (by decide) (by decide +kernel) cg_2_3 dX4_faultOfWord_88 ?_
  refine z_iconst C (v := nI 5) dX4_faultOfWord_91 (by decide) ?_
  refine z_icmp_geT C 99 dX4_faultOfWord_92 (by decide) (by omega) (by omega) (by omega) ?_
  refine z_iconst C (v := nI 3) dX4_faultOfWord_99 (by decide) ?_
  exact E _ _ _ _ (⟨rfl, rfl⟩) (rfl) dX4_faultOfWord_100

set_option maxHeartbeats 4000000 in
set_option maxRecDepth 100000 in
theorem c_X4_faultOfWord_c1 (l : Launch) (θ : zH) (ea : Nat → Nat → Nat) (ad : Nat → Nat) (n : Nat → Nat) (g : Nat → Int32) (b : Nat → Bool) (r : Nat → Nat → Int32) (V : Nat → Ev)  (hb : b 0 = true) (hn : n 8 < 6) : cI l yX4_faultOfWord wsX4_faultOfWord 0 θ [.ref (ad 1), .int (nI 99)] (CW θ ea ad n g b r V) (fun r0 Y => r0 = nI 0 ∧ Y = CW θ ea ad n g b r V) := by
  refine z_cI (by decide) rfl rfl (Nat.le_of_ble_eq_true rfl) (lv := [(0, .ref (ad 1)), (1, .int (nI 99))]) rfl (fun κ C E => ?_)
  have hinX0 : ∀ w ∈ wsX00, w ∈ wsX4_faultOfWord := by decide +kernel
  have hinX4 : ∀ w ∈ wsX40, w ∈ wsX4_faultOfWord := by decide +kernel
  refine z_aload_n C dX4_faultOfWord_0 rfl (show zlk _ 0 = some (.ref (ad 1)) from rfl) ?_
  refine z_get C hinX4 1 cc_1 rfl 1 (by decide) (by decide +kernel) cg_1_1 dX4_faultOfWord_1 ?_
  refine z_getN C (host := "GnatPortraits") hinX0 2 cc_2 rfl 0 (by decide) (by decide +kernel) cg_2_0 dX4_faultOfWord_4 ?_
  refine z_if_neB C 22 dX4_faultOfWord_7 (by decide) (fun _ => ?_) (fun h => absurd h (by rw [hb]; decide))
  refine z_iload_n C dX4_faultOfWord_22 rfl (show zlk _ 1 = some (.int (nI 99)) from rfl) ?_
  refine z_lookup C 101 dX4_faultOfWord_23 (by decide) (off := 78) (by decide) (by decide) ?_
  refine z_aload_n C dX4_faultOfWord_101 rfl (show zlk _ 0 = some (.ref (ad 1)) from rfl) ?_
  refine z_get C hinX4 1 cc_1 rfl 1 (by decide) (by decide +kernel) cg_1_1 dX4_faultOfWord_102 ?_
  refine z_getN C (host := "GnatPortraits") hinX0 2 cc_2 rfl 4 (by decide) (by decide +kernel) cg_2_4 dX4_faultOfWord_105 ?_
  refine z_bipush C (v := nI 6) dX4_faultOfWord_108 (by decide) ?_
  refine z_icmp_geF C 117 dX4_faultOfWord_110 (by decide) (by omega) (by omega) (by omega) ?_
  refine z_iconst C (v := nI 0) dX4_faultOfWord_113 (by decide) ?_
  refine z_goto C 118 dX4_faultOfWord_114 (by decide) ?_
  exact E _ _ _ _ (⟨rfl, rfl⟩) (rfl) dX4_faultOfWord_118

set_option maxHeartbeats 4000000 in
set_option maxRecDepth 100000 in
theorem c_X4_faultOfWord_c3 (l : Launch) (θ : zH) (ea : Nat → Nat → Nat) (ad : Nat → Nat) (n : Nat → Nat) (g : Nat → Int32) (b : Nat → Bool) (r : Nat → Nat → Int32) (V : Nat → Ev)  (hb : b 0 = true) (hn : n 8 = 6) : cI l yX4_faultOfWord wsX4_faultOfWord 0 θ [.ref (ad 1), .int (nI 99)] (CW θ ea ad n g b r V) (fun r0 Y => r0 = nI 3 ∧ Y = CW θ ea ad n g b r V) := by
  refine z_cI (by decide) rfl rfl (Nat.le_of_ble_eq_true rfl) (lv := [(0, .ref (ad 1)), (1, .int (nI 99))]) rfl (fun κ C E => ?_)
  have hinX0 : ∀ w ∈ wsX00, w ∈ wsX4_faultOfWord := by decide +kernel
  have hinX4 : ∀ w ∈ wsX40, w ∈ wsX4_faultOfWord := by decide +kernel
  refine z_aload_n C dX4_faultOfWord_0 rfl (show zlk _ 0 = some (.ref (ad 1)) from rfl) ?_
  refine z_get C hinX4 1 cc_1 rfl 1 (by decide) (by decide +kernel) cg_1_1 dX4_faultOfWord_1 ?_
  refine z_getN C (host := "GnatPortraits") hinX0 2 cc_2 rfl 0 (by decide) (by decide +kernel) cg_2_0 dX4_faultOfWord_4 ?_
  refine z_if_neB C 22 dX4_faultOfWord_7 (by decide) (fun _ => ?_) (fun h => absurd h (by rw [hb]; decide))
  refine z_iload_n C dX4_faultOfWord_22 rfl (show zlk _ 1 = some (.int (nI 99)) from rfl) ?_
  refine z_lookup C 101 dX4_faultOfWord_23 (by decide) (off := 78) (by decide) (by decide) ?_
  refine z_aload_n C dX4_faultOfWord_101 rfl (show zlk _ 0 = some (.ref (ad 1)) from rfl) ?_
  refine z_get C hinX4 1 cc_1 rfl 1 (by decide) (by decide +kernel) cg_1_1 dX4_faultOfWord_102 ?_
  refine z_getN C (host := "GnatPortraits") hinX0 2 cc_2 rfl 4 (by decide) (by decide +kernel) cg_2_4 dX4_faultOfWord_105 ?_
  refine z_bipush C (v := nI 6) dX4_faultOfWord_108 (by decide) ?_
  refine z_icmp_geT C 117 dX4_faultOfWord_110 (by decide) (by omega) (by omega) (by omega) ?_
  refine z_iconst C (v := nI 3) dX4_faultOfWord_117 (by decide) ?_
  exact E _ _ _ _ (⟨rfl, rfl⟩) (rfl) dX4_faultOfWord_118

set_option maxHeartbeats 4000000 in
set_option maxRecDepth 100000 in
theorem c_X4_faultOfWord_x1 (l : Launch) (θ : zH) (ea : Nat → Nat → Nat) (ad : Nat → Nat) (n : Nat → Nat) (g : Nat → Int32) (b : Nat → Bool) (r : Nat → Nat → Int32) (V : Nat → Ev) (c : Int32) (hb : b 0 = true) (hc : ¬ c = nI 103 ∧ ¬ c = nI 115 ∧ ¬ c = nI 119 ∧ ¬ c = nI 99) : cI l yX4_faultOfWord wsX4_faultOfWord 0 θ [.ref (ad 1), .int c] (CW θ ea ad n g b r V) (fun r0 Y => r0 = nI 1 ∧ Y = CW θ ea ad n g b r V) := by
  refine z_cI (by decide) rfl rfl (Nat.le_of_ble_eq_true rfl) (lv := [(0, .ref (ad 1)), (1, .int c)]) rfl (fun κ C E => ?_)
  have hinX0 : ∀ w ∈ wsX00, w ∈ wsX4_faultOfWord := by decide +kernel
  have hinX4 : ∀ w ∈ wsX40, w ∈ wsX4_faultOfWord := by decide +kernel
  refine z_aload_n C dX4_faultOfWord_0 rfl (show zlk _ 0 = some (.ref (ad 1)) from rfl) ?_
  refine z_get C hinX4 1 cc_1 rfl 1 (by decide) (by decide +kernel) cg_1_1 dX4_faultOfWord_1 ?_
  refine z_getN C (host := "GnatPortraits") hinX0 2 cc_2 rfl 0 (by decide) (by decide +kernel) cg_2_0 dX4_faultOfWord_4 ?_
  refine z_if_neB C 22 dX4_faultOfWord_7 (by decide) (fun _ => ?_) (fun h => absurd h (by rw [hb]; decide))
  refine z_iload_n C dX4_faultOfWord_22 rfl (show zlk _ 1 = some (.int c) from rfl) ?_
  refine z_lookup C 119 dX4_faultOfWord_23 (by decide) (off := 96) (by have e1 : c.toInt ≠ 99 := fun z => hc.2.2.2 (zf_eq _ _ |>.mpr (by rw [z]; decide)); have e2 : c.toInt ≠ 103 := fun z => hc.1 (zf_eq _ _ |>.mpr (by rw [z]; decide)); have e3 : c.toInt ≠ 115 := fun z => hc.2.1 (zf_eq _ _ |>.mpr (by rw [z]; decide)); have e4 : c.toInt ≠ 119 := fun z => hc.2.2.1 (zf_eq _ _ |>.mpr (by rw [z]; decide)); simp [Op.lookupswitch.offset, e1, e2, e3, e4, Ne.symm e1, Ne.symm e2, Ne.symm e3, Ne.symm e4]) (by decide) ?_
  refine z_iconst C (v := nI 1) dX4_faultOfWord_119 (by decide) ?_
  exact E _ _ _ _ (⟨rfl, rfl⟩) (rfl) dX4_faultOfWord_120

