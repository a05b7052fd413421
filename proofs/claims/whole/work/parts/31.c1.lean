theorem bI_f2 (b : Bool) : fits .boolean (.int (bI b)) = true := by cases b <;> rfl
theorem okN_t {s : Int32} {N : Nat} (h1 : ¬ s < 0) (h2 : ¬ nI N ≤ s) (hN : N < 2 ^ 31) : okN s N = true := by
  unfold okN
  rw [zf_lt] at h1
  rw [zf_le, nI_toInt hN] at h2
  have e : Int32.toInt 0 = 0 := by decide
  simp only [Bool.and_eq_true, decide_eq_true_eq]
  omega
theorem okN_f1 {s : Int32} {N : Nat} (h1 : s < 0) : okN s N = false := by
  unfold okN
  rw [zf_lt] at h1
  have e : Int32.toInt 0 = 0 := by decide
  simp only [Bool.and_eq_false_iff, decide_eq_false_iff_not]
  omega
theorem okN_f2 {s : Int32} {N : Nat} (h2 : nI N ≤ s) (hN : N < 2 ^ 31) : okN s N = false := by
  unfold okN
  rw [zf_le, nI_toInt hN] at h2
  simp only [Bool.and_eq_false_iff, decide_eq_false_iff_not]
  omega
set_option maxHeartbeats 4000000 in
set_option maxRecDepth 100000 in
theorem c_X5_isSitter (l : Launch) (θ : zH) (ea : Nat → Nat → Nat) (ad : Nat → Nat) (n : Nat → Nat) (g : Nat → Int32) (b : Nat → Bool) (r : Nat → Nat → Int32) (V : Nat → Ev) (s : Int32) (hN : n 10 ≤ 6) : cI l yX5_isSitter wsX5_isSitter 0 θ [.ref (ad 0), .int s] (CW θ ea ad n g b r V) (fun r0 Y => r0 = bI (okN s (n 10)) ∧ Y = CW θ ea ad n g b r V) := by
  refine z_cI (by decide) rfl rfl (Nat.le_of_ble_eq_true rfl) (lv := [(0, .ref (ad 0)), (1, .int s)]) rfl (fun κ C E => ?_)
  have hinX0 : ∀ w ∈ wsX00, w ∈ wsX5_isSitter := by decide +kernel
  have hinX5 : ∀ w ∈ wsX50, w ∈ wsX5_isSitter := by decide +kernel
  refine z_iload_n C dX5_isSitter_0 rfl (show zlk _ 1 = some (.int s) from rfl) ?_
  refine z_if_lt C 19 dX5_isSitter_1 (by decide) (fun h1t_1 => ?_) (fun h1n_1 => ?_)
  · refine z_iconst C (v := nI 0) dX5_isSitter_19 (by decide) ?_
    exact E _ _ _ _ (⟨bI_f (okN_f1 h1t_1), rfl⟩) (rfl) dX5_isSitter_20
  · refine z_iload_n C dX5_isSitter_4 rfl (show zlk _ 1 = some (.int s) from rfl) ?_
    refine z_aload_n C dX5_isSitter_5 rfl (show zlk _ 0 = some (.ref (ad 0)) from rfl) ?_
    refine z_get C hinX5 0 cc_0 rfl 1 (by decide) (by decide +kernel) cg_0_1 dX5_isSitter_6 ?_
    refine z_getN C (host := "GnatPortraits") hinX0 3 cc_3 rfl 2 (by decide) (by decide +kernel) cg_3_2 dX5_isSitter_9 ?_
    refine z_icmp_ge C 19 dX5_isSitter_12 (by decide) (fun h12t_2 => ?_) (fun h12n_2 => ?_)
    · refine z_iconst C (v := nI 0) dX5_isSitter_19 (by decide) ?_
      exact E _ _ _ _ (⟨bI_f (okN_f2 h12t_2 (by omega)), rfl⟩) (rfl) dX5_isSitter_20
    · refine z_iconst C (v := nI 1) dX5_isSitter_15 (by decide) ?_
      refine z_goto C 20 dX5_isSitter_16 (by decide) ?_
      exact E _ _ _ _ (⟨bI_t (okN_t h1n_1 h12n_2 (by omega)), rfl⟩) (rfl) dX5_isSitter_20

set_option maxHeartbeats 4000000 in
set_option maxRecDepth 100000 in
theorem c_X5_isWindow (l : Launch) (θ : zH) (ea : Nat → Nat → Nat) (ad : Nat → Nat) (n : Nat → Nat) (g : Nat → Int32) (b : Nat → Bool) (r : Nat → Nat → Int32) (V : Nat → Ev) (s : Int32) (hN : n 11 ≤ 6) : cI l yX5_isWindow wsX5_isWindow 0 θ [.ref (ad 0), .int s] (CW θ ea ad n g b r V) (fun r0 Y => r0 = bI (okN s (n 11)) ∧ Y = CW θ ea ad n g b r V) := by
  refine z_cI (by decide) rfl rfl (Nat.le_of_ble_eq_true rfl) (lv := [(0, .ref (ad 0)), (1, .int s)]) rfl (fun κ C E => ?_)
  have hinX0 : ∀ w ∈ wsX00, w ∈ wsX5_isWindow := by decide +kernel
  have hinX5 : ∀ w ∈ wsX50, w ∈ wsX5_isWindow := by decide +kernel
  refine z_iload_n C dX5_isWindow_0 rfl (show zlk _ 1 = some (.int s) from rfl) ?_
  refine z_if_lt C 19 dX5_isWindow_1 (by decide) (fun h1t_1 => ?_) (fun h1n_1 => ?_)
  · refine z_iconst C (v := nI 0) dX5_isWindow_19 (by decide) ?_
    exact E _ _ _ _ (⟨bI_f (okN_f1 h1t_1), rfl⟩) (rfl) dX5_isWindow_20
  · refine z_iload_n C dX5_isWindow_4 rfl (show zlk _ 1 = some (.int s) from rfl) ?_
    refine z_aload_n C dX5_isWindow_5 rfl (show zlk _ 0 = some (.ref (ad 0)) from rfl) ?_
    refine z_get C hinX5 0 cc_0 rfl 1 (by decide) (by decide +kernel) cg_0_1 dX5_isWindow_6 ?_
    refine z_getN C (host := "GnatPortraits") hinX0 3 cc_3 rfl 3 (by decide) (by decide +kernel) cg_3_3 dX5_isWindow_9 ?_
    refine z_icmp_ge C 19 dX5_isWindow_12 (by decide) (fun h12t_2 => ?_) (fun h12n_2 => ?_)
    · refine z_iconst C (v := nI 0) dX5_isWindow_19 (by decide) ?_
      exact E _ _ _ _ (⟨bI_f (okN_f2 h12t_2 (by omega)), rfl⟩) (rfl) dX5_isWindow_20
    · refine z_iconst C (v := nI 1) dX5_isWindow_15 (by decide) ?_
      refine z_goto C 20 dX5_isWindow_16 (by decide) ?_
      exact E _ _ _ _ (⟨bI_t (okN_t h1n_1 h12n_2 (by omega)), rfl⟩) (rfl) dX5_isWindow_20

set_option maxHeartbeats 4000000 in
set_option maxRecDepth 100000 in
theorem c_X5_isGlass (l : Launch) (θ : zH) (X : va_W) (s : Int32) : cI l yX5_isGlass wsX5_isGlass 0 θ [.int s] (X) (fun r0 Y => r0 = bI (okN s 4) ∧ Y = X) := by
  refine z_cI (by decide) rfl rfl (Nat.le_of_ble_eq_true rfl) (lv := [(0, .int s)]) rfl (fun κ C E => ?_)
  refine z_iload_n C dX5_isGlass_0 rfl (show zlk _ 0 = some (.int s) from rfl) ?_
  refine z_if_lt C 13 dX5_isGlass_1 (by decide) (fun h1t_1 => ?_) (fun h1n_1 => ?_)
  · refine z_iconst C (v := nI 0) dX5_isGlass_13 (by decide) ?_
    exact E _ _ _ _ (⟨bI_f (okN_f1 h1t_1), rfl⟩) (rfl) dX5_isGlass_14
  · refine z_iload_n C dX5_isGlass_4 rfl (show zlk _ 0 = some (.int s) from rfl) ?_
    refine z_iconst C (v := nI 4) dX5_isGlass_5 (by decide) ?_
    refine z_icmp_ge C 13 dX5_isGlass_6 (by decide) (fun h6t_2 => ?_) (fun h6n_2 => ?_)
    · refine z_iconst C (v := nI 0) dX5_isGlass_13 (by decide) ?_
      exact E _ _ _ _ (⟨bI_f (okN_f2 h6t_2 (by omega)), rfl⟩) (rfl) dX5_isGlass_14
    · refine z_iconst C (v := nI 1) dX5_isGlass_9 (by decide) ?_
      refine z_goto C 14 dX5_isGlass_10 (by decide) ?_
      exact E _ _ _ _ (⟨bI_t (okN_t h1n_1 h6n_2 (by omega)), rfl⟩) (rfl) dX5_isGlass_14

set_option maxHeartbeats 4000000 in
set_option maxRecDepth 100000 in
theorem c_X5_isImage (l : Launch) (θ : zH) (X : va_W) (s : Int32) : cI l yX5_isImage wsX5_isImage 0 θ [.int s] (X) (fun r0 Y => r0 = bI (okN s 2) ∧ Y = X) := by
  refine z_cI (by decide) rfl rfl (Nat.le_of_ble_eq_true rfl) (lv := [(0, .int s)]) rfl (fun κ C E => ?_)
  refine z_iload_n C dX5_isImage_0 rfl (show zlk _ 0 = some (.int s) from rfl) ?_
  refine z_if_lt C 13 dX5_isImage_1 (by decide) (fun h1t_1 => ?_) (fun h1n_1 => ?_)
  · refine z_iconst C (v := nI 0) dX5_isImage_13 (by decide) ?_
    exact E _ _ _ _ (⟨bI_f (okN_f1 h1t_1), rfl⟩) (rfl) dX5_isImage_14
  · refine z_iload_n C dX5_isImage_4 rfl (show zlk _ 0 = some (.int s) from rfl) ?_
    refine z_iconst C (v := nI 2) dX5_isImage_5 (by decide) ?_
    refine z_icmp_ge C 13 dX5_isImage_6 (by decide) (fun h6t_2 => ?_) (fun h6n_2 => ?_)
    · refine z_iconst C (v := nI 0) dX5_isImage_13 (by decide) ?_
      exact E _ _ _ _ (⟨bI_f (okN_f2 h6t_2 (by omega)), rfl⟩) (rfl) dX5_isImage_14
    · refine z_iconst C (v := nI 1) dX5_isImage_9 (by decide) ?_
      refine z_goto C 14 dX5_isImage_10 (by decide) ?_
      exact E _ _ _ _ (⟨bI_t (okN_t h1n_1 h6n_2 (by omega)), rfl⟩) (rfl) dX5_isImage_14

set_option maxHeartbeats 4000000 in
set_option maxRecDepth 100000 in
theorem c_X5_isDot (l : Launch) (θ : zH) (X : va_W) (s : Int32) : cI l yX5_isDot wsX5_isDot 0 θ [.int s] (X) (fun r0 Y => r0 = bI (okN s 30) ∧ Y = X) := by
  refine z_cI (by decide) rfl rfl (Nat.le_of_ble_eq_true rfl) (lv := [(0, .int s)]) rfl (fun κ C E => ?_)
  refine z_iload_n C dX5_isDot_0 rfl (show zlk _ 0 = some (.int s) from rfl) ?_
  refine z_if_lt C 14 dX5_isDot_1 (by decide) (fun h1t_1 => ?_) (fun h1n_1 => ?_)
  · refine z_iconst C (v := nI 0) dX5_isDot_14 (by decide) ?_
    exact E _ _ _ _ (⟨bI_f (okN_f1 h1t_1), rfl⟩) (rfl) dX5_isDot_15
  · refine z_iload_n C dX5_isDot_4 rfl (show zlk _ 0 = some (.int s) from rfl) ?_
    refine z_bipush C (v := nI 30) dX5_isDot_5 (by decide) ?_
    refine z_icmp_ge C 14 dX5_isDot_7 (by decide) (fun h7t_2 => ?_) (fun h7n_2 => ?_)
    · refine z_iconst C (v := nI 0) dX5_isDot_14 (by decide) ?_
      exact E _ _ _ _ (⟨bI_f (okN_f2 h7t_2 (by omega)), rfl⟩) (rfl) dX5_isDot_15
    · refine z_iconst C (v := nI 1) dX5_isDot_10 (by decide) ?_
      refine z_goto C 15 dX5_isDot_11 (by decide) ?_
      exact E _ _ _ _ (⟨bI_t (okN_t h1n_1 h7n_2 (by omega)), rfl⟩) (rfl) dX5_isDot_15

theorem okN_g {s : Int32} {N : Nat} (h1 : ¬ s < 0) (h2 : ¬ nI N < s) (hN : N < 2 ^ 31 - 1) : okN s (N + 1) = true := by
  unfold okN
  rw [zf_lt] at h1
  rw [zf_lt, nI_toInt (by omega)] at h2
  have e : Int32.toInt 0 = 0 := by decide
  simp only [Bool.and_eq_true, decide_eq_true_eq]
  omega
theorem okN_g2 {s : Int32} {N : Nat} (h2 : nI N < s) (hN : N < 2 ^ 31 - 1) : okN s (N + 1) = false := by
  unfold okN
  rw [zf_lt, nI_toInt (by omega)] at h2
  simp only [Bool.and_eq_false_iff, decide_eq_false_iff_not]
  omega
set_option maxHeartbeats 4000000 in
set_option maxRecDepth 100000 in
theorem c_X5_isSetOfDots (l : Launch) (θ : zH) (X : va_W) (s : Int32) : cI l yX5_isSetOfDots wsX5_isSetOfDots 0 θ [.int s] (X) (fun r0 Y => r0 = bI (okN s 1073741824) ∧ Y = X) := by
  refine z_cI (by decide) rfl rfl (Nat.le_of_ble_eq_true rfl) (lv := [(0, .int s)]) rfl (fun κ C E => ?_)
  refine z_iload_n C dX5_isSetOfDots_0 rfl (show zlk _ 0 = some (.int s) from rfl) ?_
  refine z_if_lt C 14 dX5_isSetOfDots_1 (by decide) (fun h1t_1 => ?_) (fun h1n_1 => ?_)
  · refine z_iconst C (v := nI 0) dX5_isSetOfDots_14 (by decide) ?_
    exact E _ _ _ _ (⟨bI_f (okN_f1 h1t_1), rfl⟩) (rfl) dX5_isSetOfDots_15
  · refine z_iload_n C dX5_isSetOfDots_4 rfl (show zlk _ 0 = some (.int s) from rfl) ?_
    refine z_ldc C (v := 1073741823) (by decide +kernel) dX5_isSetOfDots_5 ?_
    refine z_top (v' := .int (nI 1073741823)) rfl ?_
    refine z_icmp_gt C 14 dX5_isSetOfDots_7 (by decide) (fun h7t_2 => ?_) (fun h7n_2 => ?_)
    · refine z_iconst C (v := nI 0) dX5_isSetOfDots_14 (by decide) ?_
      exact E _ _ _ _ (⟨bI_f (okN_g2 (N := 1073741823) h7t_2 (by decide)), rfl⟩) (rfl) dX5_isSetOfDots_15
    · refine z_iconst C (v := nI 1) dX5_isSetOfDots_10 (by decide) ?_
      refine z_goto C 15 dX5_isSetOfDots_11 (by decide) ?_
      exact E _ _ _ _ (⟨bI_t (okN_g (N := 1073741823) h1n_1 h7n_2 (by decide)), rfl⟩) (rfl) dX5_isSetOfDots_15

def k_c (d : Int32) (k : Nat) : Int32 := (d >>> (nI (6 * k) &&& 31)) &&& nI 63
def k_f (d bx : Int32) (k : Nat) : Int32 := if 0 ≤ bx then (k_c d k <<< (bx &&& 31)) &&& nI 63 else k_c d k >>> ((-bx) &&& 31)
def k_sh (d bx : Int32) : Nat → Int32
  | 0 => nI 0
  | k + 1 => k_sh d bx k ||| (k_f d bx k <<< (nI (6 * k) &&& 31))
set_option maxHeartbeats 4000000 in
set_option maxRecDepth 100000 in
theorem c_X5_shifted (l : Launch) (θ : zH) (X : va_W) (d bx : Int32) : cI l yX5_shifted wsX5_shifted 0 θ [.int d, .int bx] (X) (fun r0 Y => r0 = k_sh d bx 5 ∧ Y = X) := by
  refine z_cI (by decide) rfl rfl (Nat.le_of_ble_eq_true rfl) (lv := [(0, .int d), (1, .int bx)]) rfl (fun κ C E => ?_)
  refine z_iconst C (v := nI 0) dX5_shifted_0 (by decide) ?_
  refine z_istore_n C [(2, .int (nI 0)), (0, .int d), (1, .int bx)] dX5_shifted_1 rfl (by decide) rfl ?_
  refine z_iconst C (v := nI 0) dX5_shifted_2 (by decide) ?_
  refine z_istore_n C [(3, .int (nI 0)), (2, .int (nI 0)), (0, .int d), (1, .int bx)] dX5_shifted_3 rfl (by decide) rfl ?_
  refine z_lv (lv' := [(0, .int d), (1, .int bx), (2, .int (k_sh d bx 0)), (3, .int (nI 0))]) rfl ?_
  refine z_up (fun k => Z κ (X) 4 [(0, .int d), (1, .int bx), (2, .int (k_sh d bx k)), (3, .int (nI k))] []) (5) ?_ ?_ 0 (by omega)
  · refine z_iload_n C dX5_shifted_4 rfl (show zlk _ 3 = some (.int (nI 5)) from rfl) ?_
    refine z_iconst C (v := nI 5) dX5_shifted_5 (by decide) ?_
    refine z_icmp_geT C 57 dX5_shifted_6 (by decide) (by omega) (by omega) (by omega) ?_
    refine z_iload_n C dX5_shifted_57 rfl (show zlk _ 2 = some (.int (k_sh d bx 5)) from rfl) ?_
    exact E _ _ _ _ (⟨rfl, rfl⟩) (rfl) dX5_shifted_58
  · intro k hk4 ih4
    refine z_iload_n C dX5_shifted_4 rfl (show zlk _ 3 = some (.int (nI k)) from rfl) ?_
    refine z_iconst C (v := nI 5) dX5_shifted_5 (by decide) ?_
    refine z_icmp_geF C 57 dX5_shifted_6 (by decide) (by omega) (by omega) (by omega) ?_
    refine z_iload_n C dX5_shifted_9 rfl (show zlk _ 0 = some (.int d) from rfl) ?_
    refine z_bipush C (v := nI 6) dX5_shifted_10 (by decide) ?_
    refine z_iload_n C dX5_shifted_12 rfl (show zlk _ 3 = some (.int (nI k)) from rfl) ?_
    refine z_imulN C dX5_shifted_13 ?_
    refine z_ishr C dX5_shifted_14 ?_
    refine z_bipush C (v := nI 63) dX5_shifted_15 (by decide) ?_
    refine z_iand C dX5_shifted_17 ?_
    refine z_top (v' := .int (k_c d k)) (rfl) ?_
    refine z_istore C [(4, .int (k_c d k)), (0, .int d), (1, .int bx), (2, .int (k_sh d bx k)), (3, .int (nI k))] dX5_shifted_18 (by decide) rfl ?_
    refine z_iload_n C dX5_shifted_20 rfl (show zlk _ 1 = some (.int bx) from rfl) ?_
    refine z_if_ge C 32 dX5_shifted_21 (by decide) (fun h21t_1 => ?_) (fun h21n_1 => ?_)
    · refine z_iload C dX5_shifted_32 (show zlk _ 4 = some (.int (k_c d k)) from rfl) ?_
      refine z_iload_n C dX5_shifted_34 rfl (show zlk _ 1 = some (.int bx) from rfl) ?_
      refine z_ishl C dX5_shifted_35 ?_
      refine z_bipush C (v := nI 63) dX5_shifted_36 (by decide) ?_
      refine z_iand C dX5_shifted_38 ?_
      refine z_top (v' := .int (k_f d bx k)) (by unfold k_f; rw [if_pos h21t_1]) ?_
      refine z_istore C [(5, .int (k_f d bx k)), (4, .int (k_c d k)), (0, .int d), (1, .int bx), (2, .int (k_sh d bx k)), (3, .int (nI k))] dX5_shifted_39 (by decide) rfl ?_
      refine z_iload_n C dX5_shifted_41 rfl (show zlk _ 2 = some (.int (k_sh d bx k)) from rfl) ?_
      refine z_iload C dX5_shifted_42 (show zlk _ 5 = some (.int (k_f d bx k)) from rfl) ?_
      refine z_bipush C (v := nI 6) dX5_shifted_44 (by decide) ?_
      refine z_iload_n C dX5_shifted_46 rfl (show zlk _ 3 = some (.int (nI k)) from rfl) ?_
      refine z_imulN C dX5_shifted_47 ?_
      refine z_ishl C dX5_shifted_48 ?_
      refine z_ior C dX5_shifted_49 ?_
      refine z_istore_n C [(2, .int ((k_sh d bx k) ||| ((k_f d bx k) <<< ((nI (6 * k)) &&& 31)))), (5, .int (k_f d bx k)), (4, .int (k_c d k)), (0, .int d), (1, .int bx), (3, .int (nI k))] dX5_shifted_50 rfl (by decide) rfl ?_
      refine z_iincN C [(3, .int (nI (k + 1))), (2, .int ((k_sh d bx k) ||| ((k_f d bx k) <<< ((nI (6 * k)) &&& 31)))), (5, .int (k_f d bx k)), (4, .int (k_c d k)), (0, .int d), (1, .int bx)] dX5_shifted_51 rfl (by decide) rfl ?_
      refine z_goto C 4 dX5_shifted_54 (by decide) ?_
      exact z_to (ih4) (rfl) (rfl)
    · refine z_iload C dX5_shifted_24 (show zlk _ 4 = some (.int (k_c d k)) from rfl) ?_
      refine z_iload_n C dX5_shifted_26 rfl (show zlk _ 1 = some (.int bx) from rfl) ?_
      refine z_ineg C dX5_shifted_27 ?_
      refine z_ishr C dX5_shifted_28 ?_
      refine z_goto C 39 dX5_shifted_29 (by decide) ?_
      refine z_top (v' := .int (k_f d bx k)) (by unfold k_f; rw [if_neg h21n_1]) ?_
      refine z_istore C [(5, .int (k_f d bx k)), (4, .int (k_c d k)), (0, .int d), (1, .int bx), (2, .int (k_sh d bx k)), (3, .int (nI k))] dX5_shifted_39 (by decide) rfl ?_
      refine z_iload_n C dX5_shifted_41 rfl (show zlk _ 2 = some (.int (k_sh d bx k)) from rfl) ?_
      refine z_iload C dX5_shifted_42 (show zlk _ 5 = some (.int (k_f d bx k)) from rfl) ?_
      refine z_bipush C (v := nI 6) dX5_shifted_44 (by decide) ?_
      refine z_iload_n C dX5_shifted_46 rfl (show zlk _ 3 = some (.int (nI k)) from rfl) ?_
      refine z_imulN C dX5_shifted_47 ?_
      refine z_ishl C dX5_shifted_48 ?_
      refine z_ior C dX5_shifted_49 ?_
      refine z_istore_n C [(2, .int ((k_sh d bx k) ||| ((k_f d bx k) <<< ((nI (6 * k)) &&& 31)))), (5, .int (k_f d bx k)), (4, .int (k_c d k)), (0, .int d), (1, .int bx), (3, .int (nI k))] dX5_shifted_50 rfl (by decide) rfl ?_
      refine z_iincN C [(3, .int (nI (k + 1))), (2, .int ((k_sh d bx k) ||| ((k_f d bx k) <<< ((nI (6 * k)) &&& 31)))), (5, .int (k_f d bx k)), (4, .int (k_c d k)), (0, .int d), (1, .int bx)] dX5_shifted_51 rfl (by decide) rfl ?_
      refine z_goto C 4 dX5_shifted_54 (by decide) ?_
      exact z_to (ih4) (rfl) (rfl)

def k_lo (d : Int32) (m : Nat) : Nat → Nat × Int32
  | 0 => (0, nI 0)
  | k + 1 => if m ≤ (k_lo d m k).1 then k_lo d m k else if (d >>> (nI k &&& 31)) &&& nI 1 = nI 1 then ((k_lo d m k).1 + 1, (k_lo d m k).2 ||| (nI 1 <<< (nI k &&& 31))) else k_lo d m k
theorem k_lo_le (d : Int32) (m : Nat) : ∀ k, (k_lo d m k).1 ≤ k
  | 0 => by simp [k_lo]
  | k + 1 => by
    have := k_lo_le d m k
    unfold k_lo
    split
    · omega
    · split <;> (try dsimp only) <;> omega
theorem k_lo_st {d : Int32} {m : Nat} : ∀ {j k : Nat}, k ≤ j → m ≤ (k_lo d m k).1 → k_lo d m j = k_lo d m k := by
  intro j k hkj h
  induction j with
  | zero => have : k = 0 := by omega
            subst this; rfl
  | succ j ih =>
    by_cases e : k = j + 1
    · rw [e]
    · have hj := ih (by omega)
      rw [k_lo, if_pos (by rw [hj]; exact h), hj]
set_option maxHeartbeats 4000000 in
set_option maxRecDepth 100000 in
theorem c_X5_lowestOf (l : Launch) (θ : zH) (X : va_W) (d : Int32) (m : Nat) (hm : m < 2 ^ 31) : cI l yX5_lowestOf wsX5_lowestOf 0 θ [.int d, .int (nI m)] (X) (fun r0 Y => r0 = (k_lo d m 30).2 ∧ Y = X) := by
  refine z_cI (by decide) rfl rfl (Nat.le_of_ble_eq_true rfl) (lv := [(0, .int d), (1, .int (nI m))]) rfl (fun κ C E => ?_)
  refine z_iconst C (v := nI 0) dX5_lowestOf_0 (by decide) ?_
  refine z_istore_n C [(2, .int (nI 0)), (0, .int d), (1, .int (nI m))] dX5_lowestOf_1 rfl (by decide) rfl ?_
  refine z_iconst C (v := nI 0) dX5_lowestOf_2 (by decide) ?_
  refine z_istore_n C [(3, .int (nI 0)), (2, .int (nI 0)), (0, .int d), (1, .int (nI m))] dX5_lowestOf_3 rfl (by decide) rfl ?_
  refine z_iconst C (v := nI 0) dX5_lowestOf_4 (by decide) ?_
  refine z_istore C [(4, .int (nI 0)), (3, .int (nI 0)), (2, .int (nI 0)), (0, .int d), (1, .int (nI m))] dX5_lowestOf_5 (by decide) rfl ?_
  refine z_lv (lv' := [(0, .int d), (1, .int (nI m)), (2, .int ((k_lo d m 0).2)), (3, .int (nI ((k_lo d m 0).1))), (4, .int (nI 0))]) rfl ?_
  refine z_up (fun k => Z κ (X) 7 [(0, .int d), (1, .int (nI m)), (2, .int ((k_lo d m k).2)), (3, .int (nI ((k_lo d m k).1))), (4, .int (nI k))] []) (30) ?_ ?_ 0 (by omega)
  · refine z_iload C dX5_lowestOf_7 (show zlk _ 4 = some (.int (nI 30)) from rfl) ?_
    refine z_bipush C (v := nI 30) dX5_lowestOf_9 (by decide) ?_
    refine z_icmp_geT C 45 dX5_lowestOf_11 (by decide) (by omega) (by omega) (by omega) ?_
    refine z_iload_n C dX5_lowestOf_45 rfl (show zlk _ 2 = some (.int ((k_lo d m 30).2)) from rfl) ?_
    exact E _ _ _ _ (⟨rfl, rfl⟩) (rfl) dX5_lowestOf_46
  · intro k hk7 ih7
    refine z_iload C dX5_lowestOf_7 (show zlk _ 4 = some (.int (nI k)) from rfl) ?_
    refine z_bipush C (v := nI 30) dX5_lowestOf_9 (by decide) ?_
    refine z_icmp_geF C 45 dX5_lowestOf_11 (by decide) (by omega) (by omega) (by omega) ?_
    refine z_iload_n C dX5_lowestOf_14 rfl (show zlk _ 3 = some (.int (nI ((k_lo d m k).1))) from rfl) ?_
    refine z_iload_n C dX5_lowestOf_15 rfl (show zlk _ 1 = some (.int (nI m)) from rfl) ?_
    refine z_icmp_geN C 45 dX5_lowestOf_16 (by decide) (by have := k_lo_le d m k; omega) (by omega) (fun h16t_1 => ?_) (fun h16n_1 => ?_)
    · refine z_iload_n C dX5_lowestOf_45 rfl (show zlk _ 2 = some (.int ((k_lo d m k).2)) from rfl) ?_
      exact E _ _ _ _ (⟨by rw [k_lo_st (j := 30) (k := k) (by omega) h16t_1], rfl⟩) (rfl) dX5_lowestOf_46
    · refine z_iload_n C dX5_lowestOf_19 rfl (show zlk _ 0 = some (.int d) from rfl) ?_
      refine z_iload C dX5_lowestOf_20 (show zlk _ 4 = some (.int (nI k)) from rfl) ?_
      refine z_ishr C dX5_lowestOf_22 ?_
      refine z_iconst C (v := nI 1) dX5_lowestOf_23 (by decide) ?_
      refine z_iand C dX5_lowestOf_24 ?_
      refine z_iconst C (v := nI 1) dX5_lowestOf_25 (by decide) ?_
      refine z_icmp_ne C 39 dX5_lowestOf_26 (by decide) (fun h26t_2 => ?_) (fun h26n_2 => ?_)
      · refine z_iincN C [(4, .int (nI (k + 1))), (0, .int d), (1, .int (nI m)), (2, .int ((k_lo d m k).2)), (3, .int (nI ((k_lo d m k).1)))] dX5_lowestOf_39 rfl (by decide) rfl ?_
        refine z_goto C 7 dX5_lowestOf_42 (by decide) ?_
        exact z_to (ih7) (rfl) (by simp [zlk, k_lo, h16n_1, h26t_2])
      · refine z_iload_n C dX5_lowestOf_29 rfl (show zlk _ 2 = some (.int ((k_lo d m k).2)) from rfl) ?_
        refine z_iconst C (v := nI 1) dX5_lowestOf_30 (by decide) ?_
        refine z_iload C dX5_lowestOf_31 (show zlk _ 4 = some (.int (nI k)) from rfl) ?_
        refine z_ishl C dX5_lowestOf_33 ?_
        refine z_ior C dX5_lowestOf_34 ?_
        refine z_istore_n C [(2, .int (((k_lo d m k).2) ||| ((nI 1) <<< ((nI k) &&& 31)))), (0, .int d), (1, .int (nI m)), (3, .int (nI ((k_lo d m k).1))), (4, .int (nI k))] dX5_lowestOf_35 rfl (by decide) rfl ?_
        refine z_iincN C [(3, .int (nI ((k_lo d m k).1 + 1))), (2, .int (((k_lo d m k).2) ||| ((nI 1) <<< ((nI k) &&& 31)))), (0, .int d), (1, .int (nI m)), (4, .int (nI k))] dX5_lowestOf_36 rfl (by decide) rfl ?_
        refine z_iincN C [(4, .int (nI (k + 1))), (3, .int (nI ((k_lo d m k).1 + 1))), (2, .int (((k_lo d m k).2) ||| ((nI 1) <<< ((nI k) &&& 31)))), (0, .int d), (1, .int (nI m))] dX5_lowestOf_39 rfl (by decide) rfl ?_
        refine z_goto C 7 dX5_lowestOf_42 (by decide) ?_
        exact z_to (ih7) (rfl) (by simp [zlk, k_lo, h16n_1, h26n_2])

def ush (x : Int32) (y : Nat) : Int32 := UInt32.toInt32 (Int32.toUInt32 x >>> (Int32.toUInt32 (nI y) &&& Int32.toUInt32 31))
def bc1 (x : Int32) : Int32 := x - (ush x 1 &&& nI 1431655765)
def bc2 (x : Int32) : Int32 := (x &&& nI 858993459) + (ush x 2 &&& nI 858993459)
def bc3 (x : Int32) : Int32 := (x + ush x 4) &&& nI 252645135
def bc4 (x : Int32) : Int32 := x + ush x 8
def bc5 (x : Int32) : Int32 := x + ush x 16
def bcn (x : Int32) : Int32 := bc5 (bc4 (bc3 (bc2 (bc1 x)))) &&& nI 63
set_option maxHeartbeats 4000000 in
set_option maxRecDepth 100000 in
theorem c_J6_bitCount_0f7a4 (l : Launch) (θ : zH) (X : va_W) (x : Int32) : cI l yJ6_bitCount_0f7a4 wsJ6_bitCount_0f7a4 0 θ [.int x] (X) (fun r0 Y => r0 = bcn x ∧ Y = X) := by
  refine z_cI (by decide) rfl rfl (Nat.le_of_ble_eq_true rfl) (lv := [(0, .int x)]) rfl (fun κ C E => ?_)
  refine z_iload_n C dJ6_bitCount_0f7a4_0 rfl (show zlk _ 0 = some (.int x) from rfl) ?_
  refine z_iload_n C dJ6_bitCount_0f7a4_1 rfl (show zlk _ 0 = some (.int x) from rfl) ?_
  refine z_iconst C (v := nI 1) dJ6_bitCount_0f7a4_2 (by decide) ?_
  refine z_iushr C dJ6_bitCount_0f7a4_3 rfl ?_
  refine z_ldcw C (v := 1431655765) (by decide +kernel) dJ6_bitCount_0f7a4_4 ?_
  refine z_top (v' := .int (nI 1431655765)) rfl ?_
  refine z_iand C dJ6_bitCount_0f7a4_7 ?_
  refine z_isub C dJ6_bitCount_0f7a4_8 ?_
  refine z_top (v' := .int (bc1 x)) (rfl) ?_
  refine z_istore_n C [(0, .int (bc1 x))] dJ6_bitCount_0f7a4_9 rfl (by decide) rfl ?_
  refine z_iload_n C dJ6_bitCount_0f7a4_10 rfl (show zlk _ 0 = some (.int (bc1 x)) from rfl) ?_
  refine z_ldcw C (v := 858993459) (by decide +kernel) dJ6_bitCount_0f7a4_11 ?_
  refine z_top (v' := .int (nI 858993459)) rfl ?_
  refine z_iand C dJ6_bitCount_0f7a4_14 ?_
  refine z_iload_n C dJ6_bitCount_0f7a4_15 rfl (show zlk _ 0 = some (.int (bc1 x)) from rfl) ?_
  refine z_iconst C (v := nI 2) dJ6_bitCount_0f7a4_16 (by decide) ?_
  refine z_iushr C dJ6_bitCount_0f7a4_17 rfl ?_
  refine z_ldcw C (v := 858993459) (by decide +kernel) dJ6_bitCount_0f7a4_18 ?_
  refine z_top (v' := .int (nI 858993459)) rfl ?_
  refine z_iand C dJ6_bitCount_0f7a4_21 ?_
  refine z_iadd C dJ6_bitCount_0f7a4_22 ?_
  refine z_top (v' := .int (bc2 (bc1 x))) (rfl) ?_
  refine z_istore_n C [(0, .int (bc2 (bc1 x)))] dJ6_bitCount_0f7a4_23 rfl (by decide) rfl ?_
  refine z_iload_n C dJ6_bitCount_0f7a4_24 rfl (show zlk _ 0 = some (.int (bc2 (bc1 x))) from rfl) ?_
  refine z_iload_n C dJ6_bitCount_0f7a4_25 rfl (show zlk _ 0 = some (.int (bc2 (bc1 x))) from rfl) ?_
  refine z_iconst C (v := nI 4) dJ6_bitCount_0f7a4_26 (by decide) ?_
  refine z_iushr C dJ6_bitCount_0f7a4_27 rfl ?_
  refine z_iadd C dJ6_bitCount_0f7a4_28 ?_
  refine z_ldcw C (v := 252645135) (by decide +kernel) dJ6_bitCount_0f7a4_29 ?_
  refine z_top (v' := .int (nI 252645135)) rfl ?_
  refine z_iand C dJ6_bitCount_0f7a4_32 ?_
  refine z_top (v' := .int (bc3 (bc2 (bc1 x)))) (rfl) ?_
  refine z_istore_n C [(0, .int (bc3 (bc2 (bc1 x))))] dJ6_bitCount_0f7a4_33 rfl (by decide) rfl ?_
  refine z_iload_n C dJ6_bitCount_0f7a4_34 rfl (show zlk _ 0 = some (.int (bc3 (bc2 (bc1 x)))) from rfl) ?_
  refine z_iload_n C dJ6_bitCount_0f7a4_35 rfl (show zlk _ 0 = some (.int (bc3 (bc2 (bc1 x)))) from rfl) ?_
  refine z_bipush C (v := nI 8) dJ6_bitCount_0f7a4_36 (by decide) ?_
  refine z_iushr C dJ6_bitCount_0f7a4_38 rfl ?_
  refine z_iadd C dJ6_bitCount_0f7a4_39 ?_
  refine z_top (v' := .int (bc4 (bc3 (bc2 (bc1 x))))) (rfl) ?_
  refine z_istore_n C [(0, .int (bc4 (bc3 (bc2 (bc1 x)))))] dJ6_bitCount_0f7a4_40 rfl (by decide) rfl ?_
  refine z_iload_n C dJ6_bitCount_0f7a4_41 rfl (show zlk _ 0 = some (.int (bc4 (bc3 (bc2 (bc1 x))))) from rfl) ?_
  refine z_iload_n C dJ6_bitCount_0f7a4_42 rfl (show zlk _ 0 = some (.int (bc4 (bc3 (bc2 (bc1 x))))) from rfl) ?_
  refine z_bipush C (v := nI 16) dJ6_bitCount_0f7a4_43 (by decide) ?_
  refine z_iushr C dJ6_bitCount_0f7a4_45 rfl ?_
  refine z_iadd C dJ6_bitCount_0f7a4_46 ?_
  refine z_top (v' := .int (bc5 (bc4 (bc3 (bc2 (bc1 x)))))) (rfl) ?_
  refine z_istore_n C [(0, .int (bc5 (bc4 (bc3 (bc2 (bc1 x))))))] dJ6_bitCount_0f7a4_47 rfl (by decide) rfl ?_
  refine z_iload_n C dJ6_bitCount_0f7a4_48 rfl (show zlk _ 0 = some (.int (bc5 (bc4 (bc3 (bc2 (bc1 x)))))) from rfl) ?_
  refine z_bipush C (v := nI 63) dJ6_bitCount_0f7a4_49 (by decide) ?_
  refine z_iand C dJ6_bitCount_0f7a4_51 ?_
  exact E _ _ _ _ (⟨rfl, rfl⟩) (rfl) dJ6_bitCount_0f7a4_52

set_option maxHeartbeats 4000000 in
set_option maxRecDepth 100000 in
theorem c_X5_likeness (l : Launch) (θ : zH) (X : va_W) (o s : Int32) : cI l yX5_likeness wsX5_likeness 1 θ [.int o, .int s] (X) (fun r0 Y => r0 = nI 30 - bcn (o ^^^ s) ∧ Y = X) := by
  refine z_cI (by decide) rfl rfl (Nat.le_of_ble_eq_true rfl) (lv := [(0, .int o), (1, .int s)]) rfl (fun κ C E => ?_)
  refine z_bipush C (v := nI 30) dX5_likeness_0 (by decide) ?_
  refine z_iload_n C dX5_likeness_2 rfl (show zlk _ 0 = some (.int o) from rfl) ?_
  refine z_iload_n C dX5_likeness_3 rfl (show zlk _ 1 = some (.int s) from rfl) ?_
  refine z_ixor C dX5_likeness_4 ?_
  refine z_callSi C (As := [.int (o ^^^ s)]) (rest := [.int (nI 30)]) (c_J6_bitCount_0f7a4 l θ _ (o ^^^ s)) gX5_likeness_J6_bitCount_0f7a4 rfl 1 (by decide +kernel) (by decide) (by decide) rfl rfl (Nat.le_of_ble_eq_true rfl) dX5_likeness_5 ?_
  rintro _ _ ⟨rfl, rfl⟩
  refine z_isub C dX5_likeness_8 ?_
  exact E _ _ _ _ (⟨rfl, rfl⟩) (rfl) dX5_likeness_9

