set_option maxHeartbeats 4000000 in
set_option maxRecDepth 100000 in
theorem c_X6_in (l : Launch) (θ : zH) (X : va_W) (v a b : Int64) : cI l yX6_in wsX6_in 0 θ [.long v, .long a, .long b] (X) (fun r Y => r = bI (m_in v a b) ∧ Y = X) := by
  refine z_cI (by decide) rfl rfl (Nat.le_of_ble_eq_true rfl) (lv := [(0, .long v), (2, .long a), (4, .long b)]) rfl (fun κ C E => ?_)
  refine z_lload_n C dX6_in_0 rfl (show zlk _ 0 = some (.long v) from rfl) ?_
  refine z_lload_n C dX6_in_1 rfl (show zlk _ 2 = some (.long a) from rfl) ?_
  refine z_lcmp C dX6_in_2 ?_
  refine z_if_lt C 17 dX6_in_3 (by decide) (fun h3t_1 => ?_) (fun h3n_1 => ?_)
  · refine z_iconst C (v := nI 0) dX6_in_17 (by decide) ?_
    exact E _ _ _ _ (⟨bI_f (by simp only [lg_lt, lg_gt] at h3t_1; simp [m_in]; omega), rfl⟩) (rfl) dX6_in_18
  · refine z_lload_n C dX6_in_6 rfl (show zlk _ 0 = some (.long v) from rfl) ?_
    refine z_lload C dX6_in_7 (show zlk _ 4 = some (.long b) from rfl) ?_
    refine z_lcmp C dX6_in_9 ?_
    refine z_if_gt C 17 dX6_in_10 (by decide) (fun h10t_2 => ?_) (fun h10n_2 => ?_)
    · refine z_iconst C (v := nI 0) dX6_in_17 (by decide) ?_
      exact E _ _ _ _ (⟨bI_f (by simp only [lg_lt, lg_gt] at h3n_1 h10t_2; simp [m_in]; omega), rfl⟩) (rfl) dX6_in_18
    · refine z_iconst C (v := nI 1) dX6_in_13 (by decide) ?_
      refine z_goto C 18 dX6_in_14 (by decide) ?_
      exact E _ _ _ _ (⟨bI_t (by simp only [lg_lt, lg_gt] at h3n_1 h10n_2; simp [m_in]; omega), rfl⟩) (rfl) dX6_in_18

def m_has (set k : Int32) : Bool := decide ((set >>> (k &&& 31)) &&& 1 = 1)
set_option maxHeartbeats 4000000 in
set_option maxRecDepth 100000 in
theorem c_X6_has (l : Launch) (θ : zH) (X : va_W) (set k : Int32) : cI l yX6_has wsX6_has 0 θ [.int set, .int k] (X) (fun r Y => r = bI (m_has set k) ∧ Y = X) := by
  refine z_cI (by decide) rfl rfl (Nat.le_of_ble_eq_true rfl) (lv := [(0, .int set), (1, .int k)]) rfl (fun κ C E => ?_)
  refine z_iload_n C dX6_has_0 rfl (show zlk _ 0 = some (.int set) from rfl) ?_
  refine z_iload_n C dX6_has_1 rfl (show zlk _ 1 = some (.int k) from rfl) ?_
  refine z_ishr C dX6_has_2 ?_
  refine z_iconst C (v := nI 1) dX6_has_3 (by decide) ?_
  refine z_iand C dX6_has_4 ?_
  refine z_iconst C (v := nI 1) dX6_has_5 (by decide) ?_
  refine z_icmp_ne C 13 dX6_has_6 (by decide) (fun h6t_1 => ?_) (fun h6n_1 => ?_)
  · refine z_iconst C (v := nI 0) dX6_has_13 (by decide) ?_
    exact E _ _ _ _ (⟨bI_f (by unfold m_has; first | exact decide_eq_true h6t_1 | exact decide_eq_false h6t_1), rfl⟩) (rfl) dX6_has_14
  · refine z_iconst C (v := nI 1) dX6_has_9 (by decide) ?_
    refine z_goto C 14 dX6_has_10 (by decide) ?_
    exact E _ _ _ _ (⟨bI_t (by unfold m_has; first | exact decide_eq_true h6n_1 | exact decide_eq_false h6n_1), rfl⟩) (rfl) dX6_has_14

def m_ones (set : Int32) : Nat → Int32
  | 0 => 0
  | k + 1 => m_ones set k + ((set >>> (nI k &&& 31)) &&& 1)
set_option maxHeartbeats 4000000 in
set_option maxRecDepth 100000 in
theorem c_X6_ones (l : Launch) (θ : zH) (X : va_W) (set : Int32) : cI l yX6_ones wsX6_ones 0 θ [.int set] (X) (fun r Y => r = m_ones set 30 ∧ Y = X) := by
  refine z_cI (by decide) rfl rfl (Nat.le_of_ble_eq_true rfl) (lv := [(0, .int set)]) rfl (fun κ C E => ?_)
  refine z_iconst C (v := nI 0) dX6_ones_0 (by decide) ?_
  refine z_istore_n C [(1, .int (nI 0)), (0, .int set)] dX6_ones_1 rfl (by decide) rfl ?_
  refine z_iconst C (v := nI 0) dX6_ones_2 (by decide) ?_
  refine z_istore_n C [(2, .int (nI 0)), (1, .int (nI 0)), (0, .int set)] dX6_ones_3 rfl (by decide) rfl ?_
  refine z_lv (lv' := [(0, .int set), (1, .int (m_ones set 0)), (2, .int (nI 0))]) rfl ?_
  refine z_up (fun k => Z κ (X) 4 [(0, .int set), (1, .int (m_ones set k)), (2, .int (nI k))] []) (30) ?_ ?_ 0 (by omega)
  · refine z_iload_n C dX6_ones_4 rfl (show zlk _ 2 = some (.int (nI 30)) from rfl) ?_
    refine z_bipush C (v := nI 30) dX6_ones_5 (by decide) ?_
    refine z_icmp_geT C 24 dX6_ones_7 (by decide) (by omega) (by omega) (by omega) ?_
    refine z_iload_n C dX6_ones_24 rfl (show zlk _ 1 = some (.int (m_ones set 30)) from rfl) ?_
    exact E _ _ _ _ (⟨rfl, rfl⟩) (rfl) dX6_ones_25
  · intro k hk4 ih4
    refine z_iload_n C dX6_ones_4 rfl (show zlk _ 2 = some (.int (nI k)) from rfl) ?_
    refine z_bipush C (v := nI 30) dX6_ones_5 (by decide) ?_
    refine z_icmp_geF C 24 dX6_ones_7 (by decide) (by omega) (by omega) (by omega) ?_
    refine z_iload_n C dX6_ones_10 rfl (show zlk _ 1 = some (.int (m_ones set k)) from rfl) ?_
    refine z_iload_n C dX6_ones_11 rfl (show zlk _ 0 = some (.int set) from rfl) ?_
    refine z_iload_n C dX6_ones_12 rfl (show zlk _ 2 = some (.int (nI k)) from rfl) ?_
    refine z_ishr C dX6_ones_13 ?_
    refine z_iconst C (v := nI 1) dX6_ones_14 (by decide) ?_
    refine z_iand C dX6_ones_15 ?_
    refine z_iadd C dX6_ones_16 ?_
    refine z_istore_n C [(1, .int ((m_ones set k) + ((set >>> ((nI k) &&& 31)) &&& (nI 1)))), (0, .int set), (2, .int (nI k))] dX6_ones_17 rfl (by decide) rfl ?_
    refine z_iincN C [(2, .int (nI (k + 1))), (1, .int ((m_ones set k) + ((set >>> ((nI k) &&& 31)) &&& (nI 1)))), (0, .int set)] dX6_ones_18 rfl (by decide) rfl ?_
    refine z_goto C 4 dX6_ones_21 (by decide) ?_
    exact z_to (ih4) (rfl) (rfl)

def m_shb (set bx : Int32) (k : Nat) : Int32 := bif m_has set (nI k) && m_in (Int32.toInt64 (nI (k % 6) + bx)) 0 5 then nI 1 <<< ((nI k + bx) &&& 31) else nI 0
def m_sh (set bx : Int32) : Nat → Int32
  | 0 => nI 0
  | k + 1 => m_sh set bx k ||| m_shb set bx k
set_option maxHeartbeats 4000000 in
set_option maxRecDepth 100000 in
theorem c_X6_shifted (l : Launch) (θ : zH) (X : va_W) (set bx : Int32) : cI l yX6_shifted wsX6_shifted 1 θ [.int set, .int bx] (X) (fun r Y => r = m_sh set bx 30 ∧ Y = X) := by
  refine z_cI (by decide) rfl rfl (Nat.le_of_ble_eq_true rfl) (lv := [(0, .int set), (1, .int bx)]) rfl (fun κ C E => ?_)
  refine z_iconst C (v := nI 0) dX6_shifted_0 (by decide) ?_
  refine z_istore_n C [(2, .int (nI 0)), (0, .int set), (1, .int bx)] dX6_shifted_1 rfl (by decide) rfl ?_
  refine z_iconst C (v := nI 0) dX6_shifted_2 (by decide) ?_
  refine z_istore_n C [(3, .int (nI 0)), (2, .int (nI 0)), (0, .int set), (1, .int bx)] dX6_shifted_3 rfl (by decide) rfl ?_
  refine z_lv (lv' := [(0, .int set), (1, .int bx), (2, .int (m_sh set bx 0)), (3, .int (nI 0))]) rfl ?_
  refine z_up (fun k => Z κ (X) 4 [(0, .int set), (1, .int bx), (2, .int (m_sh set bx k)), (3, .int (nI k))] []) (30) ?_ ?_ 0 (by omega)
  · refine z_iload_n C dX6_shifted_4 rfl (show zlk _ 3 = some (.int (nI 30)) from rfl) ?_
    refine z_bipush C (v := nI 30) dX6_shifted_5 (by decide) ?_
    refine z_icmp_geT C 57 dX6_shifted_7 (by decide) (by omega) (by omega) (by omega) ?_
    refine z_iload_n C dX6_shifted_57 rfl (show zlk _ 2 = some (.int (m_sh set bx 30)) from rfl) ?_
    exact E _ _ _ _ (⟨rfl, rfl⟩) (rfl) dX6_shifted_58
  · intro k hk4 ih4
    refine z_iload_n C dX6_shifted_4 rfl (show zlk _ 3 = some (.int (nI k)) from rfl) ?_
    refine z_bipush C (v := nI 30) dX6_shifted_5 (by decide) ?_
    refine z_icmp_geF C 57 dX6_shifted_7 (by decide) (by omega) (by omega) (by omega) ?_
    refine z_iload_n C dX6_shifted_10 rfl (show zlk _ 3 = some (.int (nI k)) from rfl) ?_
    refine z_bipush C (v := nI 6) dX6_shifted_11 (by decide) ?_
    refine z_iremN C dX6_shifted_13 (by omega) (by omega) (by omega) ?_
    refine z_iload_n C dX6_shifted_14 rfl (show zlk _ 1 = some (.int bx) from rfl) ?_
    refine z_iadd C dX6_shifted_15 ?_
    refine z_istore C [(4, .int ((nI (k % 6)) + bx)), (0, .int set), (1, .int bx), (2, .int (m_sh set bx k)), (3, .int (nI k))] dX6_shifted_16 (by decide) rfl ?_
    refine z_iload_n C dX6_shifted_18 rfl (show zlk _ 2 = some (.int (m_sh set bx k)) from rfl) ?_
    refine z_iload_n C dX6_shifted_19 rfl (show zlk _ 0 = some (.int set) from rfl) ?_
    refine z_iload_n C dX6_shifted_20 rfl (show zlk _ 3 = some (.int (nI k)) from rfl) ?_
    refine z_callSi C (As := [.int set, .int (nI k)]) (rest := [.int (m_sh set bx k)]) (c_X6_has l θ _ set (nI k)) gX6_shifted_X6_has rfl 2 (by decide +kernel) (by decide) (by decide) rfl rfl (Nat.le_of_ble_eq_true rfl) dX6_shifted_21 ?_
    rintro _ _ ⟨rfl, rfl⟩
    refine z_if_eqB C 48 dX6_shifted_24 (by decide) (fun h24t_1 => ?_) (fun h24n_1 => ?_)
    · refine z_iconst C (v := nI 0) dX6_shifted_48 (by decide) ?_
      refine z_ior C dX6_shifted_49 ?_
      refine z_istore_n C [(2, .int ((m_sh set bx k) ||| (nI 0))), (4, .int ((nI (k % 6)) + bx)), (0, .int set), (1, .int bx), (3, .int (nI k))] dX6_shifted_50 rfl (by decide) rfl ?_
      refine z_iincN C [(3, .int (nI (k + 1))), (2, .int ((m_sh set bx k) ||| (nI 0))), (4, .int ((nI (k % 6)) + bx)), (0, .int set), (1, .int bx)] dX6_shifted_51 rfl (by decide) rfl ?_
      refine z_goto C 4 dX6_shifted_54 (by decide) ?_
      exact z_to (ih4) (rfl) (by simp [zlk, m_sh, m_shb, h24t_1])
    · refine z_iload C dX6_shifted_27 (show zlk _ 4 = some (.int ((nI (k % 6)) + bx)) from rfl) ?_
      refine z_i2l C dX6_shifted_29 ?_
      refine z_lconst C (v := 0) dX6_shifted_30 (by decide) ?_
      refine z_ldc2 C (v := 5) (by decide +kernel) dX6_shifted_31 ?_
      refine z_callSi C (As := [.long (Int32.toInt64 ((nI (k % 6)) + bx)), .long 0, .long (5)]) (rest := [.int (m_sh set bx k)]) (c_X6_in l θ _ (Int32.toInt64 ((nI (k % 6)) + bx)) 0 (5)) gX6_shifted_X6_in rfl 3 (by decide +kernel) (by decide) (by decide) rfl rfl (Nat.le_of_ble_eq_true rfl) dX6_shifted_34 ?_
      rintro _ _ ⟨rfl, rfl⟩
      refine z_if_eqB C 48 dX6_shifted_37 (by decide) (fun h37t_2 => ?_) (fun h37n_2 => ?_)
      · refine z_iconst C (v := nI 0) dX6_shifted_48 (by decide) ?_
        refine z_ior C dX6_shifted_49 ?_
        refine z_istore_n C [(2, .int ((m_sh set bx k) ||| (nI 0))), (4, .int ((nI (k % 6)) + bx)), (0, .int set), (1, .int bx), (3, .int (nI k))] dX6_shifted_50 rfl (by decide) rfl ?_
        refine z_iincN C [(3, .int (nI (k + 1))), (2, .int ((m_sh set bx k) ||| (nI 0))), (4, .int ((nI (k % 6)) + bx)), (0, .int set), (1, .int bx)] dX6_shifted_51 rfl (by decide) rfl ?_
        refine z_goto C 4 dX6_shifted_54 (by decide) ?_
        exact z_to (ih4) (rfl) (by simp [zlk, m_sh, m_shb, h24n_1, h37t_2])
      · refine z_iconst C (v := nI 1) dX6_shifted_40 (by decide) ?_
        refine z_iload_n C dX6_shifted_41 rfl (show zlk _ 3 = some (.int (nI k)) from rfl) ?_
        refine z_iload_n C dX6_shifted_42 rfl (show zlk _ 1 = some (.int bx) from rfl) ?_
        refine z_iadd C dX6_shifted_43 ?_
        refine z_ishl C dX6_shifted_44 ?_
        refine z_goto C 49 dX6_shifted_45 (by decide) ?_
        refine z_ior C dX6_shifted_49 ?_
        refine z_istore_n C [(2, .int ((m_sh set bx k) ||| ((nI 1) <<< (((nI k) + bx) &&& 31)))), (4, .int ((nI (k % 6)) + bx)), (0, .int set), (1, .int bx), (3, .int (nI k))] dX6_shifted_50 rfl (by decide) rfl ?_
        refine z_iincN C [(3, .int (nI (k + 1))), (2, .int ((m_sh set bx k) ||| ((nI 1) <<< (((nI k) + bx) &&& 31)))), (4, .int ((nI (k % 6)) + bx)), (0, .int set), (1, .int bx)] dX6_shifted_51 rfl (by decide) rfl ?_
        refine z_goto C 4 dX6_shifted_54 (by decide) ?_
        exact z_to (ih4) (rfl) (by simp [zlk, m_sh, m_shb, h24n_1, h37n_2])

def m_mask (cs : Int32) : Nat → Int32
  | 0 => nI 0
  | k + 1 => m_mask cs k ||| (bif m_has cs (nI (k % 6)) then nI 1 <<< (nI k &&& 31) else nI 0)
set_option maxHeartbeats 4000000 in
set_option maxRecDepth 100000 in
theorem c_X6_maskOf (l : Launch) (θ : zH) (X : va_W) (cs : Int32) : cI l yX6_maskOf wsX6_maskOf 1 θ [.int cs] (X) (fun r Y => r = m_mask cs 30 ∧ Y = X) := by
  refine z_cI (by decide) rfl rfl (Nat.le_of_ble_eq_true rfl) (lv := [(0, .int cs)]) rfl (fun κ C E => ?_)
  refine z_iconst C (v := nI 0) dX6_maskOf_0 (by decide) ?_
  refine z_istore_n C [(1, .int (nI 0)), (0, .int cs)] dX6_maskOf_1 rfl (by decide) rfl ?_
  refine z_iconst C (v := nI 0) dX6_maskOf_2 (by decide) ?_
  refine z_istore_n C [(2, .int (nI 0)), (1, .int (nI 0)), (0, .int cs)] dX6_maskOf_3 rfl (by decide) rfl ?_
  refine z_lv (lv' := [(0, .int cs), (1, .int (m_mask cs 0)), (2, .int (nI 0))]) rfl ?_
  refine z_up (fun k => Z κ (X) 4 [(0, .int cs), (1, .int (m_mask cs k)), (2, .int (nI k))] []) (30) ?_ ?_ 0 (by omega)
  · refine z_iload_n C dX6_maskOf_4 rfl (show zlk _ 2 = some (.int (nI 30)) from rfl) ?_
    refine z_bipush C (v := nI 30) dX6_maskOf_5 (by decide) ?_
    refine z_icmp_geT C 37 dX6_maskOf_7 (by decide) (by omega) (by omega) (by omega) ?_
    refine z_iload_n C dX6_maskOf_37 rfl (show zlk _ 1 = some (.int (m_mask cs 30)) from rfl) ?_
    exact E _ _ _ _ (⟨rfl, rfl⟩) (rfl) dX6_maskOf_38
  · intro k hk4 ih4
    refine z_iload_n C dX6_maskOf_4 rfl (show zlk _ 2 = some (.int (nI k)) from rfl) ?_
    refine z_bipush C (v := nI 30) dX6_maskOf_5 (by decide) ?_
    refine z_icmp_geF C 37 dX6_maskOf_7 (by decide) (by omega) (by omega) (by omega) ?_
    refine z_iload_n C dX6_maskOf_10 rfl (show zlk _ 1 = some (.int (m_mask cs k)) from rfl) ?_
    refine z_iload_n C dX6_maskOf_11 rfl (show zlk _ 0 = some (.int cs) from rfl) ?_
    refine z_iload_n C dX6_maskOf_12 rfl (show zlk _ 2 = some (.int (nI k)) from rfl) ?_
    refine z_bipush C (v := nI 6) dX6_maskOf_13 (by decide) ?_
    refine z_iremN C dX6_maskOf_15 (by omega) (by omega) (by omega) ?_
    refine z_callSi C (As := [.int cs, .int (nI (k % 6))]) (rest := [.int (m_mask cs k)]) (c_X6_has l θ _ cs (nI (k % 6))) gX6_maskOf_X6_has rfl 2 (by decide +kernel) (by decide) (by decide) rfl rfl (Nat.le_of_ble_eq_true rfl) dX6_maskOf_16 ?_
    rintro _ _ ⟨rfl, rfl⟩
    refine z_if_eqB C 28 dX6_maskOf_19 (by decide) (fun h19t_1 => ?_) (fun h19n_1 => ?_)
    · refine z_iconst C (v := nI 0) dX6_maskOf_28 (by decide) ?_
      refine z_ior C dX6_maskOf_29 ?_
      refine z_istore_n C [(1, .int ((m_mask cs k) ||| (nI 0))), (0, .int cs), (2, .int (nI k))] dX6_maskOf_30 rfl (by decide) rfl ?_
      refine z_iincN C [(2, .int (nI (k + 1))), (1, .int ((m_mask cs k) ||| (nI 0))), (0, .int cs)] dX6_maskOf_31 rfl (by decide) rfl ?_
      refine z_goto C 4 dX6_maskOf_34 (by decide) ?_
      exact z_to (ih4) (rfl) (by simp [zlk, m_mask, h19t_1])
    · refine z_iconst C (v := nI 1) dX6_maskOf_22 (by decide) ?_
      refine z_iload_n C dX6_maskOf_23 rfl (show zlk _ 2 = some (.int (nI k)) from rfl) ?_
      refine z_ishl C dX6_maskOf_24 ?_
      refine z_goto C 29 dX6_maskOf_25 (by decide) ?_
      refine z_ior C dX6_maskOf_29 ?_
      refine z_istore_n C [(1, .int ((m_mask cs k) ||| ((nI 1) <<< ((nI k) &&& 31)))), (0, .int cs), (2, .int (nI k))] dX6_maskOf_30 rfl (by decide) rfl ?_
      refine z_iincN C [(2, .int (nI (k + 1))), (1, .int ((m_mask cs k) ||| ((nI 1) <<< ((nI k) &&& 31)))), (0, .int cs)] dX6_maskOf_31 rfl (by decide) rfl ?_
      refine z_goto C 4 dX6_maskOf_34 (by decide) ?_
      exact z_to (ih4) (rfl) (by simp [zlk, m_mask, h19n_1])

set_option maxHeartbeats 4000000 in
set_option maxRecDepth 100000 in
theorem c_X6_isCapital (l : Launch) (θ : zH) (ad : Nat → Nat) (n : Nat → Nat) (g : Int32) (r : Nat → Nat → Int32)  (h0 : n 0 < 2 ^ 31) : cI l yX6_isCapital wsX6_isCapital 0 θ [.ref (ad 0)] (MW θ ad n g r) (fun r0 Y => r0 = bI (decide (0 < n 0)) ∧ Y = MW θ ad n g r) := by
  refine z_cI (by decide) rfl rfl (Nat.le_of_ble_eq_true rfl) (lv := [(0, .ref (ad 0))]) rfl (fun κ C E => ?_)
  have hin : ∀ w ∈ wsX60, w ∈ wsX6_isCapital := by decide +kernel
  refine z_aload_n C dX6_isCapital_0 rfl (show zlk _ 0 = some (.ref (ad 0)) from rfl) ?_
  refine z_mg C hin 0 (by decide) (by decide +kernel) (v := .int (nI (n 0))) mf_0 dX6_isCapital_1 ?_
  refine z_if_leN C 11 dX6_isCapital_4 (by decide) (by omega) (fun h4t_1 => ?_) (fun h4n_1 => ?_)
  · refine z_iconst C (v := nI 0) dX6_isCapital_11 (by decide) ?_
    exact E _ _ _ _ (⟨bI_f (by simp; omega), rfl⟩) (rfl) dX6_isCapital_12
  · refine z_iconst C (v := nI 1) dX6_isCapital_7 (by decide) ?_
    refine z_goto C 12 dX6_isCapital_8 (by decide) ?_
    exact E _ _ _ _ (⟨bI_t (by simp; omega), rfl⟩) (rfl) dX6_isCapital_12

theorem m_in_ok {s : Int32} {N : Nat} (hN : N < 2 ^ 30) : m_in (Int32.toInt64 s) 0 (Int32.toInt64 (nI N - nI 1)) = okN s N := by
  unfold m_in okN
  rw [Int32.toInt_toInt64, Int32.toInt_toInt64, pk_sub_toInt hN (by decide)]
  have e : (Int64.toInt 0) = 0 := by decide
  rw [e]
  congr 1
  rw [Bool.eq_iff_iff]
  simp only [decide_eq_true_eq]
  omega
set_option maxHeartbeats 4000000 in
set_option maxRecDepth 100000 in
theorem c_X6_isSitter (l : Launch) (θ : zH) (ad : Nat → Nat) (n : Nat → Nat) (g : Int32) (r : Nat → Nat → Int32) (s : Int32) (h0 : n 1 < 2 ^ 30) : cI l yX6_isSitter wsX6_isSitter 1 θ [.ref (ad 0), .int s] (MW θ ad n g r) (fun r0 Y => r0 = bI (okN s (n 1)) ∧ Y = MW θ ad n g r) := by
  refine z_cI (by decide) rfl rfl (Nat.le_of_ble_eq_true rfl) (lv := [(0, .ref (ad 0)), (1, .int s)]) rfl (fun κ C E => ?_)
  have hin : ∀ w ∈ wsX60, w ∈ wsX6_isSitter := by decide +kernel
  refine z_iload_n C dX6_isSitter_0 rfl (show zlk _ 1 = some (.int s) from rfl) ?_
  refine z_i2l C dX6_isSitter_1 ?_
  refine z_lconst C (v := 0) dX6_isSitter_2 (by decide) ?_
  refine z_aload_n C dX6_isSitter_3 rfl (show zlk _ 0 = some (.ref (ad 0)) from rfl) ?_
  refine z_mg C hin 1 (by decide) (by decide +kernel) (v := .int (nI (n 1))) mf_1 dX6_isSitter_4 ?_
  refine z_iconst C (v := nI 1) dX6_isSitter_7 (by decide) ?_
  refine z_isub C dX6_isSitter_8 ?_
  refine z_i2l C dX6_isSitter_9 ?_
  refine z_callSi C (As := [.long (Int32.toInt64 s), .long 0, .long (Int32.toInt64 ((nI (n 1)) - (nI 1)))]) (rest := []) (c_X6_in l θ _ (Int32.toInt64 s) 0 (Int32.toInt64 ((nI (n 1)) - (nI 1)))) gX6_isSitter_X6_in rfl 3 (by decide +kernel) (by decide) (by decide) rfl rfl (Nat.le_of_ble_eq_true rfl) dX6_isSitter_10 ?_
  rintro _ _ ⟨rfl, rfl⟩
  exact E _ _ _ _ (⟨by rw [m_in_ok h0], rfl⟩) (bI_n _) dX6_isSitter_13

set_option maxHeartbeats 4000000 in
set_option maxRecDepth 100000 in
theorem c_X6_isWindow (l : Launch) (θ : zH) (ad : Nat → Nat) (n : Nat → Nat) (g : Int32) (r : Nat → Nat → Int32) (s : Int32) (h0 : n 3 < 2 ^ 30) : cI l yX6_isWindow wsX6_isWindow 1 θ [.ref (ad 0), .int s] (MW θ ad n g r) (fun r0 Y => r0 = bI (okN s (n 3)) ∧ Y = MW θ ad n g r) := by
  refine z_cI (by decide) rfl rfl (Nat.le_of_ble_eq_true rfl) (lv := [(0, .ref (ad 0)), (1, .int s)]) rfl (fun κ C E => ?_)
  have hin : ∀ w ∈ wsX60, w ∈ wsX6_isWindow := by decide +kernel
  refine z_iload_n C dX6_isWindow_0 rfl (show zlk _ 1 = some (.int s) from rfl) ?_
  refine z_i2l C dX6_isWindow_1 ?_
  refine z_lconst C (v := 0) dX6_isWindow_2 (by decide) ?_
  refine z_aload_n C dX6_isWindow_3 rfl (show zlk _ 0 = some (.ref (ad 0)) from rfl) ?_
  refine z_mg C hin 3 (by decide) (by decide +kernel) (v := .int (nI (n 3))) mf_3 dX6_isWindow_4 ?_
  refine z_iconst C (v := nI 1) dX6_isWindow_7 (by decide) ?_
  refine z_isub C dX6_isWindow_8 ?_
  refine z_i2l C dX6_isWindow_9 ?_
  refine z_callSi C (As := [.long (Int32.toInt64 s), .long 0, .long (Int32.toInt64 ((nI (n 3)) - (nI 1)))]) (rest := []) (c_X6_in l θ _ (Int32.toInt64 s) 0 (Int32.toInt64 ((nI (n 3)) - (nI 1)))) gX6_isWindow_X6_in rfl 3 (by decide +kernel) (by decide) (by decide) rfl rfl (Nat.le_of_ble_eq_true rfl) dX6_isWindow_10 ?_
  rintro _ _ ⟨rfl, rfl⟩
  exact E _ _ _ _ (⟨by rw [m_in_ok h0], rfl⟩) (bI_n _) dX6_isWindow_13

def m_who (at_ : Nat → Int32) (k : Int32) : Nat → Int32
  | 0 => (-1)
  | s + 1 => if at_ (6 + s) = k then nI s else m_who at_ k s
set_option maxHeartbeats 4000000 in
set_option maxRecDepth 100000 in
theorem c_X6_whoIsAt (l : Launch) (θ : zH) (ad : Nat → Nat) (n : Nat → Nat) (g : Int32) (r : Nat → Nat → Int32) (k : Int32) (h0 : n 1 ≤ 6) : cI l yX6_whoIsAt wsX6_whoIsAt 0 θ [.ref (ad 0), .int k] (MW θ ad n g r) (fun r0 Y => r0 = m_who (r 7) k (n 1) ∧ Y = MW θ ad n g r) := by
  refine z_cI (by decide) rfl rfl (Nat.le_of_ble_eq_true rfl) (lv := [(0, .ref (ad 0)), (1, .int k)]) rfl (fun κ C E => ?_)
  have hin : ∀ w ∈ wsX60, w ∈ wsX6_whoIsAt := by decide +kernel
  refine z_iconst C (v := (-1)) dX6_whoIsAt_0 (by decide) ?_
  refine z_istore_n C [(2, .int (-1)), (0, .ref (ad 0)), (1, .int k)] dX6_whoIsAt_1 rfl (by decide) rfl ?_
  refine z_iconst C (v := nI 0) dX6_whoIsAt_2 (by decide) ?_
  refine z_istore_n C [(3, .int (nI 0)), (2, .int (-1)), (0, .ref (ad 0)), (1, .int k)] dX6_whoIsAt_3 rfl (by decide) rfl ?_
  refine z_lv (lv' := [(0, .ref (ad 0)), (1, .int k), (2, .int (m_who (r 7) k 0)), (3, .int (nI 0))]) rfl ?_
  refine z_up (fun j => Z κ (MW θ ad n g r) 4 [(0, .ref (ad 0)), (1, .int k), (2, .int (m_who (r 7) k j)), (3, .int (nI j))] []) (n 1) ?_ ?_ 0 (by omega)
  · refine z_iload_n C dX6_whoIsAt_4 rfl (show zlk _ 3 = some (.int (nI (n 1))) from rfl) ?_
    refine z_aload_n C dX6_whoIsAt_5 rfl (show zlk _ 0 = some (.ref (ad 0)) from rfl) ?_
    refine z_mg C hin 1 (by decide) (by decide +kernel) (v := .int (nI (n 1))) mf_1 dX6_whoIsAt_6 ?_
    refine z_icmp_geT C 37 dX6_whoIsAt_9 (by decide) (by omega) (by omega) (by omega) ?_
    refine z_iload_n C dX6_whoIsAt_37 rfl (show zlk _ 2 = some (.int (m_who (r 7) k (n 1))) from rfl) ?_
    exact E _ _ _ _ (⟨rfl, rfl⟩) (rfl) dX6_whoIsAt_38
  · intro j hk4 ih4
    refine z_iload_n C dX6_whoIsAt_4 rfl (show zlk _ 3 = some (.int (nI j)) from rfl) ?_
    refine z_aload_n C dX6_whoIsAt_5 rfl (show zlk _ 0 = some (.ref (ad 0)) from rfl) ?_
    refine z_mg C hin 1 (by decide) (by decide +kernel) (v := .int (nI (n 1))) mf_1 dX6_whoIsAt_6 ?_
    refine z_icmp_geF C 37 dX6_whoIsAt_9 (by decide) (by omega) (by omega) (by omega) ?_
    refine z_aload_n C dX6_whoIsAt_12 rfl (show zlk _ 0 = some (.ref (ad 0)) from rfl) ?_
    refine z_mg C hin 7 (by decide) (by decide +kernel) (v := .ref (ad 7)) mf_7 dX6_whoIsAt_13 ?_
    refine z_bipush C (v := nI 6) dX6_whoIsAt_16 (by decide) ?_
    refine z_iload_n C dX6_whoIsAt_18 rfl (show zlk _ 3 = some (.int (nI j)) from rfl) ?_
    refine z_iaddN C dX6_whoIsAt_19 ?_
    refine z_iald C (f := (r 7)) 4 mr_7 (6 + j) rfl (by omega) (by decide) dX6_whoIsAt_20 ?_
    refine z_iload_n C dX6_whoIsAt_21 rfl (show zlk _ 1 = some (.int k) from rfl) ?_
    refine z_icmp_ne C 29 dX6_whoIsAt_22 (by decide) (fun h22t_1 => ?_) (fun h22n_1 => ?_)
    · refine z_iload_n C dX6_whoIsAt_29 rfl (show zlk _ 2 = some (.int (m_who (r 7) k j)) from rfl) ?_
      refine z_istore_n C [(2, .int (m_who (r 7) k j)), (0, .ref (ad 0)), (1, .int k), (3, .int (nI j))] dX6_whoIsAt_30 rfl (by decide) rfl ?_
      refine z_iincN C [(3, .int (nI (j + 1))), (2, .int (m_who (r 7) k j)), (0, .ref (ad 0)), (1, .int k)] dX6_whoIsAt_31 rfl (by decide) rfl ?_
      refine z_goto C 4 dX6_whoIsAt_34 (by decide) ?_
      exact z_to (ih4) (rfl) (by simp [zlk, m_who, h22t_1])
    · refine z_iload_n C dX6_whoIsAt_25 rfl (show zlk _ 3 = some (.int (nI j)) from rfl) ?_
      refine z_goto C 30 dX6_whoIsAt_26 (by decide) ?_
      refine z_istore_n C [(2, .int (nI j)), (0, .ref (ad 0)), (1, .int k), (3, .int (nI j))] dX6_whoIsAt_30 rfl (by decide) rfl ?_
      refine z_iincN C [(3, .int (nI (j + 1))), (2, .int (nI j)), (0, .ref (ad 0)), (1, .int k)] dX6_whoIsAt_31 rfl (by decide) rfl ?_
      refine z_goto C 4 dX6_whoIsAt_34 (by decide) ?_
      exact z_to (ih4) (rfl) (by simp [zlk, m_who, h22n_1])

