def k_lf (g : Nat → Int32) (o x : Int32) : Int32 := (k_sh o (x + g 3) 5 &&& ((g 4 * nI 17043521) ^^^ (-1))) &&& (g 5 ^^^ (-1))
def k_dB (G : Nat) (g : Nat → Int32) (o x : Int32) : Int32 := (k_lo (k_lf g o x) G 30).2
def k_dAt (n : Nat → Nat) (g : Nat → Int32) (b : Nat → Bool) (r : Nat → Nat → Int32) (w : Nat) : Int32 := if okN (r 8 w) (n 10) = false ∨ b 2 = true ∨ (g 6 >>> (nI w &&& 31)) &&& nI 1 = nI 1 then nI 0 else k_dB (n 9) g (r 4 (r 8 w).toNatClampNeg) (r 7 w)
def k_cl (n : Nat → Nat) (g : Nat → Int32) (b : Nat → Bool) (r : Nat → Nat → Int32) : Nat → Int32
  | 0 => nI 0
  | k + 1 => k_cl n g b r k ||| k_dAt n g b r k
set_option maxHeartbeats 4000000 in
set_option maxRecDepth 100000 in
theorem c_X5_drawnBy (l : Launch) (θ : zH) (ea : Nat → Nat → Nat) (ad : Nat → Nat) (n : Nat → Nat) (g : Nat → Int32) (b : Nat → Bool) (r : Nat → Nat → Int32) (V : Nat → Ev) (o x : Int32) (h9 : n 9 ≤ 30) : cI l yX5_drawnBy wsX5_drawnBy 1 θ [.ref (ad 0), .int o, .int x] (CW θ ea ad n g b r V) (fun r0 Y => r0 = k_dB (n 9) g o x ∧ Y = CW θ ea ad n g b r V) := by
  refine z_cI (by decide) rfl rfl (Nat.le_of_ble_eq_true rfl) (lv := [(0, .ref (ad 0)), (1, .int o), (2, .int x)]) rfl (fun κ C E => ?_)
  have hinX0 : ∀ w ∈ wsX00, w ∈ wsX5_drawnBy := by decide +kernel
  have hinX1 : ∀ w ∈ wsX10, w ∈ wsX5_drawnBy := by decide +kernel
  have hinX5 : ∀ w ∈ wsX50, w ∈ wsX5_drawnBy := by decide +kernel
  refine z_iload_n C dX5_drawnBy_0 rfl (show zlk _ 1 = some (.int o) from rfl) ?_
  refine z_iload_n C dX5_drawnBy_1 rfl (show zlk _ 2 = some (.int x) from rfl) ?_
  refine z_aload_n C dX5_drawnBy_2 rfl (show zlk _ 0 = some (.ref (ad 0)) from rfl) ?_
  refine z_get C hinX5 0 cc_0 rfl 2 (by decide) (by decide +kernel) cg_0_2 dX5_drawnBy_3 ?_
  refine z_getN C (host := "GnatPortraits") hinX1 4 cc_4 rfl 0 (by decide) (by decide +kernel) cg_4_0 dX5_drawnBy_6 ?_
  refine z_iadd C dX5_drawnBy_9 ?_
  refine z_callSi C (As := [.int o, .int (x + (g 3))]) (rest := []) (c_X5_shifted l θ _ o (x + (g 3))) gX5_drawnBy_X5_shifted rfl 2 (by decide +kernel) (by decide) (by decide) rfl rfl (Nat.le_of_ble_eq_true rfl) dX5_drawnBy_10 ?_
  rintro _ _ ⟨rfl, rfl⟩
  refine z_istore_n C [(3, .int (k_sh o (x + (g 3)) 5)), (0, .ref (ad 0)), (1, .int o), (2, .int x)] dX5_drawnBy_13 rfl (by decide) rfl ?_
  refine z_iload_n C dX5_drawnBy_14 rfl (show zlk _ 3 = some (.int (k_sh o (x + (g 3)) 5)) from rfl) ?_
  refine z_aload_n C dX5_drawnBy_15 rfl (show zlk _ 0 = some (.ref (ad 0)) from rfl) ?_
  refine z_get C hinX5 0 cc_0 rfl 2 (by decide) (by decide +kernel) cg_0_2 dX5_drawnBy_16 ?_
  refine z_getN C (host := "GnatPortraits") hinX1 4 cc_4 rfl 1 (by decide) (by decide +kernel) cg_4_1 dX5_drawnBy_19 ?_
  refine z_ldcw C (v := 17043521) (by decide +kernel) dX5_drawnBy_22 ?_
  refine z_top (v' := .int (nI 17043521)) rfl ?_
  refine z_imul C dX5_drawnBy_25 ?_
  refine z_iconst C (v := (-1)) dX5_drawnBy_26 (by decide) ?_
  refine z_ixor C dX5_drawnBy_27 ?_
  refine z_iand C dX5_drawnBy_28 ?_
  refine z_aload_n C dX5_drawnBy_29 rfl (show zlk _ 0 = some (.ref (ad 0)) from rfl) ?_
  refine z_get C hinX5 0 cc_0 rfl 2 (by decide) (by decide +kernel) cg_0_2 dX5_drawnBy_30 ?_
  refine z_getN C (host := "GnatPortraits") hinX1 4 cc_4 rfl 2 (by decide) (by decide +kernel) cg_4_2 dX5_drawnBy_33 ?_
  refine z_iconst C (v := (-1)) dX5_drawnBy_36 (by decide) ?_
  refine z_ixor C dX5_drawnBy_37 ?_
  refine z_iand C dX5_drawnBy_38 ?_
  refine z_top (v' := .int (k_lf g o x)) (rfl) ?_
  refine z_istore C [(4, .int (k_lf g o x)), (3, .int (k_sh o (x + (g 3)) 5)), (0, .ref (ad 0)), (1, .int o), (2, .int x)] dX5_drawnBy_39 (by decide) rfl ?_
  refine z_iload C dX5_drawnBy_41 (show zlk _ 4 = some (.int (k_lf g o x)) from rfl) ?_
  refine z_aload_n C dX5_drawnBy_43 rfl (show zlk _ 0 = some (.ref (ad 0)) from rfl) ?_
  refine z_get C hinX5 0 cc_0 rfl 1 (by decide) (by decide +kernel) cg_0_1 dX5_drawnBy_44 ?_
  refine z_getN C (host := "GnatPortraits") hinX0 3 cc_3 rfl 1 (by decide) (by decide +kernel) cg_3_1 dX5_drawnBy_47 ?_
  refine z_callSi C (As := [.int (k_lf g o x), .int (nI (n 9))]) (rest := []) (c_X5_lowestOf l θ _ (k_lf g o x) (n 9) (by omega)) gX5_drawnBy_X5_lowestOf rfl 2 (by decide +kernel) (by decide) (by decide) rfl rfl (Nat.le_of_ble_eq_true rfl) dX5_drawnBy_50 ?_
  rintro _ _ ⟨rfl, rfl⟩
  exact E _ _ _ _ (⟨rfl, rfl⟩) (rfl) dX5_drawnBy_53

set_option maxHeartbeats 4000000 in
set_option maxRecDepth 100000 in
theorem c_X5_drawnAt (l : Launch) (θ : zH) (ea : Nat → Nat → Nat) (ad : Nat → Nat) (n : Nat → Nat) (g : Nat → Int32) (b : Nat → Bool) (r : Nat → Nat → Int32) (V : Nat → Ev) (w : Nat) (hw : w < 5) (hS : n 10 ≤ 6) (h9 : n 9 ≤ 30) : cI l yX5_drawnAt wsX5_drawnAt 2 θ [.ref (ad 0), .int (nI w)] (CW θ ea ad n g b r V) (fun r0 Y => r0 = k_dAt n g b r w ∧ Y = CW θ ea ad n g b r V) := by
  refine z_cI (by decide) rfl rfl (Nat.le_of_ble_eq_true rfl) (lv := [(0, .ref (ad 0)), (1, .int (nI w))]) rfl (fun κ C E => ?_)
  have hinX0 : ∀ w ∈ wsX00, w ∈ wsX5_drawnAt := by decide +kernel
  have hinX1 : ∀ w ∈ wsX10, w ∈ wsX5_drawnAt := by decide +kernel
  have hinX5 : ∀ w ∈ wsX50, w ∈ wsX5_drawnAt := by decide +kernel
  refine z_aload_n C dX5_drawnAt_0 rfl (show zlk _ 0 = some (.ref (ad 0)) from rfl) ?_
  refine z_get C hinX5 0 cc_0 rfl 2 (by decide) (by decide +kernel) cg_0_2 dX5_drawnAt_1 ?_
  refine z_getN C (host := "GnatPortraits") hinX1 4 cc_4 rfl 9 (by decide) (by decide +kernel) cg_4_9 dX5_drawnAt_4 ?_
  refine z_iload_n C dX5_drawnAt_7 rfl (show zlk _ 1 = some (.int (nI w)) from rfl) ?_
  refine z_iald C (f := (r 8)) 19 ca_19 w rfl (by omega) (by decide) dX5_drawnAt_8 ?_
  refine z_istore_n C [(2, .int ((r 8) w)), (0, .ref (ad 0)), (1, .int (nI w))] dX5_drawnAt_9 rfl (by decide) rfl ?_
  refine z_aload_n C dX5_drawnAt_10 rfl (show zlk _ 0 = some (.ref (ad 0)) from rfl) ?_
  refine z_iload_n C dX5_drawnAt_11 rfl (show zlk _ 2 = some (.int ((r 8) w)) from rfl) ?_
  refine z_callVi C (As := [.int ((r 8) w)]) (rest := []) (c_X5_isSitter l θ ea ad n g b r V ((r 8) w) (by omega)) gX5_drawnAt_X5_isSitter rfl 1 (by decide +kernel) (by decide) (by decide) 0 rfl rfl rfl rfl rfl (Nat.le_of_ble_eq_true rfl) dX5_drawnAt_12 ?_
  rintro _ _ ⟨rfl, rfl⟩
  refine z_if_eqB C 43 dX5_drawnAt_15 (by decide) (fun h15t_1 => ?_) (fun h15n_1 => ?_)
  · refine z_iconst C (v := nI 0) dX5_drawnAt_43 (by decide) ?_
    exact E _ _ _ _ (⟨by simp [k_dAt, h15t_1], rfl⟩) (rfl) dX5_drawnAt_44
  · refine z_aload_n C dX5_drawnAt_18 rfl (show zlk _ 0 = some (.ref (ad 0)) from rfl) ?_
    refine z_get C hinX5 0 cc_0 rfl 2 (by decide) (by decide +kernel) cg_0_2 dX5_drawnAt_19 ?_
    refine z_getN C (host := "GnatPortraits") hinX1 4 cc_4 rfl 3 (by decide) (by decide +kernel) cg_4_3 dX5_drawnAt_22 ?_
    refine z_if_neB C 43 dX5_drawnAt_25 (by decide) (fun h25t_2 => ?_) (fun h25n_2 => ?_)
    · refine z_iconst C (v := nI 0) dX5_drawnAt_43 (by decide) ?_
      exact E _ _ _ _ (⟨by simp [k_dAt, h15n_1, h25t_2], rfl⟩) (rfl) dX5_drawnAt_44
    · refine z_aload_n C dX5_drawnAt_28 rfl (show zlk _ 0 = some (.ref (ad 0)) from rfl) ?_
      refine z_get C hinX5 0 cc_0 rfl 2 (by decide) (by decide +kernel) cg_0_2 dX5_drawnAt_29 ?_
      refine z_getN C (host := "GnatPortraits") hinX1 4 cc_4 rfl 4 (by decide) (by decide +kernel) cg_4_4 dX5_drawnAt_32 ?_
      refine z_iload_n C dX5_drawnAt_35 rfl (show zlk _ 1 = some (.int (nI w)) from rfl) ?_
      refine z_ishr C dX5_drawnAt_36 ?_
      refine z_iconst C (v := nI 1) dX5_drawnAt_37 (by decide) ?_
      refine z_iand C dX5_drawnAt_38 ?_
      refine z_iconst C (v := nI 1) dX5_drawnAt_39 (by decide) ?_
      refine z_icmp_ne C 45 dX5_drawnAt_40 (by decide) (fun h40t_3 => ?_) (fun h40n_3 => ?_)
      · obtain ⟨j, hj, ej⟩ := okN_of h15n_1 (by omega)
        have ejc : (r 8 w).toNatClampNeg = j := by rw [ej]; exact nI_clamp (by omega)
        refine z_lv (lv' := [(0, .ref (ad 0)), (1, .int (nI w)), (2, .int (nI j))]) (by rw [← ej]; rfl) ?_
        refine z_aload_n C dX5_drawnAt_45 rfl (show zlk _ 0 = some (.ref (ad 0)) from rfl) ?_
        refine z_aload_n C dX5_drawnAt_46 rfl (show zlk _ 0 = some (.ref (ad 0)) from rfl) ?_
        refine z_get C hinX5 0 cc_0 rfl 1 (by decide) (by decide +kernel) cg_0_1 dX5_drawnAt_47 ?_
        refine z_getN C (host := "GnatPortraits") hinX0 3 cc_3 rfl 5 (by decide) (by decide +kernel) cg_3_5 dX5_drawnAt_50 ?_
        refine z_iload_n C dX5_drawnAt_53 rfl (show zlk _ 2 = some (.int (nI j)) from rfl) ?_
        refine z_iald C (f := (r 4)) 15 ca_15 j rfl (by omega) (by decide) dX5_drawnAt_54 ?_
        refine z_aload_n C dX5_drawnAt_55 rfl (show zlk _ 0 = some (.ref (ad 0)) from rfl) ?_
        refine z_get C hinX5 0 cc_0 rfl 2 (by decide) (by decide +kernel) cg_0_2 dX5_drawnAt_56 ?_
        refine z_getN C (host := "GnatPortraits") hinX1 4 cc_4 rfl 8 (by decide) (by decide +kernel) cg_4_8 dX5_drawnAt_59 ?_
        refine z_iload_n C dX5_drawnAt_62 rfl (show zlk _ 1 = some (.int (nI w)) from rfl) ?_
        refine z_iald C (f := (r 7)) 18 ca_18 w rfl (by omega) (by decide) dX5_drawnAt_63 ?_
        refine z_callVi C (As := [.int ((r 4) j), .int ((r 7) w)]) (rest := []) (c_X5_drawnBy l θ ea ad n g b r V ((r 4) j) ((r 7) w) (h9)) gX5_drawnAt_X5_drawnBy rfl 2 (by decide +kernel) (by decide) (by decide) 0 rfl rfl rfl rfl rfl (Nat.le_of_ble_eq_true rfl) dX5_drawnAt_64 ?_
        rintro _ _ ⟨rfl, rfl⟩
        exact E _ _ _ _ (⟨by simp [k_dAt, h15n_1, h25n_2, h40t_3, ejc], rfl⟩) (rfl) dX5_drawnAt_67
      · refine z_iconst C (v := nI 0) dX5_drawnAt_43 (by decide) ?_
        exact E _ _ _ _ (⟨by simp [k_dAt, h15n_1, h25n_2, h40n_3], rfl⟩) (rfl) dX5_drawnAt_44

set_option maxHeartbeats 4000000 in
set_option maxRecDepth 100000 in
theorem c_X5_cloudNow (l : Launch) (θ : zH) (ea : Nat → Nat → Nat) (ad : Nat → Nat) (n : Nat → Nat) (g : Nat → Int32) (b : Nat → Bool) (r : Nat → Nat → Int32) (V : Nat → Ev)  (hW : n 11 ≤ 5) (hS : n 10 ≤ 6) (h9 : n 9 ≤ 30) : cI l yX5_cloudNow wsX5_cloudNow 3 θ [.ref (ad 0)] (CW θ ea ad n g b r V) (fun r0 Y => r0 = k_cl n g b r (n 11) ∧ Y = CW θ ea ad n g b r V) := by
  refine z_cI (by decide) rfl rfl (Nat.le_of_ble_eq_true rfl) (lv := [(0, .ref (ad 0))]) rfl (fun κ C E => ?_)
  have hinX0 : ∀ w ∈ wsX00, w ∈ wsX5_cloudNow := by decide +kernel
  have hinX5 : ∀ w ∈ wsX50, w ∈ wsX5_cloudNow := by decide +kernel
  refine z_iconst C (v := nI 0) dX5_cloudNow_0 (by decide) ?_
  refine z_istore_n C [(1, .int (nI 0)), (0, .ref (ad 0))] dX5_cloudNow_1 rfl (by decide) rfl ?_
  refine z_iconst C (v := nI 0) dX5_cloudNow_2 (by decide) ?_
  refine z_istore_n C [(2, .int (nI 0)), (1, .int (nI 0)), (0, .ref (ad 0))] dX5_cloudNow_3 rfl (by decide) rfl ?_
  refine z_lv (lv' := [(0, .ref (ad 0)), (1, .int (k_cl n g b r 0)), (2, .int (nI 0))]) rfl ?_
  refine z_up (fun k => Z κ (CW θ ea ad n g b r V) 4 [(0, .ref (ad 0)), (1, .int (k_cl n g b r k)), (2, .int (nI k))] []) (n 11) ?_ ?_ 0 (by omega)
  · refine z_iload_n C dX5_cloudNow_4 rfl (show zlk _ 2 = some (.int (nI (n 11))) from rfl) ?_
    refine z_aload_n C dX5_cloudNow_5 rfl (show zlk _ 0 = some (.ref (ad 0)) from rfl) ?_
    refine z_get C hinX5 0 cc_0 rfl 1 (by decide) (by decide +kernel) cg_0_1 dX5_cloudNow_6 ?_
    refine z_getN C (host := "GnatPortraits") hinX0 3 cc_3 rfl 3 (by decide) (by decide +kernel) cg_3_3 dX5_cloudNow_9 ?_
    refine z_icmp_geT C 29 dX5_cloudNow_12 (by decide) (by omega) (by omega) (by omega) ?_
    refine z_iload_n C dX5_cloudNow_29 rfl (show zlk _ 1 = some (.int (k_cl n g b r (n 11))) from rfl) ?_
    exact E _ _ _ _ (⟨rfl, rfl⟩) (rfl) dX5_cloudNow_30
  · intro k hk4 ih4
    refine z_iload_n C dX5_cloudNow_4 rfl (show zlk _ 2 = some (.int (nI k)) from rfl) ?_
    refine z_aload_n C dX5_cloudNow_5 rfl (show zlk _ 0 = some (.ref (ad 0)) from rfl) ?_
    refine z_get C hinX5 0 cc_0 rfl 1 (by decide) (by decide +kernel) cg_0_1 dX5_cloudNow_6 ?_
    refine z_getN C (host := "GnatPortraits") hinX0 3 cc_3 rfl 3 (by decide) (by decide +kernel) cg_3_3 dX5_cloudNow_9 ?_
    refine z_icmp_geF C 29 dX5_cloudNow_12 (by decide) (by omega) (by omega) (by omega) ?_
    refine z_iload_n C dX5_cloudNow_15 rfl (show zlk _ 1 = some (.int (k_cl n g b r k)) from rfl) ?_
    refine z_aload_n C dX5_cloudNow_16 rfl (show zlk _ 0 = some (.ref (ad 0)) from rfl) ?_
    refine z_iload_n C dX5_cloudNow_17 rfl (show zlk _ 2 = some (.int (nI k)) from rfl) ?_
    refine z_callVi C (As := [.int (nI k)]) (rest := [.int (k_cl n g b r k)]) (c_X5_drawnAt l θ ea ad n g b r V k (by omega) hS h9) gX5_cloudNow_X5_drawnAt rfl 1 (by decide +kernel) (by decide) (by decide) 0 rfl rfl rfl rfl rfl (Nat.le_of_ble_eq_true rfl) dX5_cloudNow_18 ?_
    rintro _ _ ⟨rfl, rfl⟩
    refine z_ior C dX5_cloudNow_21 ?_
    refine z_istore_n C [(1, .int ((k_cl n g b r k) ||| (k_dAt n g b r k))), (0, .ref (ad 0)), (2, .int (nI k))] dX5_cloudNow_22 rfl (by decide) rfl ?_
    refine z_iincN C [(2, .int (nI (k + 1))), (1, .int ((k_cl n g b r k) ||| (k_dAt n g b r k))), (0, .ref (ad 0))] dX5_cloudNow_23 rfl (by decide) rfl ?_
    refine z_goto C 4 dX5_cloudNow_26 (by decide) ?_
    exact z_to (ih4) (rfl) (rfl)

def k_ml (o : Nat → Int32) (set lk : Int32) : Nat → Int32 × Int32
  | 0 => ((-1), nI 31)
  | s + 1 => if (k_ml o set lk s).2 ≤ bcn ((o s ^^^ set) &&& lk) then k_ml o set lk s else (nI s, bcn ((o s ^^^ set) &&& lk))
set_option maxHeartbeats 4000000 in
set_option maxRecDepth 100000 in
theorem c_X5_mostLike (l : Launch) (θ : zH) (ea : Nat → Nat → Nat) (ad : Nat → Nat) (n : Nat → Nat) (g : Nat → Int32) (b : Nat → Bool) (r : Nat → Nat → Int32) (V : Nat → Ev) (set lk : Int32) (hS : n 10 ≤ 6) : cI l yX5_mostLike wsX5_mostLike 1 θ [.ref (ad 0), .int set, .int lk] (CW θ ea ad n g b r V) (fun r0 Y => r0 = (k_ml (r 4) set lk (n 10)).1 ∧ Y = CW θ ea ad n g b r V) := by
  refine z_cI (by decide) rfl rfl (Nat.le_of_ble_eq_true rfl) (lv := [(0, .ref (ad 0)), (1, .int set), (2, .int lk)]) rfl (fun κ C E => ?_)
  have hinX0 : ∀ w ∈ wsX00, w ∈ wsX5_mostLike := by decide +kernel
  have hinX5 : ∀ w ∈ wsX50, w ∈ wsX5_mostLike := by decide +kernel
  refine z_iconst C (v := (-1)) dX5_mostLike_0 (by decide) ?_
  refine z_istore_n C [(3, .int (-1)), (0, .ref (ad 0)), (1, .int set), (2, .int lk)] dX5_mostLike_1 rfl (by decide) rfl ?_
  refine z_bipush C (v := nI 31) dX5_mostLike_2 (by decide) ?_
  refine z_istore C [(4, .int (nI 31)), (3, .int (-1)), (0, .ref (ad 0)), (1, .int set), (2, .int lk)] dX5_mostLike_4 (by decide) rfl ?_
  refine z_iconst C (v := nI 0) dX5_mostLike_6 (by decide) ?_
  refine z_istore C [(5, .int (nI 0)), (4, .int (nI 31)), (3, .int (-1)), (0, .ref (ad 0)), (1, .int set), (2, .int lk)] dX5_mostLike_7 (by decide) rfl ?_
  refine z_lv (lv' := [(0, .ref (ad 0)), (1, .int set), (2, .int lk), (3, .int ((k_ml (r 4) set lk 0).1)), (4, .int ((k_ml (r 4) set lk 0).2)), (5, .int (nI 0))]) rfl ?_
  refine z_up (fun k => Z κ (CW θ ea ad n g b r V) 9 [(0, .ref (ad 0)), (1, .int set), (2, .int lk), (3, .int ((k_ml (r 4) set lk k).1)), (4, .int ((k_ml (r 4) set lk k).2)), (5, .int (nI k))] []) (n 10) ?_ ?_ 0 (by omega)
  · refine z_iload C dX5_mostLike_9 (show zlk _ 5 = some (.int (nI (n 10))) from rfl) ?_
    refine z_aload_n C dX5_mostLike_11 rfl (show zlk _ 0 = some (.ref (ad 0)) from rfl) ?_
    refine z_get C hinX5 0 cc_0 rfl 1 (by decide) (by decide +kernel) cg_0_1 dX5_mostLike_12 ?_
    refine z_getN C (host := "GnatPortraits") hinX0 3 cc_3 rfl 2 (by decide) (by decide +kernel) cg_3_2 dX5_mostLike_15 ?_
    refine z_icmp_geT C 60 dX5_mostLike_18 (by decide) (by omega) (by omega) (by omega) ?_
    refine z_iload_n C dX5_mostLike_60 rfl (show zlk _ 3 = some (.int ((k_ml (r 4) set lk (n 10)).1)) from rfl) ?_
    exact E _ _ _ _ (⟨rfl, rfl⟩) (rfl) dX5_mostLike_61
  · intro k hk9 ih9
    refine z_iload C dX5_mostLike_9 (show zlk _ 5 = some (.int (nI k)) from rfl) ?_
    refine z_aload_n C dX5_mostLike_11 rfl (show zlk _ 0 = some (.ref (ad 0)) from rfl) ?_
    refine z_get C hinX5 0 cc_0 rfl 1 (by decide) (by decide +kernel) cg_0_1 dX5_mostLike_12 ?_
    refine z_getN C (host := "GnatPortraits") hinX0 3 cc_3 rfl 2 (by decide) (by decide +kernel) cg_3_2 dX5_mostLike_15 ?_
    refine z_icmp_geF C 60 dX5_mostLike_18 (by decide) (by omega) (by omega) (by omega) ?_
    refine z_aload_n C dX5_mostLike_21 rfl (show zlk _ 0 = some (.ref (ad 0)) from rfl) ?_
    refine z_get C hinX5 0 cc_0 rfl 1 (by decide) (by decide +kernel) cg_0_1 dX5_mostLike_22 ?_
    refine z_getN C (host := "GnatPortraits") hinX0 3 cc_3 rfl 5 (by decide) (by decide +kernel) cg_3_5 dX5_mostLike_25 ?_
    refine z_iload C dX5_mostLike_28 (show zlk _ 5 = some (.int (nI k)) from rfl) ?_
    refine z_iald C (f := (r 4)) 15 ca_15 k rfl (by omega) (by decide) dX5_mostLike_30 ?_
    refine z_iload_n C dX5_mostLike_31 rfl (show zlk _ 1 = some (.int set) from rfl) ?_
    refine z_ixor C dX5_mostLike_32 ?_
    refine z_iload_n C dX5_mostLike_33 rfl (show zlk _ 2 = some (.int lk) from rfl) ?_
    refine z_iand C dX5_mostLike_34 ?_
    refine z_callSi C (As := [.int ((((r 4) k) ^^^ set) &&& lk)]) (rest := []) (c_J6_bitCount_0f7a4 l θ _ ((((r 4) k) ^^^ set) &&& lk)) gX5_mostLike_J6_bitCount_0f7a4 rfl 1 (by decide +kernel) (by decide) (by decide) rfl rfl (Nat.le_of_ble_eq_true rfl) dX5_mostLike_35 ?_
    rintro _ _ ⟨rfl, rfl⟩
    refine z_istore C [(6, .int (bcn ((((r 4) k) ^^^ set) &&& lk))), (0, .ref (ad 0)), (1, .int set), (2, .int lk), (3, .int ((k_ml (r 4) set lk k).1)), (4, .int ((k_ml (r 4) set lk k).2)), (5, .int (nI k))] dX5_mostLike_38 (by decide) rfl ?_
    refine z_iload C dX5_mostLike_40 (show zlk _ 6 = some (.int (bcn ((((r 4) k) ^^^ set) &&& lk))) from rfl) ?_
    refine z_iload C dX5_mostLike_42 (show zlk _ 4 = some (.int ((k_ml (r 4) set lk k).2)) from rfl) ?_
    refine z_icmp_ge C 54 dX5_mostLike_44 (by decide) (fun h44t_1 => ?_) (fun h44n_1 => ?_)
    · refine z_iincN C [(5, .int (nI (k + 1))), (6, .int (bcn ((((r 4) k) ^^^ set) &&& lk))), (0, .ref (ad 0)), (1, .int set), (2, .int lk), (3, .int ((k_ml (r 4) set lk k).1)), (4, .int ((k_ml (r 4) set lk k).2))] dX5_mostLike_54 rfl (by decide) rfl ?_
      refine z_goto C 9 dX5_mostLike_57 (by decide) ?_
      exact z_to (ih9) (rfl) (by simp [zlk, k_ml, h44t_1])
    · refine z_iload C dX5_mostLike_47 (show zlk _ 6 = some (.int (bcn ((((r 4) k) ^^^ set) &&& lk))) from rfl) ?_
      refine z_istore C [(4, .int (bcn ((((r 4) k) ^^^ set) &&& lk))), (6, .int (bcn ((((r 4) k) ^^^ set) &&& lk))), (0, .ref (ad 0)), (1, .int set), (2, .int lk), (3, .int ((k_ml (r 4) set lk k).1)), (5, .int (nI k))] dX5_mostLike_49 (by decide) rfl ?_
      refine z_iload C dX5_mostLike_51 (show zlk _ 5 = some (.int (nI k)) from rfl) ?_
      refine z_istore_n C [(3, .int (nI k)), (4, .int (bcn ((((r 4) k) ^^^ set) &&& lk))), (6, .int (bcn ((((r 4) k) ^^^ set) &&& lk))), (0, .ref (ad 0)), (1, .int set), (2, .int lk), (5, .int (nI k))] dX5_mostLike_53 rfl (by decide) rfl ?_
      refine z_iincN C [(5, .int (nI (k + 1))), (3, .int (nI k)), (4, .int (bcn ((((r 4) k) ^^^ set) &&& lk))), (6, .int (bcn ((((r 4) k) ^^^ set) &&& lk))), (0, .ref (ad 0)), (1, .int set), (2, .int lk)] dX5_mostLike_54 rfl (by decide) rfl ?_
      refine z_goto C 9 dX5_mostLike_57 (by decide) ?_
      exact z_to (ih9) (rfl) (by simp [zlk, k_ml, h44n_1])

def k_fit (g : Nat → Int32) (o x al : Int32) : Bool := decide (k_sh o x 5 &&& (g 0 ||| al) = g 0 ||| al) && decide (k_sh o x 5 &&& g 1 = 0)
def k_p2 (g : Nat → Int32) (o al : Int32) (a : Nat) : Nat → Nat
  | 0 => a
  | x + 1 => if k_fit g o (nI x) al = true then k_p2 g o al a x + 1 else k_p2 g o al a x
def k_pf (g : Nat → Int32) (o : Nat → Int32) (al : Int32) : Nat → Nat
  | 0 => 0
  | s + 1 => k_p2 g (o s) al (k_pf g o al s) 6
def k_s2 (g : Nat → Int32) (o : Int32) (s : Nat) (a : Int32) : Nat → Int32
  | 0 => a
  | x + 1 => if k_fit g o (nI x) (nI 0) = true then k_s2 g o s a x ||| (nI 1 <<< (nI s &&& 31)) else k_s2 g o s a x
def k_sf (g : Nat → Int32) (o : Nat → Int32) : Nat → Int32
  | 0 => nI 0
  | s + 1 => k_s2 g (o s) s (k_sf g o s) 6
set_option maxHeartbeats 4000000 in
set_option maxRecDepth 100000 in
theorem c_X5_fits (l : Launch) (θ : zH) (ea : Nat → Nat → Nat) (ad : Nat → Nat) (n : Nat → Nat) (g : Nat → Int32) (b : Nat → Bool) (r : Nat → Nat → Int32) (V : Nat → Ev) (s : Nat) (x al : Int32) (hs : s < 6) : cI l yX5_fits wsX5_fits 1 θ [.ref (ad 0), .int (nI s), .int x, .int al] (CW θ ea ad n g b r V) (fun r0 Y => r0 = bI (k_fit g (r 4 s) x al) ∧ Y = CW θ ea ad n g b r V) := by
  refine z_cI (by decide) rfl rfl (Nat.le_of_ble_eq_true rfl) (lv := [(0, .ref (ad 0)), (1, .int (nI s)), (2, .int x), (3, .int al)]) rfl (fun κ C E => ?_)
  have hinX0 : ∀ w ∈ wsX00, w ∈ wsX5_fits := by decide +kernel
  have hinX5 : ∀ w ∈ wsX50, w ∈ wsX5_fits := by decide +kernel
  refine z_aload_n C dX5_fits_0 rfl (show zlk _ 0 = some (.ref (ad 0)) from rfl) ?_
  refine z_get C hinX5 0 cc_0 rfl 1 (by decide) (by decide +kernel) cg_0_1 dX5_fits_1 ?_
  refine z_getN C (host := "GnatPortraits") hinX0 3 cc_3 rfl 5 (by decide) (by decide +kernel) cg_3_5 dX5_fits_4 ?_
  refine z_iload_n C dX5_fits_7 rfl (show zlk _ 1 = some (.int (nI s)) from rfl) ?_
  refine z_iald C (f := (r 4)) 15 ca_15 s rfl (by omega) (by decide) dX5_fits_8 ?_
  refine z_iload_n C dX5_fits_9 rfl (show zlk _ 2 = some (.int x) from rfl) ?_
  refine z_callSi C (As := [.int ((r 4) s), .int x]) (rest := []) (c_X5_shifted l θ _ ((r 4) s) x) gX5_fits_X5_shifted rfl 2 (by decide +kernel) (by decide) (by decide) rfl rfl (Nat.le_of_ble_eq_true rfl) dX5_fits_10 ?_
  rintro _ _ ⟨rfl, rfl⟩
  refine z_istore C [(4, .int (k_sh ((r 4) s) x 5)), (0, .ref (ad 0)), (1, .int (nI s)), (2, .int x), (3, .int al)] dX5_fits_13 (by decide) rfl ?_
  refine z_aload_n C dX5_fits_15 rfl (show zlk _ 0 = some (.ref (ad 0)) from rfl) ?_
  refine z_get C hinX5 0 cc_0 rfl 11 (by decide) (by decide +kernel) cg_0_11 dX5_fits_16 ?_
  refine z_iload_n C dX5_fits_19 rfl (show zlk _ 3 = some (.int al) from rfl) ?_
  refine z_ior C dX5_fits_20 ?_
  refine z_istore C [(5, .int ((g 0) ||| al)), (4, .int (k_sh ((r 4) s) x 5)), (0, .ref (ad 0)), (1, .int (nI s)), (2, .int x), (3, .int al)] dX5_fits_21 (by decide) rfl ?_
  refine z_iload C dX5_fits_23 (show zlk _ 4 = some (.int (k_sh ((r 4) s) x 5)) from rfl) ?_
  refine z_iload C dX5_fits_25 (show zlk _ 5 = some (.int ((g 0) ||| al)) from rfl) ?_
  refine z_iand C dX5_fits_27 ?_
  refine z_iload C dX5_fits_28 (show zlk _ 5 = some (.int ((g 0) ||| al)) from rfl) ?_
  refine z_icmp_ne C 47 dX5_fits_30 (by decide) (fun h30t_1 => ?_) (fun h30n_1 => ?_)
  · refine z_iconst C (v := nI 0) dX5_fits_47 (by decide) ?_
    exact E _ _ _ _ (⟨bI_f (by simp [k_fit, h30t_1]), rfl⟩) (rfl) dX5_fits_48
  · refine z_iload C dX5_fits_33 (show zlk _ 4 = some (.int (k_sh ((r 4) s) x 5)) from rfl) ?_
    refine z_aload_n C dX5_fits_35 rfl (show zlk _ 0 = some (.ref (ad 0)) from rfl) ?_
    refine z_get C hinX5 0 cc_0 rfl 12 (by decide) (by decide +kernel) cg_0_12 dX5_fits_36 ?_
    refine z_iand C dX5_fits_39 ?_
    refine z_if_ne C 47 dX5_fits_40 (by decide) (fun h40t_2 => ?_) (fun h40n_2 => ?_)
    · refine z_iconst C (v := nI 0) dX5_fits_47 (by decide) ?_
      exact E _ _ _ _ (⟨bI_f (by simp [k_fit, h30n_1, h40t_2]), rfl⟩) (rfl) dX5_fits_48
    · refine z_iconst C (v := nI 1) dX5_fits_43 (by decide) ?_
      refine z_goto C 48 dX5_fits_44 (by decide) ?_
      exact E _ _ _ _ (⟨bI_t (by simp [k_fit, h30n_1, h40n_2]), rfl⟩) (rfl) dX5_fits_48

set_option maxHeartbeats 4000000 in
set_option maxRecDepth 100000 in
theorem c_X5_pairsThatFit (l : Launch) (θ : zH) (ea : Nat → Nat → Nat) (ad : Nat → Nat) (n : Nat → Nat) (g : Nat → Int32) (b : Nat → Bool) (r : Nat → Nat → Int32) (V : Nat → Ev) (al : Int32) (hS : n 10 ≤ 6) : cI l yX5_pairsThatFit wsX5_pairsThatFit 2 θ [.ref (ad 0), .int al] (CW θ ea ad n g b r V) (fun r0 Y => r0 = nI (k_pf g (r 4) al (n 10)) ∧ Y = CW θ ea ad n g b r V) := by
  refine z_cI (by decide) rfl rfl (Nat.le_of_ble_eq_true rfl) (lv := [(0, .ref (ad 0)), (1, .int al)]) rfl (fun κ C E => ?_)
  have hinX0 : ∀ w ∈ wsX00, w ∈ wsX5_pairsThatFit := by decide +kernel
  have hinX5 : ∀ w ∈ wsX50, w ∈ wsX5_pairsThatFit := by decide +kernel
  refine z_iconst C (v := nI 0) dX5_pairsThatFit_0 (by decide) ?_
  refine z_istore_n C [(2, .int (nI 0)), (0, .ref (ad 0)), (1, .int al)] dX5_pairsThatFit_1 rfl (by decide) rfl ?_
  refine z_iconst C (v := nI 0) dX5_pairsThatFit_2 (by decide) ?_
  refine z_istore_n C [(3, .int (nI 0)), (2, .int (nI 0)), (0, .ref (ad 0)), (1, .int al)] dX5_pairsThatFit_3 rfl (by decide) rfl ?_
  refine z_lv (lv' := [(0, .ref (ad 0)), (1, .int al), (2, .int (nI (k_pf g (r 4) al 0))), (3, .int (nI 0))]) rfl ?_
  refine z_up (fun s => Z κ (CW θ ea ad n g b r V) 4 [(0, .ref (ad 0)), (1, .int al), (2, .int (nI (k_pf g (r 4) al s))), (3, .int (nI s))] []) (n 10) ?_ ?_ 0 (by omega)
  · refine z_iload_n C dX5_pairsThatFit_4 rfl (show zlk _ 3 = some (.int (nI (n 10))) from rfl) ?_
    refine z_aload_n C dX5_pairsThatFit_5 rfl (show zlk _ 0 = some (.ref (ad 0)) from rfl) ?_
    refine z_get C hinX5 0 cc_0 rfl 1 (by decide) (by decide +kernel) cg_0_1 dX5_pairsThatFit_6 ?_
    refine z_getN C (host := "GnatPortraits") hinX0 3 cc_3 rfl 2 (by decide) (by decide +kernel) cg_3_2 dX5_pairsThatFit_9 ?_
    refine z_icmp_geT C 50 dX5_pairsThatFit_12 (by decide) (by omega) (by omega) (by omega) ?_
    refine z_iload_n C dX5_pairsThatFit_50 rfl (show zlk _ 2 = some (.int (nI (k_pf g (r 4) al (n 10)))) from rfl) ?_
    exact E _ _ _ _ (⟨rfl, rfl⟩) (rfl) dX5_pairsThatFit_51
  · intro s hk4 ih4
    refine z_iload_n C dX5_pairsThatFit_4 rfl (show zlk _ 3 = some (.int (nI s)) from rfl) ?_
    refine z_aload_n C dX5_pairsThatFit_5 rfl (show zlk _ 0 = some (.ref (ad 0)) from rfl) ?_
    refine z_get C hinX5 0 cc_0 rfl 1 (by decide) (by decide +kernel) cg_0_1 dX5_pairsThatFit_6 ?_
    refine z_getN C (host := "GnatPortraits") hinX0 3 cc_3 rfl 2 (by decide) (by decide +kernel) cg_3_2 dX5_pairsThatFit_9 ?_
    refine z_icmp_geF C 50 dX5_pairsThatFit_12 (by decide) (by omega) (by omega) (by omega) ?_
    refine z_iconst C (v := nI 0) dX5_pairsThatFit_15 (by decide) ?_
    refine z_istore C [(4, .int (nI 0)), (0, .ref (ad 0)), (1, .int al), (2, .int (nI (k_pf g (r 4) al s))), (3, .int (nI s))] dX5_pairsThatFit_16 (by decide) rfl ?_
    refine z_lv (lv' := [(0, .ref (ad 0)), (1, .int al), (2, .int (nI (k_p2 g (r 4 s) al (k_pf g (r 4) al s) 0))), (3, .int (nI s)), (4, .int (nI 0))]) rfl ?_
    refine z_up (fun x => Z κ (CW θ ea ad n g b r V) 18 [(0, .ref (ad 0)), (1, .int al), (2, .int (nI (k_p2 g (r 4 s) al (k_pf g (r 4) al s) x))), (3, .int (nI s)), (4, .int (nI x))] []) (6) ?_ ?_ 0 (by omega)
    · refine z_iload C dX5_pairsThatFit_18 (show zlk _ 4 = some (.int (nI 6)) from rfl) ?_
      refine z_iconst C (v := nI 5) dX5_pairsThatFit_20 (by decide) ?_
      refine z_icmp_gtT C 44 dX5_pairsThatFit_21 (by decide) (by omega) (by omega) (by omega) ?_
      refine z_iincN C [(3, .int (nI (s + 1))), (0, .ref (ad 0)), (1, .int al), (2, .int (nI (k_p2 g (r 4 s) al (k_pf g (r 4) al s) 6))), (4, .int (nI 6))] dX5_pairsThatFit_44 rfl (by decide) rfl ?_
      refine z_goto C 4 dX5_pairsThatFit_47 (by decide) ?_
      exact z_to (ih4) (rfl) (rfl)
    · intro x hk18 ih18
      refine z_iload C dX5_pairsThatFit_18 (show zlk _ 4 = some (.int (nI x)) from rfl) ?_
      refine z_iconst C (v := nI 5) dX5_pairsThatFit_20 (by decide) ?_
      refine z_icmp_gtF C 44 dX5_pairsThatFit_21 (by decide) (by omega) (by omega) (by omega) ?_
      refine z_aload_n C dX5_pairsThatFit_24 rfl (show zlk _ 0 = some (.ref (ad 0)) from rfl) ?_
      refine z_iload_n C dX5_pairsThatFit_25 rfl (show zlk _ 3 = some (.int (nI s)) from rfl) ?_
      refine z_iload C dX5_pairsThatFit_26 (show zlk _ 4 = some (.int (nI x)) from rfl) ?_
      refine z_iload_n C dX5_pairsThatFit_28 rfl (show zlk _ 1 = some (.int al) from rfl) ?_
      refine z_callVi C (As := [.int (nI s), .int (nI x), .int al]) (rest := []) (c_X5_fits l θ ea ad n g b r V s (nI x) al (by omega)) gX5_pairsThatFit_X5_fits rfl 3 (by decide +kernel) (by decide) (by decide) 0 rfl rfl rfl rfl rfl (Nat.le_of_ble_eq_true rfl) dX5_pairsThatFit_29 ?_
      rintro _ _ ⟨rfl, rfl⟩
      refine z_if_eqB C 38 dX5_pairsThatFit_32 (by decide) (fun h32t_1 => ?_) (fun h32n_1 => ?_)
      · refine z_iincN C [(4, .int (nI (x + 1))), (0, .ref (ad 0)), (1, .int al), (2, .int (nI (k_p2 g (r 4 s) al (k_pf g (r 4) al s) x))), (3, .int (nI s))] dX5_pairsThatFit_38 rfl (by decide) rfl ?_
        refine z_goto C 18 dX5_pairsThatFit_41 (by decide) ?_
        exact z_to (ih18) (rfl) (by simp [zlk, k_p2, h32t_1])
      · refine z_iincN C [(2, .int (nI (k_p2 g (r 4 s) al (k_pf g (r 4) al s) x + 1))), (0, .ref (ad 0)), (1, .int al), (3, .int (nI s)), (4, .int (nI x))] dX5_pairsThatFit_35 rfl (by decide) rfl ?_
        refine z_iincN C [(4, .int (nI (x + 1))), (2, .int (nI (k_p2 g (r 4 s) al (k_pf g (r 4) al s) x + 1))), (0, .ref (ad 0)), (1, .int al), (3, .int (nI s))] dX5_pairsThatFit_38 rfl (by decide) rfl ?_
        refine z_goto C 18 dX5_pairsThatFit_41 (by decide) ?_
        exact z_to (ih18) (rfl) (by simp [zlk, k_p2, h32n_1])

set_option maxHeartbeats 4000000 in
set_option maxRecDepth 100000 in
theorem c_X5_sittersThatFit (l : Launch) (θ : zH) (ea : Nat → Nat → Nat) (ad : Nat → Nat) (n : Nat → Nat) (g : Nat → Int32) (b : Nat → Bool) (r : Nat → Nat → Int32) (V : Nat → Ev)  (hS : n 10 ≤ 6) : cI l yX5_sittersThatFit wsX5_sittersThatFit 2 θ [.ref (ad 0)] (CW θ ea ad n g b r V) (fun r0 Y => r0 = k_sf g (r 4) (n 10) ∧ Y = CW θ ea ad n g b r V) := by
  refine z_cI (by decide) rfl rfl (Nat.le_of_ble_eq_true rfl) (lv := [(0, .ref (ad 0))]) rfl (fun κ C E => ?_)
  have hinX0 : ∀ w ∈ wsX00, w ∈ wsX5_sittersThatFit := by decide +kernel
  have hinX5 : ∀ w ∈ wsX50, w ∈ wsX5_sittersThatFit := by decide +kernel
  refine z_iconst C (v := nI 0) dX5_sittersThatFit_0 (by decide) ?_
  refine z_istore_n C [(1, .int (nI 0)), (0, .ref (ad 0))] dX5_sittersThatFit_1 rfl (by decide) rfl ?_
  refine z_iconst C (v := nI 0) dX5_sittersThatFit_2 (by decide) ?_
  refine z_istore_n C [(2, .int (nI 0)), (1, .int (nI 0)), (0, .ref (ad 0))] dX5_sittersThatFit_3 rfl (by decide) rfl ?_
  refine z_lv (lv' := [(0, .ref (ad 0)), (1, .int (k_sf g (r 4) 0)), (2, .int (nI 0))]) rfl ?_
  refine z_up (fun s => Z κ (CW θ ea ad n g b r V) 4 [(0, .ref (ad 0)), (1, .int (k_sf g (r 4) s)), (2, .int (nI s))] []) (n 10) ?_ ?_ 0 (by omega)
  · refine z_iload_n C dX5_sittersThatFit_4 rfl (show zlk _ 2 = some (.int (nI (n 10))) from rfl) ?_
    refine z_aload_n C dX5_sittersThatFit_5 rfl (show zlk _ 0 = some (.ref (ad 0)) from rfl) ?_
    refine z_get C hinX5 0 cc_0 rfl 1 (by decide) (by decide +kernel) cg_0_1 dX5_sittersThatFit_6 ?_
    refine z_getN C (host := "GnatPortraits") hinX0 3 cc_3 rfl 2 (by decide) (by decide +kernel) cg_3_2 dX5_sittersThatFit_9 ?_
    refine z_icmp_geT C 50 dX5_sittersThatFit_12 (by decide) (by omega) (by omega) (by omega) ?_
    refine z_iload_n C dX5_sittersThatFit_50 rfl (show zlk _ 1 = some (.int (k_sf g (r 4) (n 10))) from rfl) ?_
    exact E _ _ _ _ (⟨rfl, rfl⟩) (rfl) dX5_sittersThatFit_51
  · intro s hk4 ih4
    refine z_iload_n C dX5_sittersThatFit_4 rfl (show zlk _ 2 = some (.int (nI s)) from rfl) ?_
    refine z_aload_n C dX5_sittersThatFit_5 rfl (show zlk _ 0 = some (.ref (ad 0)) from rfl) ?_
    refine z_get C hinX5 0 cc_0 rfl 1 (by decide) (by decide +kernel) cg_0_1 dX5_sittersThatFit_6 ?_
    refine z_getN C (host := "GnatPortraits") hinX0 3 cc_3 rfl 2 (by decide) (by decide +kernel) cg_3_2 dX5_sittersThatFit_9 ?_
    refine z_icmp_geF C 50 dX5_sittersThatFit_12 (by decide) (by omega) (by omega) (by omega) ?_
    refine z_iconst C (v := nI 0) dX5_sittersThatFit_15 (by decide) ?_
    refine z_istore_n C [(3, .int (nI 0)), (0, .ref (ad 0)), (1, .int (k_sf g (r 4) s)), (2, .int (nI s))] dX5_sittersThatFit_16 rfl (by decide) rfl ?_
    refine z_lv (lv' := [(0, .ref (ad 0)), (1, .int (k_s2 g (r 4 s) s (k_sf g (r 4) s) 0)), (2, .int (nI s)), (3, .int (nI 0))]) rfl ?_
    refine z_up (fun x => Z κ (CW θ ea ad n g b r V) 17 [(0, .ref (ad 0)), (1, .int (k_s2 g (r 4 s) s (k_sf g (r 4) s) x)), (2, .int (nI s)), (3, .int (nI x))] []) (6) ?_ ?_ 0 (by omega)
    · refine z_iload_n C dX5_sittersThatFit_17 rfl (show zlk _ 3 = some (.int (nI 6)) from rfl) ?_
      refine z_iconst C (v := nI 5) dX5_sittersThatFit_18 (by decide) ?_
      refine z_icmp_gtT C 44 dX5_sittersThatFit_19 (by decide) (by omega) (by omega) (by omega) ?_
      refine z_iincN C [(2, .int (nI (s + 1))), (0, .ref (ad 0)), (1, .int (k_s2 g (r 4 s) s (k_sf g (r 4) s) 6)), (3, .int (nI 6))] dX5_sittersThatFit_44 rfl (by decide) rfl ?_
      refine z_goto C 4 dX5_sittersThatFit_47 (by decide) ?_
      exact z_to (ih4) (rfl) (rfl)
    · intro x hk17 ih17
      refine z_iload_n C dX5_sittersThatFit_17 rfl (show zlk _ 3 = some (.int (nI x)) from rfl) ?_
      refine z_iconst C (v := nI 5) dX5_sittersThatFit_18 (by decide) ?_
      refine z_icmp_gtF C 44 dX5_sittersThatFit_19 (by decide) (by omega) (by omega) (by omega) ?_
      refine z_aload_n C dX5_sittersThatFit_22 rfl (show zlk _ 0 = some (.ref (ad 0)) from rfl) ?_
      refine z_iload_n C dX5_sittersThatFit_23 rfl (show zlk _ 2 = some (.int (nI s)) from rfl) ?_
      refine z_iload_n C dX5_sittersThatFit_24 rfl (show zlk _ 3 = some (.int (nI x)) from rfl) ?_
      refine z_iconst C (v := nI 0) dX5_sittersThatFit_25 (by decide) ?_
      refine z_callVi C (As := [.int (nI s), .int (nI x), .int (nI 0)]) (rest := []) (c_X5_fits l θ ea ad n g b r V s (nI x) (nI 0) (by omega)) gX5_sittersThatFit_X5_fits rfl 3 (by decide +kernel) (by decide) (by decide) 0 rfl rfl rfl rfl rfl (Nat.le_of_ble_eq_true rfl) dX5_sittersThatFit_26 ?_
      rintro _ _ ⟨rfl, rfl⟩
      refine z_if_eqB C 38 dX5_sittersThatFit_29 (by decide) (fun h29t_1 => ?_) (fun h29n_1 => ?_)
      · refine z_iincN C [(3, .int (nI (x + 1))), (0, .ref (ad 0)), (1, .int (k_s2 g (r 4 s) s (k_sf g (r 4) s) x)), (2, .int (nI s))] dX5_sittersThatFit_38 rfl (by decide) rfl ?_
        refine z_goto C 17 dX5_sittersThatFit_41 (by decide) ?_
        exact z_to (ih17) (rfl) (by simp [zlk, k_s2, h29t_1])
      · refine z_iload_n C dX5_sittersThatFit_32 rfl (show zlk _ 1 = some (.int (k_s2 g (r 4 s) s (k_sf g (r 4) s) x)) from rfl) ?_
        refine z_iconst C (v := nI 1) dX5_sittersThatFit_33 (by decide) ?_
        refine z_iload_n C dX5_sittersThatFit_34 rfl (show zlk _ 2 = some (.int (nI s)) from rfl) ?_
        refine z_ishl C dX5_sittersThatFit_35 ?_
        refine z_ior C dX5_sittersThatFit_36 ?_
        refine z_istore_n C [(1, .int ((k_s2 g (r 4 s) s (k_sf g (r 4) s) x) ||| ((nI 1) <<< ((nI s) &&& 31)))), (0, .ref (ad 0)), (2, .int (nI s)), (3, .int (nI x))] dX5_sittersThatFit_37 rfl (by decide) rfl ?_
        refine z_iincN C [(3, .int (nI (x + 1))), (1, .int ((k_s2 g (r 4 s) s (k_sf g (r 4) s) x) ||| ((nI 1) <<< ((nI s) &&& 31)))), (0, .ref (ad 0)), (2, .int (nI s))] dX5_sittersThatFit_38 rfl (by decide) rfl ?_
        refine z_goto C 17 dX5_sittersThatFit_41 (by decide) ?_
        exact z_to (ih17) (rfl) (by simp [zlk, k_s2, h29n_1])

set_option maxHeartbeats 4000000 in
set_option maxRecDepth 100000 in
theorem c_X5_forgetToldOf (l : Launch) (θ : zH) (ea : Nat → Nat → Nat) (ad : Nat → Nat) (n : Nat → Nat) (g : Nat → Int32) (b : Nat → Bool) (r : Nat → Nat → Int32) (V : Nat → Ev)  : cV l yX5_forgetToldOf wsX5_forgetToldOf 0 θ [.ref (ad 0)] (CW θ ea ad n g b r V) (fun Y => Y = CW θ ea ad (cnv (n 0) 0 (n 2) (n 3) (n 4) (n 5) (n 6) (n 7) (n 8) (n 9) (n 10) (n 11) (n 12) (n 13) (n 14) (n 15) (n 16) (n 17) (n 18) (n 19) (n 20)) (cgv (nI 0) (nI 0) (g 2) (g 3) (g 4) (g 5) (g 6)) b r V) := by
  refine z_cV (by decide) rfl rfl (Nat.le_of_ble_eq_true rfl) (lv := [(0, .ref (ad 0))]) rfl (fun κ C E => ?_)
  have hinX5 : ∀ w ∈ wsX50, w ∈ wsX5_forgetToldOf := by decide +kernel
  refine z_aload_n C dX5_forgetToldOf_0 rfl (show zlk _ 0 = some (.ref (ad 0)) from rfl) ?_
  refine z_iconst C (v := nI 0) dX5_forgetToldOf_1 (by decide) ?_
  refine z_put C hinX5 tyX5 tyX5_ok nmX5 0 cc_0 rfl 10 (by decide) (by decide +kernel) rfl rfl rfl rfl (Nat.le_of_ble_eq_true rfl) _ cp_0_10 dX5_forgetToldOf_2 ?_
  refine z_aload_n C dX5_forgetToldOf_5 rfl (show zlk _ 0 = some (.ref (ad 0)) from rfl) ?_
  refine z_iconst C (v := nI 0) dX5_forgetToldOf_6 (by decide) ?_
  refine z_put C hinX5 tyX5 tyX5_ok nmX5 0 cc_0 rfl 11 (by decide) (by decide +kernel) rfl rfl rfl rfl (Nat.le_of_ble_eq_true rfl) _ cp_0_11 dX5_forgetToldOf_7 ?_
  refine z_aload_n C dX5_forgetToldOf_10 rfl (show zlk _ 0 = some (.ref (ad 0)) from rfl) ?_
  refine z_iconst C (v := nI 0) dX5_forgetToldOf_11 (by decide) ?_
  refine z_put C hinX5 tyX5 tyX5_ok nmX5 0 cc_0 rfl 12 (by decide) (by decide +kernel) rfl rfl rfl rfl (Nat.le_of_ble_eq_true rfl) _ cv_0_12 dX5_forgetToldOf_12 ?_
  exact E _ _ _ ((cw_eq rfl rfl rfl rfl rfl rfl rfl rfl rfl rfl rfl rfl rfl rfl rfl rfl rfl rfl rfl rfl rfl rfl rfl rfl rfl rfl rfl rfl rfl rfl rfl rfl rfl rfl rfl rfl rfl rfl rfl rfl rfl rfl rfl rfl rfl rfl rfl rfl rfl rfl rfl)) dX5_forgetToldOf_15

set_option maxHeartbeats 4000000 in
set_option maxRecDepth 100000 in
theorem c_X2_forget (l : Launch) (θ : zH) (ea : Nat → Nat → Nat) (ad : Nat → Nat) (n : Nat → Nat) (g : Nat → Int32) (b : Nat → Bool) (r : Nat → Nat → Int32) (V : Nat → Ev)  : cV l yX2_forget wsX2_forget 0 θ [.ref (ad 5)] (CW θ ea ad n g b r V) (fun Y => Y = CW θ ea ad (cnv (n 0) (n 1) (n 2) (n 3) (n 4) (n 5) (n 6) (n 7) (n 8) (n 9) (n 10) (n 11) (n 12) (n 13) (n 14) (n 15) 0 0 (n 18) (n 19) (n 20)) g b r V) := by
  refine z_cV (by decide) rfl rfl (Nat.le_of_ble_eq_true rfl) (lv := [(0, .ref (ad 5))]) rfl (fun κ C E => ?_)
  have hinX2 : ∀ w ∈ wsX20, w ∈ wsX2_forget := by decide +kernel
  refine z_aload_n C dX2_forget_0 rfl (show zlk _ 0 = some (.ref (ad 5)) from rfl) ?_
  refine z_iconst C (v := nI 0) dX2_forget_1 (by decide) ?_
  refine z_put C hinX2 tyX2 tyX2_ok nmX2 5 cc_5 rfl 1 (by decide) (by decide +kernel) rfl rfl rfl rfl (Nat.le_of_ble_eq_true rfl) _ cp_5_1 dX2_forget_2 ?_
  refine z_aload_n C dX2_forget_5 rfl (show zlk _ 0 = some (.ref (ad 5)) from rfl) ?_
  refine z_iconst C (v := nI 0) dX2_forget_6 (by decide) ?_
  refine z_put C hinX2 tyX2 tyX2_ok nmX2 5 cc_5 rfl 2 (by decide) (by decide +kernel) rfl rfl rfl rfl (Nat.le_of_ble_eq_true rfl) _ cv_5_2 dX2_forget_7 ?_
  exact E _ _ _ ((cw_eq rfl rfl rfl rfl rfl rfl rfl rfl rfl rfl rfl rfl rfl rfl rfl rfl rfl rfl rfl rfl rfl rfl rfl rfl rfl rfl rfl rfl rfl rfl rfl rfl rfl rfl rfl rfl rfl rfl rfl rfl rfl rfl rfl rfl rfl rfl rfl rfl rfl rfl rfl)) dX2_forget_10

def k_tz (f : Nat → Int32) : Nat → Nat → Int32
  | 0 => f
  | k + 1 => upd (k_tz f k) k (nI 0)
def k_vo (o : Nat → Int32) (set v : Int32) (S : Nat) : Int32 := (k_ml o set (v * nI 17043521) S).1
def k_tv (o v : Nat → Int32) (set : Int32) (S : Nat) (f : Nat → Int32) : Nat → Nat → Int32
  | 0 => k_tz f 6
  | c + 1 => if okN (k_vo o set (v c) S) S = true then upd (k_tv o v set S f c) (k_vo o set (v c) S).toNatClampNeg (k_tv o v set S f c (k_vo o set (v c) S).toNatClampNeg + nI 1) else k_tv o v set S f c
def k_el (f : Nat → Int32) : Nat → Int32 × Int32
  | 0 => ((-1), nI 0)
  | s + 1 => if f s ≤ (k_el f s).2 then k_el f s else (nI s, f s)
set_option maxHeartbeats 4000000 in
set_option maxRecDepth 100000 in
theorem c_X5_countVotes (l : Launch) (θ : zH) (ea : Nat → Nat → Nat) (ad : Nat → Nat) (n : Nat → Nat) (g : Nat → Int32) (b : Nat → Bool) (r : Nat → Nat → Int32) (V : Nat → Ev) (set : Int32) (hS : n 10 ≤ 6) (hc : n 12 ≤ 6) : cV l yX5_countVotes wsX5_countVotes 2 θ [.ref (ad 0), .int set] (CW θ ea ad n g b r V) (fun Y => Y = CW θ ea ad n g b (crv (r 0) (r 1) (r 2) (r 3) (r 4) (r 5) (r 6) (r 7) (r 8) (r 9) (r 10) (r 11) (r 12) (r 13) (r 14) (r 15) (k_tv (r 4) (r 6) set (n 10) (r 16) (n 12)) (r 17) (r 18)) V) := by
  refine z_cV (by decide) rfl rfl (Nat.le_of_ble_eq_true rfl) (lv := [(0, .ref (ad 0)), (1, .int set)]) rfl (fun κ C E => ?_)
  have hinX0 : ∀ w ∈ wsX00, w ∈ wsX5_countVotes := by decide +kernel
  have hinX5 : ∀ w ∈ wsX50, w ∈ wsX5_countVotes := by decide +kernel
  refine z_iconst C (v := nI 0) dX5_countVotes_0 (by decide) ?_
  refine z_istore_n C [(2, .int (nI 0)), (0, .ref (ad 0)), (1, .int set)] dX5_countVotes_1 rfl (by decide) rfl ?_
  refine z_lv (lv' := [(0, .ref (ad 0)), (1, .int set), (2, .int (nI 0))]) rfl ?_
  refine z_X (Y := CW θ ea ad n g b (crv (r 0) (r 1) (r 2) (r 3) (r 4) (r 5) (r 6) (r 7) (r 8) (r 9) (r 10) (r 11) (r 12) (r 13) (r 14) (r 15) (k_tz (r 16) 0) (r 17) (r 18)) V) (cw_eq rfl rfl rfl rfl rfl rfl rfl rfl rfl rfl rfl rfl rfl rfl rfl rfl rfl rfl rfl rfl rfl rfl rfl rfl rfl rfl rfl rfl rfl rfl rfl rfl rfl rfl rfl rfl rfl rfl rfl rfl rfl rfl rfl rfl rfl rfl rfl rfl rfl rfl rfl) ?_
  refine z_up (fun k => Z κ (CW θ ea ad n g b (crv (r 0) (r 1) (r 2) (r 3) (r 4) (r 5) (r 6) (r 7) (r 8) (r 9) (r 10) (r 11) (r 12) (r 13) (r 14) (r 15) (k_tz (r 16) k) (r 17) (r 18)) V) 2 [(0, .ref (ad 0)), (1, .int set), (2, .int (nI k))] []) (6) ?_ ?_ 0 (by omega)
  · refine z_iload_n C dX5_countVotes_2 rfl (show zlk _ 2 = some (.int (nI 6)) from rfl) ?_
    refine z_bipush C (v := nI 6) dX5_countVotes_3 (by decide) ?_
    refine z_icmp_geT C 21 dX5_countVotes_5 (by decide) (by omega) (by omega) (by omega) ?_
    refine z_iconst C (v := nI 0) dX5_countVotes_21 (by decide) ?_
    refine z_istore_n C [(2, .int (nI 0)), (0, .ref (ad 0)), (1, .int set)] dX5_countVotes_22 rfl (by decide) rfl ?_
    refine z_lv (lv' := [(0, .ref (ad 0)), (1, .int set), (2, .int (nI 0))]) rfl ?_
    refine z_X (Y := CW θ ea ad n g b (crv (r 0) (r 1) (r 2) (r 3) (r 4) (r 5) (r 6) (r 7) (r 8) (r 9) (r 10) (r 11) (r 12) (r 13) (r 14) (r 15) (k_tv (r 4) (r 6) set (n 10) (r 16) 0) (r 17) (r 18)) V) (cw_eq rfl rfl rfl rfl rfl rfl rfl rfl rfl rfl rfl rfl rfl rfl rfl rfl rfl rfl rfl rfl rfl rfl rfl rfl rfl rfl rfl rfl rfl rfl rfl rfl rfl rfl rfl rfl rfl rfl rfl rfl rfl rfl rfl rfl rfl rfl rfl rfl rfl rfl rfl) ?_
    refine z_up (fun k => Z κ (CW θ ea ad n g b (crv (r 0) (r 1) (r 2) (r 3) (r 4) (r 5) (r 6) (r 7) (r 8) (r 9) (r 10) (r 11) (r 12) (r 13) (r 14) (r 15) (k_tv (r 4) (r 6) set (n 10) (r 16) k) (r 17) (r 18)) V) 23 [(0, .ref (ad 0)), (1, .int set), (2, .int (nI k))] []) (n 12) ?_ ?_ 0 (by omega)
    · refine z_iload_n C dX5_countVotes_23 rfl (show zlk _ 2 = some (.int (nI (n 12))) from rfl) ?_
      refine z_aload_n C dX5_countVotes_24 rfl (show zlk _ 0 = some (.ref (ad 0)) from rfl) ?_
      refine z_get C hinX5 0 cc_0 rfl 1 (by decide) (by decide +kernel) cg_0_1 dX5_countVotes_25 ?_
      refine z_getN C (host := "GnatPortraits") hinX0 3 cc_3 rfl 4 (by decide) (by decide +kernel) cg_3_4 dX5_countVotes_28 ?_
      refine z_icmp_geT C 77 dX5_countVotes_31 (by decide) (by omega) (by omega) (by omega) ?_
      exact E _ _ _ ((cw_eq rfl rfl rfl rfl rfl rfl rfl rfl rfl rfl rfl rfl rfl rfl rfl rfl rfl rfl rfl rfl rfl rfl rfl rfl rfl rfl rfl rfl rfl rfl rfl rfl rfl rfl rfl rfl rfl rfl rfl rfl rfl rfl rfl rfl rfl rfl rfl rfl rfl rfl rfl)) dX5_countVotes_77
    · intro k hk23 ih23
      refine z_iload_n C dX5_countVotes_23 rfl (show zlk _ 2 = some (.int (nI k)) from rfl) ?_
      refine z_aload_n C dX5_countVotes_24 rfl (show zlk _ 0 = some (.ref (ad 0)) from rfl) ?_
      refine z_get C hinX5 0 cc_0 rfl 1 (by decide) (by decide +kernel) cg_0_1 dX5_countVotes_25 ?_
      refine z_getN C (host := "GnatPortraits") hinX0 3 cc_3 rfl 4 (by decide) (by decide +kernel) cg_3_4 dX5_countVotes_28 ?_
      refine z_icmp_geF C 77 dX5_countVotes_31 (by decide) (by omega) (by omega) (by omega) ?_
      refine z_aload_n C dX5_countVotes_34 rfl (show zlk _ 0 = some (.ref (ad 0)) from rfl) ?_
      refine z_iload_n C dX5_countVotes_35 rfl (show zlk _ 1 = some (.int set) from rfl) ?_
      refine z_aload_n C dX5_countVotes_36 rfl (show zlk _ 0 = some (.ref (ad 0)) from rfl) ?_
      refine z_get C hinX5 0 cc_0 rfl 1 (by decide) (by decide +kernel) cg_0_1 dX5_countVotes_37 ?_
      refine z_getN C (host := "GnatPortraits") hinX0 3 cc_3 rfl 7 (by decide) (by decide +kernel) cg_3_7 dX5_countVotes_40 ?_
      refine z_iload_n C dX5_countVotes_43 rfl (show zlk _ 2 = some (.int (nI k)) from rfl) ?_
      refine z_iald C (f := (r 6)) 17 cav_17 k rfl (by omega) (by decide) dX5_countVotes_44 ?_
      refine z_ldcw C (v := 17043521) (by decide +kernel) dX5_countVotes_45 ?_
      refine z_top (v' := .int (nI 17043521)) rfl ?_
      refine z_imul C dX5_countVotes_48 ?_
      refine z_callVi C (As := [.int set, .int (((r 6) k) * (nI 17043521))]) (rest := []) (c_X5_mostLike l θ ea ad n g b (crv (r 0) (r 1) (r 2) (r 3) (r 4) (r 5) (r 6) (r 7) (r 8) (r 9) (r 10) (r 11) (r 12) (r 13) (r 14) (r 15) (k_tv (r 4) (r 6) set (n 10) (r 16) k) (r 17) (r 18)) V set (((r 6) k) * (nI 17043521)) hS) gX5_countVotes_X5_mostLike rfl 2 (by decide +kernel) (by decide) (by decide) 0 rfl rfl rfl rfl rfl (Nat.le_of_ble_eq_true rfl) dX5_countVotes_49 ?_
      rintro _ _ ⟨rfl, rfl⟩
      refine z_top (v' := .int ((k_ml (r 4) set (((r 6) k) * (nI 17043521)) (n 10)).1)) rfl ?_
      refine z_top (v' := .int (k_vo (r 4) set (r 6 k) (n 10))) (rfl) ?_
      refine z_istore_n C [(3, .int (k_vo (r 4) set (r 6 k) (n 10))), (0, .ref (ad 0)), (1, .int set), (2, .int (nI k))] dX5_countVotes_52 rfl (by decide) rfl ?_
      refine z_aload_n C dX5_countVotes_53 rfl (show zlk _ 0 = some (.ref (ad 0)) from rfl) ?_
      refine z_iload_n C dX5_countVotes_54 rfl (show zlk _ 3 = some (.int (k_vo (r 4) set (r 6 k) (n 10))) from rfl) ?_
      refine z_callVi C (As := [.int (k_vo (r 4) set (r 6 k) (n 10))]) (rest := []) (c_X5_isSitter l θ ea ad n g b (crv (r 0) (r 1) (r 2) (r 3) (r 4) (r 5) (r 6) (r 7) (r 8) (r 9) (r 10) (r 11) (r 12) (r 13) (r 14) (r 15) (k_tv (r 4) (r 6) set (n 10) (r 16) k) (r 17) (r 18)) V (k_vo (r 4) set (r 6 k) (n 10)) (by omega)) gX5_countVotes_X5_isSitter rfl 1 (by decide +kernel) (by decide) (by decide) 0 rfl rfl rfl rfl rfl (Nat.le_of_ble_eq_true rfl) dX5_countVotes_55 ?_
      rintro _ _ ⟨rfl, rfl⟩
      refine z_top (v' := .int (bI (okN (k_vo (r 4) set (r 6 k) (n 10)) (n 10)))) rfl ?_
      refine z_if_eqB C 71 dX5_countVotes_58 (by decide) (fun h58t_1 => ?_) (fun h58n_1 => ?_)
      · refine z_iincN C [(2, .int (nI (k + 1))), (3, .int (k_vo (r 4) set (r 6 k) (n 10))), (0, .ref (ad 0)), (1, .int set)] dX5_countVotes_71 rfl (by decide) rfl ?_
        refine z_goto C 23 dX5_countVotes_74 (by decide) ?_
        exact z_to (ih23) (by rw [k_tv, if_neg (by rw [h58t_1]; decide)] <;> exact (cw_eq rfl rfl rfl rfl rfl rfl rfl rfl rfl rfl rfl rfl rfl rfl rfl rfl rfl rfl rfl rfl rfl rfl rfl rfl rfl rfl rfl rfl rfl rfl rfl rfl rfl rfl rfl rfl rfl rfl rfl rfl rfl rfl rfl rfl rfl rfl rfl rfl rfl rfl rfl)) (rfl)
      · obtain ⟨j, hj, ej⟩ := okN_of h58n_1 (by omega)
        have ejc : (k_vo (r 4) set (r 6 k) (n 10)).toNatClampNeg = j := by rw [ej]; exact nI_clamp (by omega)
        refine z_lv (lv' := [(0, .ref (ad 0)), (1, .int set), (2, .int (nI k)), (3, .int (nI j))]) (by rw [← ej]; rfl) ?_
        refine z_aload_n C dX5_countVotes_61 rfl (show zlk _ 0 = some (.ref (ad 0)) from rfl) ?_
        refine z_get C hinX5 0 cc_0 rfl 8 (by decide) (by decide +kernel) cg_0_8 dX5_countVotes_62 ?_
        refine z_iload_n C dX5_countVotes_65 rfl (show zlk _ 3 = some (.int (nI j)) from rfl) ?_
        refine z_dup2 C dX5_countVotes_66 rfl rfl ?_
        refine z_iald C (f := (k_tv (r 4) (r 6) set (n 10) (r 16) k)) 10 cav_10 j rfl (by omega) (by decide) dX5_countVotes_67 ?_
        refine z_iconst C (v := nI 1) dX5_countVotes_68 (by decide) ?_
        refine z_iadd C dX5_countVotes_69 ?_
        refine z_iast C (f := (k_tv (r 4) (r 6) set (n 10) (r 16) k)) 10 cav_10 j rfl (by omega) (by decide) _ csv_10 dX5_countVotes_70 ?_
        refine z_iincN C [(2, .int (nI (k + 1))), (0, .ref (ad 0)), (1, .int set), (3, .int (nI j))] dX5_countVotes_71 rfl (by decide) rfl ?_
        refine z_goto C 23 dX5_countVotes_74 (by decide) ?_
        exact z_to (ih23) (by rw [k_tv, if_pos h58n_1, ejc] <;> exact (cw_eq rfl rfl rfl rfl rfl rfl rfl rfl rfl rfl rfl rfl rfl rfl rfl rfl rfl rfl rfl rfl rfl rfl rfl rfl rfl rfl rfl rfl rfl rfl rfl rfl rfl rfl rfl rfl rfl rfl rfl rfl rfl rfl rfl rfl rfl rfl rfl rfl rfl rfl rfl)) (rfl)
  · intro k hk2 ih2
    refine z_iload_n C dX5_countVotes_2 rfl (show zlk _ 2 = some (.int (nI k)) from rfl) ?_
    refine z_bipush C (v := nI 6) dX5_countVotes_3 (by decide) ?_
    refine z_icmp_geF C 21 dX5_countVotes_5 (by decide) (by omega) (by omega) (by omega) ?_
    refine z_aload_n C dX5_countVotes_8 rfl (show zlk _ 0 = some (.ref (ad 0)) from rfl) ?_
    refine z_get C hinX5 0 cc_0 rfl 8 (by decide) (by decide +kernel) cg_0_8 dX5_countVotes_9 ?_
    refine z_iload_n C dX5_countVotes_12 rfl (show zlk _ 2 = some (.int (nI k)) from rfl) ?_
    refine z_iconst C (v := nI 0) dX5_countVotes_13 (by decide) ?_
    refine z_iast C (f := (k_tz (r 16) k)) 10 cav_10 k rfl (by omega) (by decide) _ csv_10 dX5_countVotes_14 ?_
    refine z_iincN C [(2, .int (nI (k + 1))), (0, .ref (ad 0)), (1, .int set)] dX5_countVotes_15 rfl (by decide) rfl ?_
    refine z_goto C 2 dX5_countVotes_18 (by decide) ?_
    exact z_to (ih2) ((cw_eq rfl rfl rfl rfl rfl rfl rfl rfl rfl rfl rfl rfl rfl rfl rfl rfl rfl rfl rfl rfl rfl rfl rfl rfl rfl rfl rfl rfl rfl rfl rfl rfl rfl rfl rfl rfl rfl rfl rfl rfl rfl rfl rfl rfl rfl rfl rfl rfl rfl rfl rfl)) (rfl)

set_option maxHeartbeats 4000000 in
set_option maxRecDepth 100000 in
theorem c_X5_elected (l : Launch) (θ : zH) (ea : Nat → Nat → Nat) (ad : Nat → Nat) (n : Nat → Nat) (g : Nat → Int32) (b : Nat → Bool) (r : Nat → Nat → Int32) (V : Nat → Ev)  (hS : n 10 ≤ 6) : cI l yX5_elected wsX5_elected 0 θ [.ref (ad 0)] (CW θ ea ad n g b r V) (fun r0 Y => r0 = (k_el (r 16) (n 10)).1 ∧ Y = CW θ ea ad n g b r V) := by
  refine z_cI (by decide) rfl rfl (Nat.le_of_ble_eq_true rfl) (lv := [(0, .ref (ad 0))]) rfl (fun κ C E => ?_)
  have hinX0 : ∀ w ∈ wsX00, w ∈ wsX5_elected := by decide +kernel
  have hinX5 : ∀ w ∈ wsX50, w ∈ wsX5_elected := by decide +kernel
  refine z_iconst C (v := (-1)) dX5_elected_0 (by decide) ?_
  refine z_istore_n C [(1, .int (-1)), (0, .ref (ad 0))] dX5_elected_1 rfl (by decide) rfl ?_
  refine z_iconst C (v := nI 0) dX5_elected_2 (by decide) ?_
  refine z_istore_n C [(2, .int (nI 0)), (1, .int (-1)), (0, .ref (ad 0))] dX5_elected_3 rfl (by decide) rfl ?_
  refine z_iconst C (v := nI 0) dX5_elected_4 (by decide) ?_
  refine z_istore_n C [(3, .int (nI 0)), (2, .int (nI 0)), (1, .int (-1)), (0, .ref (ad 0))] dX5_elected_5 rfl (by decide) rfl ?_
  refine z_lv (lv' := [(0, .ref (ad 0)), (1, .int ((k_el (r 16) 0).1)), (2, .int ((k_el (r 16) 0).2)), (3, .int (nI 0))]) rfl ?_
  refine z_up (fun k => Z κ (CW θ ea ad n g b r V) 6 [(0, .ref (ad 0)), (1, .int ((k_el (r 16) k).1)), (2, .int ((k_el (r 16) k).2)), (3, .int (nI k))] []) (n 10) ?_ ?_ 0 (by omega)
  · refine z_iload_n C dX5_elected_6 rfl (show zlk _ 3 = some (.int (nI (n 10))) from rfl) ?_
    refine z_aload_n C dX5_elected_7 rfl (show zlk _ 0 = some (.ref (ad 0)) from rfl) ?_
    refine z_get C hinX5 0 cc_0 rfl 1 (by decide) (by decide +kernel) cg_0_1 dX5_elected_8 ?_
    refine z_getN C (host := "GnatPortraits") hinX0 3 cc_3 rfl 2 (by decide) (by decide +kernel) cg_3_2 dX5_elected_11 ?_
    refine z_icmp_geT C 42 dX5_elected_14 (by decide) (by omega) (by omega) (by omega) ?_
    refine z_iload_n C dX5_elected_42 rfl (show zlk _ 1 = some (.int ((k_el (r 16) (n 10)).1)) from rfl) ?_
    exact E _ _ _ _ (⟨rfl, rfl⟩) (rfl) dX5_elected_43
  · intro k hk6 ih6
    refine z_iload_n C dX5_elected_6 rfl (show zlk _ 3 = some (.int (nI k)) from rfl) ?_
    refine z_aload_n C dX5_elected_7 rfl (show zlk _ 0 = some (.ref (ad 0)) from rfl) ?_
    refine z_get C hinX5 0 cc_0 rfl 1 (by decide) (by decide +kernel) cg_0_1 dX5_elected_8 ?_
    refine z_getN C (host := "GnatPortraits") hinX0 3 cc_3 rfl 2 (by decide) (by decide +kernel) cg_3_2 dX5_elected_11 ?_
    refine z_icmp_geF C 42 dX5_elected_14 (by decide) (by omega) (by omega) (by omega) ?_
    refine z_aload_n C dX5_elected_17 rfl (show zlk _ 0 = some (.ref (ad 0)) from rfl) ?_
    refine z_get C hinX5 0 cc_0 rfl 8 (by decide) (by decide +kernel) cg_0_8 dX5_elected_18 ?_
    refine z_iload_n C dX5_elected_21 rfl (show zlk _ 3 = some (.int (nI k)) from rfl) ?_
    refine z_iald C (f := (r 16)) 10 ca_10 k rfl (by omega) (by decide) dX5_elected_22 ?_
    refine z_iload_n C dX5_elected_23 rfl (show zlk _ 2 = some (.int ((k_el (r 16) k).2)) from rfl) ?_
    refine z_icmp_le C 36 dX5_elected_24 (by decide) (fun h24t_1 => ?_) (fun h24n_1 => ?_)
    · refine z_iincN C [(3, .int (nI (k + 1))), (0, .ref (ad 0)), (1, .int ((k_el (r 16) k).1)), (2, .int ((k_el (r 16) k).2))] dX5_elected_36 rfl (by decide) rfl ?_
      refine z_goto C 6 dX5_elected_39 (by decide) ?_
      exact z_to (ih6) (rfl) (by simp [zlk, k_el, h24t_1])
    · refine z_aload_n C dX5_elected_27 rfl (show zlk _ 0 = some (.ref (ad 0)) from rfl) ?_
      refine z_get C hinX5 0 cc_0 rfl 8 (by decide) (by decide +kernel) cg_0_8 dX5_elected_28 ?_
      refine z_iload_n C dX5_elected_31 rfl (show zlk _ 3 = some (.int (nI k)) from rfl) ?_
      refine z_iald C (f := (r 16)) 10 ca_10 k rfl (by omega) (by decide) dX5_elected_32 ?_
      refine z_istore_n C [(2, .int ((r 16) k)), (0, .ref (ad 0)), (1, .int ((k_el (r 16) k).1)), (3, .int (nI k))] dX5_elected_33 rfl (by decide) rfl ?_
      refine z_iload_n C dX5_elected_34 rfl (show zlk _ 3 = some (.int (nI k)) from rfl) ?_
      refine z_istore_n C [(1, .int (nI k)), (2, .int ((r 16) k)), (0, .ref (ad 0)), (3, .int (nI k))] dX5_elected_35 rfl (by decide) rfl ?_
      refine z_iincN C [(3, .int (nI (k + 1))), (1, .int (nI k)), (2, .int ((r 16) k)), (0, .ref (ad 0))] dX5_elected_36 rfl (by decide) rfl ?_
      refine z_goto C 6 dX5_elected_39 (by decide) ?_
      exact z_to (ih6) (rfl) (by simp [zlk, k_el, h24n_1])

theorem k_sd (s : Nat) : nI (s * 1103515245 + 12345) &&& nI 2147483647 = nI (m_sd s) := by
  rw [pk_and _ 31 (by decide), m_sd_def]
  refine congrArg nI ?_
  show (BitVec.ofNat 32 (s * 1103515245 + 12345)).toNat % 2 ^ 31 = _
  rw [BitVec.toNat_ofNat]
  omega
set_option maxHeartbeats 4000000 in
set_option maxRecDepth 100000 in
theorem c_X5_nextDraw (l : Launch) (θ : zH) (ea : Nat → Nat → Nat) (ad : Nat → Nat) (n : Nat → Nat) (g : Nat → Int32) (b : Nat → Bool) (r : Nat → Nat → Int32) (V : Nat → Ev) (m : Nat) (hm : 0 < m) (hm2 : m < 2 ^ 31) (h0 : n 0 < 2 ^ 31) : cI l yX5_nextDraw wsX5_nextDraw 0 θ [.ref (ad 0), .int (nI m)] (CW θ ea ad n g b r V) (fun r0 Y => ∃ s1 d1, s1 = m_sd (n 0) ∧ d1 = m_dv (n 0) m ∧ s1 < 2 ^ 31 ∧ d1 < m ∧ r0 = nI d1 ∧ Y = CW θ ea ad (cnv s1 (n 1) (n 2) (n 3) (n 4) (n 5) (n 6) (n 7) (n 8) (n 9) (n 10) (n 11) (n 12) (n 13) (n 14) (n 15) (n 16) (n 17) (n 18) (n 19) (n 20)) g b r V) := by
  refine z_cI (by decide) rfl rfl (Nat.le_of_ble_eq_true rfl) (lv := [(0, .ref (ad 0)), (1, .int (nI m))]) rfl (fun κ C E => ?_)
  have hinX5 : ∀ w ∈ wsX50, w ∈ wsX5_nextDraw := by decide +kernel
  refine z_aload_n C dX5_nextDraw_0 rfl (show zlk _ 0 = some (.ref (ad 0)) from rfl) ?_
  refine z_aload_n C dX5_nextDraw_1 rfl (show zlk _ 0 = some (.ref (ad 0)) from rfl) ?_
  refine z_get C hinX5 0 cc_0 rfl 9 (by decide) (by decide +kernel) cg_0_9 dX5_nextDraw_2 ?_
  refine z_ldcw C (v := 1103515245) (by decide +kernel) dX5_nextDraw_5 ?_
  refine z_top (v' := .int (nI 1103515245)) rfl ?_
  refine z_imulN C dX5_nextDraw_8 ?_
  refine z_sipush C (v := nI 12345) dX5_nextDraw_9 (by decide) ?_
  refine z_iaddN C dX5_nextDraw_12 ?_
  refine z_ldcw C (v := 2147483647) (by decide +kernel) dX5_nextDraw_13 ?_
  refine z_top (v' := .int (nI 2147483647)) rfl ?_
  refine z_iand C dX5_nextDraw_16 ?_
  refine z_top (v' := .int (nI (m_sd (n 0)))) (congrArg Value.int (k_sd (n 0))) ?_
  refine z_put C hinX5 tyX5 tyX5_ok nmX5 0 cc_0 rfl 9 (by decide) (by decide +kernel) rfl rfl rfl rfl (Nat.le_of_ble_eq_true rfl) _ cp_0_9 dX5_nextDraw_17 ?_
  refine z_iload_n C dX5_nextDraw_20 rfl (show zlk _ 1 = some (.int (nI m)) from rfl) ?_
  refine z_iconst C (v := nI 1) dX5_nextDraw_21 (by decide) ?_
  refine z_icmp_geT C 29 dX5_nextDraw_22 (by decide) (by omega) (by omega) (by omega) ?_
  refine z_aload_n C dX5_nextDraw_29 rfl (show zlk _ 0 = some (.ref (ad 0)) from rfl) ?_
  refine z_get C hinX5 0 cc_0 rfl 9 (by decide) (by decide +kernel) ch_0_9 dX5_nextDraw_30 ?_
  refine z_ldcw C (v := 65536) (by decide +kernel) dX5_nextDraw_33 ?_
  refine z_top (v' := .int (nI 65536)) rfl ?_
  refine z_idivN C dX5_nextDraw_36 (by have := m_sd_lt (n 0); omega) (by decide) (by decide) ?_
  refine z_iload_n C dX5_nextDraw_37 rfl (show zlk _ 1 = some (.int (nI m)) from rfl) ?_
  refine z_iremN C dX5_nextDraw_38 (by have := m_sd_lt (n 0); omega) (by omega) (by omega) ?_
  exact E _ _ _ _ (⟨_, _, rfl, (m_dv_def _ _).symm, m_sd_lt _, Nat.mod_lt _ hm, rfl, (cw_eq rfl rfl rfl rfl rfl rfl rfl rfl rfl rfl rfl rfl rfl rfl rfl rfl rfl rfl rfl rfl rfl rfl rfl rfl rfl rfl rfl rfl rfl rfl rfl rfl rfl rfl rfl rfl rfl rfl rfl rfl rfl rfl rfl rfl rfl rfl rfl rfl rfl rfl rfl)⟩) (rfl) dX5_nextDraw_39

def k_n1 (k : Nat) : Int32 := if k % 6 = 0 then nI 0 else nI 0 ||| (nI 1 <<< ((nI k - nI 1) &&& 31))
def k_n2 (k : Nat) : Int32 := if 5 ≤ k % 6 then k_n1 k else k_n1 k ||| (nI 1 <<< (nI (k + 1) &&& 31))
def k_n3 (k : Nat) : Int32 := if k < 6 then k_n2 k else k_n2 k ||| (nI 1 <<< ((nI k - nI 6) &&& 31))
def k_n4 (k : Nat) : Int32 := if 30 ≤ k + 6 then k_n3 k else k_n3 k ||| (nI 1 <<< (nI (k + 6) &&& 31))
def k_ho (set : Int32) : Nat → Int32
  | 0 => nI 0
  | k + 1 => if (set >>> (nI k &&& 31)) &&& nI 1 = 0 then (if set &&& k_n4 k = k_n4 k then k_ho set k ||| (nI 1 <<< (nI k &&& 31)) else k_ho set k) else k_ho set k
def k_mi (set : Int32) : Nat → Int32
  | 0 => nI 0
  | k + 1 => if (set >>> (nI k &&& 31)) &&& nI 1 = nI 1 then k_mi set k ||| (nI 1 <<< (nI (k - k % 6 + 6 - 1 - k % 6) &&& 31)) else k_mi set k
set_option maxHeartbeats 4000000 in
set_option maxRecDepth 100000 in
theorem c_X5_neighboursOf (l : Launch) (θ : zH) (X : va_W) (k : Nat) (hk : k < 30) : cI l yX5_neighboursOf wsX5_neighboursOf 0 θ [.int (nI k)] (X) (fun r0 Y => r0 = k_n4 k ∧ Y = X) := by
  refine z_cI (by decide) rfl rfl (Nat.le_of_ble_eq_true rfl) (lv := [(0, .int (nI k))]) rfl (fun κ C E => ?_)
  refine z_iload_n C dX5_neighboursOf_0 rfl (show zlk _ 0 = some (.int (nI k)) from rfl) ?_
  refine z_bipush C (v := nI 6) dX5_neighboursOf_1 (by decide) ?_
  refine z_iremN C dX5_neighboursOf_3 (by omega) (by omega) (by omega) ?_
  refine z_istore_n C [(1, .int (nI (k % 6))), (0, .int (nI k))] dX5_neighboursOf_4 rfl (by decide) rfl ?_
  refine z_iconst C (v := nI 0) dX5_neighboursOf_5 (by decide) ?_
  refine z_istore_n C [(2, .int (nI 0)), (1, .int (nI (k % 6))), (0, .int (nI k))] dX5_neighboursOf_6 rfl (by decide) rfl ?_
  refine z_iload_n C dX5_neighboursOf_7 rfl (show zlk _ 1 = some (.int (nI (k % 6))) from rfl) ?_
  refine z_if_leN C 19 dX5_neighboursOf_8 (by decide) (by omega) (fun h8t_1 => ?_) (fun h8n_1 => ?_)
  · refine z_lv (lv' := [(0, .int (nI k)), (1, .int (nI (k % 6))), (2, .int (k_n1 k))]) (by unfold k_n1; rw [if_pos h8t_1]; rfl) ?_
    refine z_iload_n C dX5_neighboursOf_19 rfl (show zlk _ 1 = some (.int (nI (k % 6))) from rfl) ?_
    refine z_iconst C (v := nI 5) dX5_neighboursOf_20 (by decide) ?_
    refine z_icmp_geN C 32 dX5_neighboursOf_21 (by decide) (by omega) (by omega) (fun h21t_2 => ?_) (fun h21n_2 => ?_)
    · refine z_lv (lv' := [(0, .int (nI k)), (1, .int (nI (k % 6))), (2, .int (k_n2 k))]) (by unfold k_n2; rw [if_pos h21t_2]; rfl) ?_
      refine z_iload_n C dX5_neighboursOf_32 rfl (show zlk _ 0 = some (.int (nI k)) from rfl) ?_
      refine z_bipush C (v := nI 6) dX5_neighboursOf_33 (by decide) ?_
      refine z_icmp_ltN C 47 dX5_neighboursOf_35 (by decide) (by omega) (by omega) (fun h35t_3 => ?_) (fun h35n_3 => ?_)
      · refine z_lv (lv' := [(0, .int (nI k)), (1, .int (nI (k % 6))), (2, .int (k_n3 k))]) (by unfold k_n3; rw [if_pos h35t_3]; rfl) ?_
        refine z_iload_n C dX5_neighboursOf_47 rfl (show zlk _ 0 = some (.int (nI k)) from rfl) ?_
        refine z_bipush C (v := nI 6) dX5_neighboursOf_48 (by decide) ?_
        refine z_iaddN C dX5_neighboursOf_50 ?_
        refine z_bipush C (v := nI 30) dX5_neighboursOf_51 (by decide) ?_
        refine z_icmp_geN C 65 dX5_neighboursOf_53 (by decide) (by omega) (by omega) (fun h53t_4 => ?_) (fun h53n_4 => ?_)
        · refine z_lv (lv' := [(0, .int (nI k)), (1, .int (nI (k % 6))), (2, .int (k_n4 k))]) (by unfold k_n4; rw [if_pos h53t_4]; rfl) ?_
          refine z_iload_n C dX5_neighboursOf_65 rfl (show zlk _ 2 = some (.int (k_n4 k)) from rfl) ?_
          exact E _ _ _ _ (⟨rfl, rfl⟩) (rfl) dX5_neighboursOf_66
        · refine z_iload_n C dX5_neighboursOf_56 rfl (show zlk _ 2 = some (.int (k_n3 k)) from rfl) ?_
          refine z_iconst C (v := nI 1) dX5_neighboursOf_57 (by decide) ?_
          refine z_iload_n C dX5_neighboursOf_58 rfl (show zlk _ 0 = some (.int (nI k)) from rfl) ?_
          refine z_bipush C (v := nI 6) dX5_neighboursOf_59 (by decide) ?_
          refine z_iaddN C dX5_neighboursOf_61 ?_
          refine z_ishl C dX5_neighboursOf_62 ?_
          refine z_ior C dX5_neighboursOf_63 ?_
          refine z_istore_n C [(2, .int ((k_n3 k) ||| ((nI 1) <<< ((nI (k + 6)) &&& 31)))), (0, .int (nI k)), (1, .int (nI (k % 6)))] dX5_neighboursOf_64 rfl (by decide) rfl ?_
          refine z_lv (lv' := [(0, .int (nI k)), (1, .int (nI (k % 6))), (2, .int (k_n4 k))]) (by unfold k_n4; rw [if_neg h53n_4]; rfl) ?_
          refine z_iload_n C dX5_neighboursOf_65 rfl (show zlk _ 2 = some (.int (k_n4 k)) from rfl) ?_
          exact E _ _ _ _ (⟨rfl, rfl⟩) (rfl) dX5_neighboursOf_66
      · refine z_iload_n C dX5_neighboursOf_38 rfl (show zlk _ 2 = some (.int (k_n2 k)) from rfl) ?_
        refine z_iconst C (v := nI 1) dX5_neighboursOf_39 (by decide) ?_
        refine z_iload_n C dX5_neighboursOf_40 rfl (show zlk _ 0 = some (.int (nI k)) from rfl) ?_
        refine z_bipush C (v := nI 6) dX5_neighboursOf_41 (by decide) ?_
        refine z_isub C dX5_neighboursOf_43 ?_
        refine z_ishl C dX5_neighboursOf_44 ?_
        refine z_ior C dX5_neighboursOf_45 ?_
        refine z_istore_n C [(2, .int ((k_n2 k) ||| ((nI 1) <<< (((nI k) - (nI 6)) &&& 31)))), (0, .int (nI k)), (1, .int (nI (k % 6)))] dX5_neighboursOf_46 rfl (by decide) rfl ?_
        refine z_lv (lv' := [(0, .int (nI k)), (1, .int (nI (k % 6))), (2, .int (k_n3 k))]) (by unfold k_n3; rw [if_neg h35n_3]; rfl) ?_
        refine z_iload_n C dX5_neighboursOf_47 rfl (show zlk _ 0 = some (.int (nI k)) from rfl) ?_
        refine z_bipush C (v := nI 6) dX5_neighboursOf_48 (by decide) ?_
        refine z_iaddN C dX5_neighboursOf_50 ?_
        refine z_bipush C (v := nI 30) dX5_neighboursOf_51 (by decide) ?_
        refine z_icmp_geN C 65 dX5_neighboursOf_53 (by decide) (by omega) (by omega) (fun h53t_5 => ?_) (fun h53n_5 => ?_)
        · refine z_lv (lv' := [(0, .int (nI k)), (1, .int (nI (k % 6))), (2, .int (k_n4 k))]) (by unfold k_n4; rw [if_pos h53t_5]; rfl) ?_
          refine z_iload_n C dX5_neighboursOf_65 rfl (show zlk _ 2 = some (.int (k_n4 k)) from rfl) ?_
          exact E _ _ _ _ (⟨rfl, rfl⟩) (rfl) dX5_neighboursOf_66
        · refine z_iload_n C dX5_neighboursOf_56 rfl (show zlk _ 2 = some (.int (k_n3 k)) from rfl) ?_
          refine z_iconst C (v := nI 1) dX5_neighboursOf_57 (by decide) ?_
          refine z_iload_n C dX5_neighboursOf_58 rfl (show zlk _ 0 = some (.int (nI k)) from rfl) ?_
          refine z_bipush C (v := nI 6) dX5_neighboursOf_59 (by decide) ?_
          refine z_iaddN C dX5_neighboursOf_61 ?_
          refine z_ishl C dX5_neighboursOf_62 ?_
          refine z_ior C dX5_neighboursOf_63 ?_
          refine z_istore_n C [(2, .int ((k_n3 k) ||| ((nI 1) <<< ((nI (k + 6)) &&& 31)))), (0, .int (nI k)), (1, .int (nI (k % 6)))] dX5_neighboursOf_64 rfl (by decide) rfl ?_
          refine z_lv (lv' := [(0, .int (nI k)), (1, .int (nI (k % 6))), (2, .int (k_n4 k))]) (by unfold k_n4; rw [if_neg h53n_5]; rfl) ?_
          refine z_iload_n C dX5_neighboursOf_65 rfl (show zlk _ 2 = some (.int (k_n4 k)) from rfl) ?_
          exact E _ _ _ _ (⟨rfl, rfl⟩) (rfl) dX5_neighboursOf_66
    · refine z_iload_n C dX5_neighboursOf_24 rfl (show zlk _ 2 = some (.int (k_n1 k)) from rfl) ?_
      refine z_iconst C (v := nI 1) dX5_neighboursOf_25 (by decide) ?_
      refine z_iload_n C dX5_neighboursOf_26 rfl (show zlk _ 0 = some (.int (nI k)) from rfl) ?_
      refine z_iconst C (v := nI 1) dX5_neighboursOf_27 (by decide) ?_
      refine z_iaddN C dX5_neighboursOf_28 ?_
      refine z_ishl C dX5_neighboursOf_29 ?_
      refine z_ior C dX5_neighboursOf_30 ?_
      refine z_istore_n C [(2, .int ((k_n1 k) ||| ((nI 1) <<< ((nI (k + 1)) &&& 31)))), (0, .int (nI k)), (1, .int (nI (k % 6)))] dX5_neighboursOf_31 rfl (by decide) rfl ?_
      refine z_lv (lv' := [(0, .int (nI k)), (1, .int (nI (k % 6))), (2, .int (k_n2 k))]) (by unfold k_n2; rw [if_neg h21n_2]; rfl) ?_
      refine z_iload_n C dX5_neighboursOf_32 rfl (show zlk _ 0 = some (.int (nI k)) from rfl) ?_
      refine z_bipush C (v := nI 6) dX5_neighboursOf_33 (by decide) ?_
      refine z_icmp_ltN C 47 dX5_neighboursOf_35 (by decide) (by omega) (by omega) (fun h35t_6 => ?_) (fun h35n_6 => ?_)
      · refine z_lv (lv' := [(0, .int (nI k)), (1, .int (nI (k % 6))), (2, .int (k_n3 k))]) (by unfold k_n3; rw [if_pos h35t_6]; rfl) ?_
        refine z_iload_n C dX5_neighboursOf_47 rfl (show zlk _ 0 = some (.int (nI k)) from rfl) ?_
        refine z_bipush C (v := nI 6) dX5_neighboursOf_48 (by decide) ?_
        refine z_iaddN C dX5_neighboursOf_50 ?_
        refine z_bipush C (v := nI 30) dX5_neighboursOf_51 (by decide) ?_
        refine z_icmp_geN C 65 dX5_neighboursOf_53 (by decide) (by omega) (by omega) (fun h53t_7 => ?_) (fun h53n_7 => ?_)
        · refine z_lv (lv' := [(0, .int (nI k)), (1, .int (nI (k % 6))), (2, .int (k_n4 k))]) (by unfold k_n4; rw [if_pos h53t_7]; rfl) ?_
          refine z_iload_n C dX5_neighboursOf_65 rfl (show zlk _ 2 = some (.int (k_n4 k)) from rfl) ?_
          exact E _ _ _ _ (⟨rfl, rfl⟩) (rfl) dX5_neighboursOf_66
        · refine z_iload_n C dX5_neighboursOf_56 rfl (show zlk _ 2 = some (.int (k_n3 k)) from rfl) ?_
          refine z_iconst C (v := nI 1) dX5_neighboursOf_57 (by decide) ?_
          refine z_iload_n C dX5_neighboursOf_58 rfl (show zlk _ 0 = some (.int (nI k)) from rfl) ?_
          refine z_bipush C (v := nI 6) dX5_neighboursOf_59 (by decide) ?_
          refine z_iaddN C dX5_neighboursOf_61 ?_
          refine z_ishl C dX5_neighboursOf_62 ?_
          refine z_ior C dX5_neighboursOf_63 ?_
          refine z_istore_n C [(2, .int ((k_n3 k) ||| ((nI 1) <<< ((nI (k + 6)) &&& 31)))), (0, .int (nI k)), (1, .int (nI (k % 6)))] dX5_neighboursOf_64 rfl (by decide) rfl ?_
          refine z_lv (lv' := [(0, .int (nI k)), (1, .int (nI (k % 6))), (2, .int (k_n4 k))]) (by unfold k_n4; rw [if_neg h53n_7]; rfl) ?_
          refine z_iload_n C dX5_neighboursOf_65 rfl (show zlk _ 2 = some (.int (k_n4 k)) from rfl) ?_
          exact E _ _ _ _ (⟨rfl, rfl⟩) (rfl) dX5_neighboursOf_66
      · refine z_iload_n C dX5_neighboursOf_38 rfl (show zlk _ 2 = some (.int (k_n2 k)) from rfl) ?_
        refine z_iconst C (v := nI 1) dX5_neighboursOf_39 (by decide) ?_
        refine z_iload_n C dX5_neighboursOf_40 rfl (show zlk _ 0 = some (.int (nI k)) from rfl) ?_
        refine z_bipush C (v := nI 6) dX5_neighboursOf_41 (by decide) ?_
        refine z_isub C dX5_neighboursOf_43 ?_
        refine z_ishl C dX5_neighboursOf_44 ?_
        refine z_ior C dX5_neighboursOf_45 ?_
        refine z_istore_n C [(2, .int ((k_n2 k) ||| ((nI 1) <<< (((nI k) - (nI 6)) &&& 31)))), (0, .int (nI k)), (1, .int (nI (k % 6)))] dX5_neighboursOf_46 rfl (by decide) rfl ?_
        refine z_lv (lv' := [(0, .int (nI k)), (1, .int (nI (k % 6))), (2, .int (k_n3 k))]) (by unfold k_n3; rw [if_neg h35n_6]; rfl) ?_
        refine z_iload_n C dX5_neighboursOf_47 rfl (show zlk _ 0 = some (.int (nI k)) from rfl) ?_
        refine z_bipush C (v := nI 6) dX5_neighboursOf_48 (by decide) ?_
        refine z_iaddN C dX5_neighboursOf_50 ?_
        refine z_bipush C (v := nI 30) dX5_neighboursOf_51 (by decide) ?_
        refine z_icmp_geN C 65 dX5_neighboursOf_53 (by decide) (by omega) (by omega) (fun h53t_8 => ?_) (fun h53n_8 => ?_)
        · refine z_lv (lv' := [(0, .int (nI k)), (1, .int (nI (k % 6))), (2, .int (k_n4 k))]) (by unfold k_n4; rw [if_pos h53t_8]; rfl) ?_
          refine z_iload_n C dX5_neighboursOf_65 rfl (show zlk _ 2 = some (.int (k_n4 k)) from rfl) ?_
          exact E _ _ _ _ (⟨rfl, rfl⟩) (rfl) dX5_neighboursOf_66
        · refine z_iload_n C dX5_neighboursOf_56 rfl (show zlk _ 2 = some (.int (k_n3 k)) from rfl) ?_
          refine z_iconst C (v := nI 1) dX5_neighboursOf_57 (by decide) ?_
          refine z_iload_n C dX5_neighboursOf_58 rfl (show zlk _ 0 = some (.int (nI k)) from rfl) ?_
          refine z_bipush C (v := nI 6) dX5_neighboursOf_59 (by decide) ?_
          refine z_iaddN C dX5_neighboursOf_61 ?_
          refine z_ishl C dX5_neighboursOf_62 ?_
          refine z_ior C dX5_neighboursOf_63 ?_
          refine z_istore_n C [(2, .int ((k_n3 k) ||| ((nI 1) <<< ((nI (k + 6)) &&& 31)))), (0, .int (nI k)), (1, .int (nI (k % 6)))] dX5_neighboursOf_64 rfl (by decide) rfl ?_
          refine z_lv (lv' := [(0, .int (nI k)), (1, .int (nI (k % 6))), (2, .int (k_n4 k))]) (by unfold k_n4; rw [if_neg h53n_8]; rfl) ?_
          refine z_iload_n C dX5_neighboursOf_65 rfl (show zlk _ 2 = some (.int (k_n4 k)) from rfl) ?_
          exact E _ _ _ _ (⟨rfl, rfl⟩) (rfl) dX5_neighboursOf_66
  · refine z_iload_n C dX5_neighboursOf_11 rfl (show zlk _ 2 = some (.int (nI 0)) from rfl) ?_
    refine z_iconst C (v := nI 1) dX5_neighboursOf_12 (by decide) ?_
    refine z_iload_n C dX5_neighboursOf_13 rfl (show zlk _ 0 = some (.int (nI k)) from rfl) ?_
    refine z_iconst C (v := nI 1) dX5_neighboursOf_14 (by decide) ?_
    refine z_isub C dX5_neighboursOf_15 ?_
    refine z_ishl C dX5_neighboursOf_16 ?_
    refine z_ior C dX5_neighboursOf_17 ?_
    refine z_istore_n C [(2, .int ((nI 0) ||| ((nI 1) <<< (((nI k) - (nI 1)) &&& 31)))), (1, .int (nI (k % 6))), (0, .int (nI k))] dX5_neighboursOf_18 rfl (by decide) rfl ?_
    refine z_lv (lv' := [(0, .int (nI k)), (1, .int (nI (k % 6))), (2, .int (k_n1 k))]) (by unfold k_n1; rw [if_neg h8n_1]; rfl) ?_
    refine z_iload_n C dX5_neighboursOf_19 rfl (show zlk _ 1 = some (.int (nI (k % 6))) from rfl) ?_
    refine z_iconst C (v := nI 5) dX5_neighboursOf_20 (by decide) ?_
    refine z_icmp_geN C 32 dX5_neighboursOf_21 (by decide) (by omega) (by omega) (fun h21t_9 => ?_) (fun h21n_9 => ?_)
    · refine z_lv (lv' := [(0, .int (nI k)), (1, .int (nI (k % 6))), (2, .int (k_n2 k))]) (by unfold k_n2; rw [if_pos h21t_9]; rfl) ?_
      refine z_iload_n C dX5_neighboursOf_32 rfl (show zlk _ 0 = some (.int (nI k)) from rfl) ?_
      refine z_bipush C (v := nI 6) dX5_neighboursOf_33 (by decide) ?_
      refine z_icmp_ltN C 47 dX5_neighboursOf_35 (by decide) (by omega) (by omega) (fun h35t_10 => ?_) (fun h35n_10 => ?_)
      · refine z_lv (lv' := [(0, .int (nI k)), (1, .int (nI (k % 6))), (2, .int (k_n3 k))]) (by unfold k_n3; rw [if_pos h35t_10]; rfl) ?_
        refine z_iload_n C dX5_neighboursOf_47 rfl (show zlk _ 0 = some (.int (nI k)) from rfl) ?_
        refine z_bipush C (v := nI 6) dX5_neighboursOf_48 (by decide) ?_
        refine z_iaddN C dX5_neighboursOf_50 ?_
        refine z_bipush C (v := nI 30) dX5_neighboursOf_51 (by decide) ?_
        refine z_icmp_geN C 65 dX5_neighboursOf_53 (by decide) (by omega) (by omega) (fun h53t_11 => ?_) (fun h53n_11 => ?_)
        · refine z_lv (lv' := [(0, .int (nI k)), (1, .int (nI (k % 6))), (2, .int (k_n4 k))]) (by unfold k_n4; rw [if_pos h53t_11]; rfl) ?_
          refine z_iload_n C dX5_neighboursOf_65 rfl (show zlk _ 2 = some (.int (k_n4 k)) from rfl) ?_
          exact E _ _ _ _ (⟨rfl, rfl⟩) (rfl) dX5_neighboursOf_66
        · refine z_iload_n C dX5_neighboursOf_56 rfl (show zlk _ 2 = some (.int (k_n3 k)) from rfl) ?_
          refine z_iconst C (v := nI 1) dX5_neighboursOf_57 (by decide) ?_
          refine z_iload_n C dX5_neighboursOf_58 rfl (show zlk _ 0 = some (.int (nI k)) from rfl) ?_
          refine z_bipush C (v := nI 6) dX5_neighboursOf_59 (by decide) ?_
          refine z_iaddN C dX5_neighboursOf_61 ?_
          refine z_ishl C dX5_neighboursOf_62 ?_
          refine z_ior C dX5_neighboursOf_63 ?_
          refine z_istore_n C [(2, .int ((k_n3 k) ||| ((nI 1) <<< ((nI (k + 6)) &&& 31)))), (0, .int (nI k)), (1, .int (nI (k % 6)))] dX5_neighboursOf_64 rfl (by decide) rfl ?_
          refine z_lv (lv' := [(0, .int (nI k)), (1, .int (nI (k % 6))), (2, .int (k_n4 k))]) (by unfold k_n4; rw [if_neg h53n_11]; rfl) ?_
          refine z_iload_n C dX5_neighboursOf_65 rfl (show zlk _ 2 = some (.int (k_n4 k)) from rfl) ?_
          exact E _ _ _ _ (⟨rfl, rfl⟩) (rfl) dX5_neighboursOf_66
      · refine z_iload_n C dX5_neighboursOf_38 rfl (show zlk _ 2 = some (.int (k_n2 k)) from rfl) ?_
        refine z_iconst C (v := nI 1) dX5_neighboursOf_39 (by decide) ?_
        refine z_iload_n C dX5_neighboursOf_40 rfl (show zlk _ 0 = some (.int (nI k)) from rfl) ?_
        refine z_bipush C (v := nI 6) dX5_neighboursOf_41 (by decide) ?_
        refine z_isub C dX5_neighboursOf_43 ?_
        refine z_ishl C dX5_neighboursOf_44 ?_
        refine z_ior C dX5_neighboursOf_45 ?_
        refine z_istore_n C [(2, .int ((k_n2 k) ||| ((nI 1) <<< (((nI k) - (nI 6)) &&& 31)))), (0, .int (nI k)), (1, .int (nI (k % 6)))] dX5_neighboursOf_46 rfl (by decide) rfl ?_
        refine z_lv (lv' := [(0, .int (nI k)), (1, .int (nI (k % 6))), (2, .int (k_n3 k))]) (by unfold k_n3; rw [if_neg h35n_10]; rfl) ?_
        refine z_iload_n C dX5_neighboursOf_47 rfl (show zlk _ 0 = some (.int (nI k)) from rfl) ?_
        refine z_bipush C (v := nI 6) dX5_neighboursOf_48 (by decide) ?_
        refine z_iaddN C dX5_neighboursOf_50 ?_
        refine z_bipush C (v := nI 30) dX5_neighboursOf_51 (by decide) ?_
        refine z_icmp_geN C 65 dX5_neighboursOf_53 (by decide) (by omega) (by omega) (fun h53t_12 => ?_) (fun h53n_12 => ?_)
        · refine z_lv (lv' := [(0, .int (nI k)), (1, .int (nI (k % 6))), (2, .int (k_n4 k))]) (by unfold k_n4; rw [if_pos h53t_12]; rfl) ?_
          refine z_iload_n C dX5_neighboursOf_65 rfl (show zlk _ 2 = some (.int (k_n4 k)) from rfl) ?_
          exact E _ _ _ _ (⟨rfl, rfl⟩) (rfl) dX5_neighboursOf_66
        · refine z_iload_n C dX5_neighboursOf_56 rfl (show zlk _ 2 = some (.int (k_n3 k)) from rfl) ?_
          refine z_iconst C (v := nI 1) dX5_neighboursOf_57 (by decide) ?_
          refine z_iload_n C dX5_neighboursOf_58 rfl (show zlk _ 0 = some (.int (nI k)) from rfl) ?_
          refine z_bipush C (v := nI 6) dX5_neighboursOf_59 (by decide) ?_
          refine z_iaddN C dX5_neighboursOf_61 ?_
          refine z_ishl C dX5_neighboursOf_62 ?_
          refine z_ior C dX5_neighboursOf_63 ?_
          refine z_istore_n C [(2, .int ((k_n3 k) ||| ((nI 1) <<< ((nI (k + 6)) &&& 31)))), (0, .int (nI k)), (1, .int (nI (k % 6)))] dX5_neighboursOf_64 rfl (by decide) rfl ?_
          refine z_lv (lv' := [(0, .int (nI k)), (1, .int (nI (k % 6))), (2, .int (k_n4 k))]) (by unfold k_n4; rw [if_neg h53n_12]; rfl) ?_
          refine z_iload_n C dX5_neighboursOf_65 rfl (show zlk _ 2 = some (.int (k_n4 k)) from rfl) ?_
          exact E _ _ _ _ (⟨rfl, rfl⟩) (rfl) dX5_neighboursOf_66
    · refine z_iload_n C dX5_neighboursOf_24 rfl (show zlk _ 2 = some (.int (k_n1 k)) from rfl) ?_
      refine z_iconst C (v := nI 1) dX5_neighboursOf_25 (by decide) ?_
      refine z_iload_n C dX5_neighboursOf_26 rfl (show zlk _ 0 = some (.int (nI k)) from rfl) ?_
      refine z_iconst C (v := nI 1) dX5_neighboursOf_27 (by decide) ?_
      refine z_iaddN C dX5_neighboursOf_28 ?_
      refine z_ishl C dX5_neighboursOf_29 ?_
      refine z_ior C dX5_neighboursOf_30 ?_
      refine z_istore_n C [(2, .int ((k_n1 k) ||| ((nI 1) <<< ((nI (k + 1)) &&& 31)))), (0, .int (nI k)), (1, .int (nI (k % 6)))] dX5_neighboursOf_31 rfl (by decide) rfl ?_
      refine z_lv (lv' := [(0, .int (nI k)), (1, .int (nI (k % 6))), (2, .int (k_n2 k))]) (by unfold k_n2; rw [if_neg h21n_9]; rfl) ?_
      refine z_iload_n C dX5_neighboursOf_32 rfl (show zlk _ 0 = some (.int (nI k)) from rfl) ?_
      refine z_bipush C (v := nI 6) dX5_neighboursOf_33 (by decide) ?_
      refine z_icmp_ltN C 47 dX5_neighboursOf_35 (by decide) (by omega) (by omega) (fun h35t_13 => ?_) (fun h35n_13 => ?_)
      · refine z_lv (lv' := [(0, .int (nI k)), (1, .int (nI (k % 6))), (2, .int (k_n3 k))]) (by unfold k_n3; rw [if_pos h35t_13]; rfl) ?_
        refine z_iload_n C dX5_neighboursOf_47 rfl (show zlk _ 0 = some (.int (nI k)) from rfl) ?_
        refine z_bipush C (v := nI 6) dX5_neighboursOf_48 (by decide) ?_
        refine z_iaddN C dX5_neighboursOf_50 ?_
        refine z_bipush C (v := nI 30) dX5_neighboursOf_51 (by decide) ?_
        refine z_icmp_geN C 65 dX5_neighboursOf_53 (by decide) (by omega) (by omega) (fun h53t_14 => ?_) (fun h53n_14 => ?_)
        · refine z_lv (lv' := [(0, .int (nI k)), (1, .int (nI (k % 6))), (2, .int (k_n4 k))]) (by unfold k_n4; rw [if_pos h53t_14]; rfl) ?_
          refine z_iload_n C dX5_neighboursOf_65 rfl (show zlk _ 2 = some (.int (k_n4 k)) from rfl) ?_
          exact E _ _ _ _ (⟨rfl, rfl⟩) (rfl) dX5_neighboursOf_66
        · refine z_iload_n C dX5_neighboursOf_56 rfl (show zlk _ 2 = some (.int (k_n3 k)) from rfl) ?_
          refine z_iconst C (v := nI 1) dX5_neighboursOf_57 (by decide) ?_
          refine z_iload_n C dX5_neighboursOf_58 rfl (show zlk _ 0 = some (.int (nI k)) from rfl) ?_
          refine z_bipush C (v := nI 6) dX5_neighboursOf_59 (by decide) ?_
          refine z_iaddN C dX5_neighboursOf_61 ?_
          refine z_ishl C dX5_neighboursOf_62 ?_
          refine z_ior C dX5_neighboursOf_63 ?_
          refine z_istore_n C [(2, .int ((k_n3 k) ||| ((nI 1) <<< ((nI (k + 6)) &&& 31)))), (0, .int (nI k)), (1, .int (nI (k % 6)))] dX5_neighboursOf_64 rfl (by decide) rfl ?_
          refine z_lv (lv' := [(0, .int (nI k)), (1, .int (nI (k % 6))), (2, .int (k_n4 k))]) (by unfold k_n4; rw [if_neg h53n_14]; rfl) ?_
          refine z_iload_n C dX5_neighboursOf_65 rfl (show zlk _ 2 = some (.int (k_n4 k)) from rfl) ?_
          exact E _ _ _ _ (⟨rfl, rfl⟩) (rfl) dX5_neighboursOf_66
      · refine z_iload_n C dX5_neighboursOf_38 rfl (show zlk _ 2 = some (.int (k_n2 k)) from rfl) ?_
        refine z_iconst C (v := nI 1) dX5_neighboursOf_39 (by decide) ?_
        refine z_iload_n C dX5_neighboursOf_40 rfl (show zlk _ 0 = some (.int (nI k)) from rfl) ?_
        refine z_bipush C (v := nI 6) dX5_neighboursOf_41 (by decide) ?_
        refine z_isub C dX5_neighboursOf_43 ?_
        refine z_ishl C dX5_neighboursOf_44 ?_
        refine z_ior C dX5_neighboursOf_45 ?_
        refine z_istore_n C [(2, .int ((k_n2 k) ||| ((nI 1) <<< (((nI k) - (nI 6)) &&& 31)))), (0, .int (nI k)), (1, .int (nI (k % 6)))] dX5_neighboursOf_46 rfl (by decide) rfl ?_
        refine z_lv (lv' := [(0, .int (nI k)), (1, .int (nI (k % 6))), (2, .int (k_n3 k))]) (by unfold k_n3; rw [if_neg h35n_13]; rfl) ?_
        refine z_iload_n C dX5_neighboursOf_47 rfl (show zlk _ 0 = some (.int (nI k)) from rfl) ?_
        refine z_bipush C (v := nI 6) dX5_neighboursOf_48 (by decide) ?_
        refine z_iaddN C dX5_neighboursOf_50 ?_
        refine z_bipush C (v := nI 30) dX5_neighboursOf_51 (by decide) ?_
        refine z_icmp_geN C 65 dX5_neighboursOf_53 (by decide) (by omega) (by omega) (fun h53t_15 => ?_) (fun h53n_15 => ?_)
        · refine z_lv (lv' := [(0, .int (nI k)), (1, .int (nI (k % 6))), (2, .int (k_n4 k))]) (by unfold k_n4; rw [if_pos h53t_15]; rfl) ?_
          refine z_iload_n C dX5_neighboursOf_65 rfl (show zlk _ 2 = some (.int (k_n4 k)) from rfl) ?_
          exact E _ _ _ _ (⟨rfl, rfl⟩) (rfl) dX5_neighboursOf_66
        · refine z_iload_n C dX5_neighboursOf_56 rfl (show zlk _ 2 = some (.int (k_n3 k)) from rfl) ?_
          refine z_iconst C (v := nI 1) dX5_neighboursOf_57 (by decide) ?_
          refine z_iload_n C dX5_neighboursOf_58 rfl (show zlk _ 0 = some (.int (nI k)) from rfl) ?_
          refine z_bipush C (v := nI 6) dX5_neighboursOf_59 (by decide) ?_
          refine z_iaddN C dX5_neighboursOf_61 ?_
          refine z_ishl C dX5_neighboursOf_62 ?_
          refine z_ior C dX5_neighboursOf_63 ?_
          refine z_istore_n C [(2, .int ((k_n3 k) ||| ((nI 1) <<< ((nI (k + 6)) &&& 31)))), (0, .int (nI k)), (1, .int (nI (k % 6)))] dX5_neighboursOf_64 rfl (by decide) rfl ?_
          refine z_lv (lv' := [(0, .int (nI k)), (1, .int (nI (k % 6))), (2, .int (k_n4 k))]) (by unfold k_n4; rw [if_neg h53n_15]; rfl) ?_
          refine z_iload_n C dX5_neighboursOf_65 rfl (show zlk _ 2 = some (.int (k_n4 k)) from rfl) ?_
          exact E _ _ _ _ (⟨rfl, rfl⟩) (rfl) dX5_neighboursOf_66

set_option maxHeartbeats 4000000 in
set_option maxRecDepth 100000 in
theorem c_X5_holesOf (l : Launch) (θ : zH) (X : va_W) (set : Int32) : cI l yX5_holesOf wsX5_holesOf 1 θ [.int set] (X) (fun r0 Y => r0 = k_ho set 30 ∧ Y = X) := by
  refine z_cI (by decide) rfl rfl (Nat.le_of_ble_eq_true rfl) (lv := [(0, .int set)]) rfl (fun κ C E => ?_)
  refine z_iconst C (v := nI 0) dX5_holesOf_0 (by decide) ?_
  refine z_istore_n C [(1, .int (nI 0)), (0, .int set)] dX5_holesOf_1 rfl (by decide) rfl ?_
  refine z_iconst C (v := nI 0) dX5_holesOf_2 (by decide) ?_
  refine z_istore_n C [(2, .int (nI 0)), (1, .int (nI 0)), (0, .int set)] dX5_holesOf_3 rfl (by decide) rfl ?_
  refine z_lv (lv' := [(0, .int set), (1, .int (k_ho set 0)), (2, .int (nI 0))]) rfl ?_
  refine z_up (fun k => Z κ (X) 4 [(0, .int set), (1, .int (k_ho set k)), (2, .int (nI k))] []) (30) ?_ ?_ 0 (by omega)
  · refine z_iload_n C dX5_holesOf_4 rfl (show zlk _ 2 = some (.int (nI 30)) from rfl) ?_
    refine z_bipush C (v := nI 30) dX5_holesOf_5 (by decide) ?_
    refine z_icmp_geT C 42 dX5_holesOf_7 (by decide) (by omega) (by omega) (by omega) ?_
    refine z_iload_n C dX5_holesOf_42 rfl (show zlk _ 1 = some (.int (k_ho set 30)) from rfl) ?_
    exact E _ _ _ _ (⟨rfl, rfl⟩) (rfl) dX5_holesOf_43
  · intro k hk4 ih4
    refine z_iload_n C dX5_holesOf_4 rfl (show zlk _ 2 = some (.int (nI k)) from rfl) ?_
    refine z_bipush C (v := nI 30) dX5_holesOf_5 (by decide) ?_
    refine z_icmp_geF C 42 dX5_holesOf_7 (by decide) (by omega) (by omega) (by omega) ?_
    refine z_iload_n C dX5_holesOf_10 rfl (show zlk _ 2 = some (.int (nI k)) from rfl) ?_
    refine z_callSi C (As := [.int (nI k)]) (rest := []) (c_X5_neighboursOf l θ _ k (by omega)) gX5_holesOf_X5_neighboursOf rfl 1 (by decide +kernel) (by decide) (by decide) rfl rfl (Nat.le_of_ble_eq_true rfl) dX5_holesOf_11 ?_
    rintro _ _ ⟨rfl, rfl⟩
    refine z_istore_n C [(3, .int (k_n4 k)), (0, .int set), (1, .int (k_ho set k)), (2, .int (nI k))] dX5_holesOf_14 rfl (by decide) rfl ?_
    refine z_iload_n C dX5_holesOf_15 rfl (show zlk _ 0 = some (.int set) from rfl) ?_
    refine z_iload_n C dX5_holesOf_16 rfl (show zlk _ 2 = some (.int (nI k)) from rfl) ?_
    refine z_ishr C dX5_holesOf_17 ?_
    refine z_iconst C (v := nI 1) dX5_holesOf_18 (by decide) ?_
    refine z_iand C dX5_holesOf_19 ?_
    refine z_if_ne C 36 dX5_holesOf_20 (by decide) (fun h20t_1 => ?_) (fun h20n_1 => ?_)
    · refine z_iincN C [(2, .int (nI (k + 1))), (3, .int (k_n4 k)), (0, .int set), (1, .int (k_ho set k))] dX5_holesOf_36 rfl (by decide) rfl ?_
      refine z_goto C 4 dX5_holesOf_39 (by decide) ?_
      exact z_to (ih4) (rfl) (by simp [zlk, k_ho, h20t_1])
    · refine z_iload_n C dX5_holesOf_23 rfl (show zlk _ 0 = some (.int set) from rfl) ?_
      refine z_iload_n C dX5_holesOf_24 rfl (show zlk _ 3 = some (.int (k_n4 k)) from rfl) ?_
      refine z_iand C dX5_holesOf_25 ?_
      refine z_iload_n C dX5_holesOf_26 rfl (show zlk _ 3 = some (.int (k_n4 k)) from rfl) ?_
      refine z_icmp_ne C 36 dX5_holesOf_27 (by decide) (fun h27t_2 => ?_) (fun h27n_2 => ?_)
      · refine z_iincN C [(2, .int (nI (k + 1))), (3, .int (k_n4 k)), (0, .int set), (1, .int (k_ho set k))] dX5_holesOf_36 rfl (by decide) rfl ?_
        refine z_goto C 4 dX5_holesOf_39 (by decide) ?_
        exact z_to (ih4) (rfl) (by simp [zlk, k_ho, h20n_1, h27t_2])
      · refine z_iload_n C dX5_holesOf_30 rfl (show zlk _ 1 = some (.int (k_ho set k)) from rfl) ?_
        refine z_iconst C (v := nI 1) dX5_holesOf_31 (by decide) ?_
        refine z_iload_n C dX5_holesOf_32 rfl (show zlk _ 2 = some (.int (nI k)) from rfl) ?_
        refine z_ishl C dX5_holesOf_33 ?_
        refine z_ior C dX5_holesOf_34 ?_
        refine z_istore_n C [(1, .int ((k_ho set k) ||| ((nI 1) <<< ((nI k) &&& 31)))), (3, .int (k_n4 k)), (0, .int set), (2, .int (nI k))] dX5_holesOf_35 rfl (by decide) rfl ?_
        refine z_iincN C [(2, .int (nI (k + 1))), (1, .int ((k_ho set k) ||| ((nI 1) <<< ((nI k) &&& 31)))), (3, .int (k_n4 k)), (0, .int set)] dX5_holesOf_36 rfl (by decide) rfl ?_
        refine z_goto C 4 dX5_holesOf_39 (by decide) ?_
        exact z_to (ih4) (rfl) (by simp [zlk, k_ho, h20n_1, h27n_2])

set_option maxHeartbeats 4000000 in
set_option maxRecDepth 100000 in
theorem c_X5_mirrorOf (l : Launch) (θ : zH) (X : va_W) (set : Int32) : cI l yX5_mirrorOf wsX5_mirrorOf 0 θ [.int set] (X) (fun r0 Y => r0 = k_mi set 30 ∧ Y = X) := by
  refine z_cI (by decide) rfl rfl (Nat.le_of_ble_eq_true rfl) (lv := [(0, .int set)]) rfl (fun κ C E => ?_)
  refine z_iconst C (v := nI 0) dX5_mirrorOf_0 (by decide) ?_
  refine z_istore_n C [(1, .int (nI 0)), (0, .int set)] dX5_mirrorOf_1 rfl (by decide) rfl ?_
  refine z_iconst C (v := nI 0) dX5_mirrorOf_2 (by decide) ?_
  refine z_istore_n C [(2, .int (nI 0)), (1, .int (nI 0)), (0, .int set)] dX5_mirrorOf_3 rfl (by decide) rfl ?_
  refine z_lv (lv' := [(0, .int set), (1, .int (k_mi set 0)), (2, .int (nI 0))]) rfl ?_
  refine z_up (fun k => Z κ (X) 4 [(0, .int set), (1, .int (k_mi set k)), (2, .int (nI k))] []) (30) ?_ ?_ 0 (by omega)
  · refine z_iload_n C dX5_mirrorOf_4 rfl (show zlk _ 2 = some (.int (nI 30)) from rfl) ?_
    refine z_bipush C (v := nI 30) dX5_mirrorOf_5 (by decide) ?_
    refine z_icmp_geT C 45 dX5_mirrorOf_7 (by decide) (by omega) (by omega) (by omega) ?_
    refine z_iload_n C dX5_mirrorOf_45 rfl (show zlk _ 1 = some (.int (k_mi set 30)) from rfl) ?_
    exact E _ _ _ _ (⟨rfl, rfl⟩) (rfl) dX5_mirrorOf_46
  · intro k hk4 ih4
    refine z_iload_n C dX5_mirrorOf_4 rfl (show zlk _ 2 = some (.int (nI k)) from rfl) ?_
    refine z_bipush C (v := nI 30) dX5_mirrorOf_5 (by decide) ?_
    refine z_icmp_geF C 45 dX5_mirrorOf_7 (by decide) (by omega) (by omega) (by omega) ?_
    refine z_iload_n C dX5_mirrorOf_10 rfl (show zlk _ 0 = some (.int set) from rfl) ?_
    refine z_iload_n C dX5_mirrorOf_11 rfl (show zlk _ 2 = some (.int (nI k)) from rfl) ?_
    refine z_ishr C dX5_mirrorOf_12 ?_
    refine z_iconst C (v := nI 1) dX5_mirrorOf_13 (by decide) ?_
    refine z_iand C dX5_mirrorOf_14 ?_
    refine z_iconst C (v := nI 1) dX5_mirrorOf_15 (by decide) ?_
    refine z_icmp_ne C 39 dX5_mirrorOf_16 (by decide) (fun h16t_1 => ?_) (fun h16n_1 => ?_)
    · refine z_iincN C [(2, .int (nI (k + 1))), (0, .int set), (1, .int (k_mi set k))] dX5_mirrorOf_39 rfl (by decide) rfl ?_
      refine z_goto C 4 dX5_mirrorOf_42 (by decide) ?_
      exact z_to (ih4) (rfl) (by simp [zlk, k_mi, h16t_1])
    · refine z_iload_n C dX5_mirrorOf_19 rfl (show zlk _ 2 = some (.int (nI k)) from rfl) ?_
      refine z_bipush C (v := nI 6) dX5_mirrorOf_20 (by decide) ?_
      refine z_iremN C dX5_mirrorOf_22 (by omega) (by omega) (by omega) ?_
      refine z_istore_n C [(3, .int (nI (k % 6))), (0, .int set), (1, .int (k_mi set k)), (2, .int (nI k))] dX5_mirrorOf_23 rfl (by decide) rfl ?_
      refine z_iload_n C dX5_mirrorOf_24 rfl (show zlk _ 1 = some (.int (k_mi set k)) from rfl) ?_
      refine z_iconst C (v := nI 1) dX5_mirrorOf_25 (by decide) ?_
      refine z_iload_n C dX5_mirrorOf_26 rfl (show zlk _ 2 = some (.int (nI k)) from rfl) ?_
      refine z_iload_n C dX5_mirrorOf_27 rfl (show zlk _ 3 = some (.int (nI (k % 6))) from rfl) ?_
      refine z_isubN C dX5_mirrorOf_28 (by omega) ?_
      refine z_bipush C (v := nI 6) dX5_mirrorOf_29 (by decide) ?_
      refine z_iaddN C dX5_mirrorOf_31 ?_
      refine z_iconst C (v := nI 1) dX5_mirrorOf_32 (by decide) ?_
      refine z_isubN C dX5_mirrorOf_33 (by omega) ?_
      refine z_iload_n C dX5_mirrorOf_34 rfl (show zlk _ 3 = some (.int (nI (k % 6))) from rfl) ?_
      refine z_isubN C dX5_mirrorOf_35 (by omega) ?_
      refine z_ishl C dX5_mirrorOf_36 ?_
      refine z_ior C dX5_mirrorOf_37 ?_
      refine z_istore_n C [(1, .int ((k_mi set k) ||| ((nI 1) <<< ((nI ((((k - (k % 6)) + 6) - 1) - (k % 6))) &&& 31)))), (3, .int (nI (k % 6))), (0, .int set), (2, .int (nI k))] dX5_mirrorOf_38 rfl (by decide) rfl ?_
      refine z_iincN C [(2, .int (nI (k + 1))), (1, .int ((k_mi set k) ||| ((nI 1) <<< ((nI ((((k - (k % 6)) + 6) - 1) - (k % 6))) &&& 31)))), (3, .int (nI (k % 6))), (0, .int set)] dX5_mirrorOf_39 rfl (by decide) rfl ?_
      refine z_goto C 4 dX5_mirrorOf_42 (by decide) ?_
      exact z_to (ih4) (rfl) (by simp [zlk, k_mi, h16n_1])

