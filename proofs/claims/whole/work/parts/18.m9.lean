def m_shA (f : Nat → Int32) : Nat → Nat → Int32
  | 0 => f
  | i + 1 => upd (m_shA f i) (22 + i) (m_shA f i (22 + i + 3))
theorem m_shA_lo (f : Nat → Int32) {j : Nat} (hj : j < 22) : ∀ i, m_shA f i j = f j
  | 0 => rfl
  | i + 1 => by
    show upd _ _ _ j = _
    rw [pk_un (by omega)]
    exact m_shA_lo f hj i
def m_ko (f : Nat → Int32) (c : Nat) (k s v : Int32) : Nat → Int32 := upd (upd (upd (upd f (22 + 3 * c) k) (22 + 3 * c + 1) s) (22 + 3 * c + 2) v) 21 (nI (c + 1))
def m_kp (f : Nat → Int32) (c : Nat) (k s v : Int32) : Nat → Int32 := if c = 20 then upd (upd (upd (upd (upd (m_shA f 57) 21 (nI 19)) 79 k) 80 s) 81 v) 21 (nI 20) else m_ko f c k s v
set_option maxHeartbeats 4000000 in
set_option maxRecDepth 100000 in
theorem c_X6_keepsOne_a (l : Launch) (θ : zH) (ad : Nat → Nat) (n : Nat → Nat) (g : Int32) (r : Nat → Nat → Int32) (c : Nat) (k s v : Int32) (hc : r 7 21 = nI c) (h20 : c = 20) : cV l yX6_keepsOne wsX6_keepsOne 0 θ [.ref (ad 0), .int k, .int s, .int v] (MW θ ad n g r) (fun Y => Y = MW θ ad n g (rv (r 2) (r 4) (r 6) (m_kp (r 7) c k s v) (r 9) (r 17) (r 19) (r 21) (r 23) (r 24) (r 25) (r 26) (r 28) (r 29) (r 30) (r 31) (r 32))) := by
  refine z_cV (by decide) rfl rfl (Nat.le_of_ble_eq_true rfl) (lv := [(0, .ref (ad 0)), (1, .int k), (2, .int s), (3, .int v)]) rfl (fun κ C E => ?_)
  have hin : ∀ w ∈ wsX60, w ∈ wsX6_keepsOne := by decide +kernel
  refine z_aload_n C dX6_keepsOne_0 rfl (show zlk _ 0 = some (.ref (ad 0)) from rfl) ?_
  refine z_mg C hin 7 (by decide) (by decide +kernel) (v := .ref (ad 7)) mf_7 dX6_keepsOne_1 ?_
  refine z_bipush C (v := nI 21) dX6_keepsOne_4 (by decide) ?_
  refine z_iald C (f := (r 7)) 4 mr_7 21 rfl (by omega) (by decide) dX6_keepsOne_6 ?_
  refine z_top (v' := .int (nI 20)) (by rw [hc, h20]) ?_
  refine z_bipush C (v := nI 20) dX6_keepsOne_7 (by decide) ?_
  refine z_icmp_neF C 61 dX6_keepsOne_9 (by decide) (by omega) (by omega) (by decide) ?_
  refine z_iconst C (v := nI 0) dX6_keepsOne_12 (by decide) ?_
  refine z_istore C [(4, .int (nI 0)), (0, .ref (ad 0)), (1, .int k), (2, .int s), (3, .int v)] dX6_keepsOne_13 (by decide) rfl ?_
  refine z_lv (lv' := [(0, .ref (ad 0)), (1, .int k), (2, .int s), (3, .int v), (4, .int (nI 0))]) rfl ?_
  refine z_X (Y := MW θ ad n g (rv (r 2) (r 4) (r 6) (m_shA (r 7) 0) (r 9) (r 17) (r 19) (r 21) (r 23) (r 24) (r 25) (r 26) (r 28) (r 29) (r 30) (r 31) (r 32))) (mw_eq rfl rfl rfl rfl rfl rfl rfl rfl rfl rfl rfl rfl rfl rfl rfl rfl rfl rfl rfl rfl rfl rfl rfl rfl rfl rfl rfl rfl rfl rfl rfl rfl) ?_
  refine z_up (fun i => Z κ (MW θ ad n g (rv (r 2) (r 4) (r 6) (m_shA (r 7) i) (r 9) (r 17) (r 19) (r 21) (r 23) (r 24) (r 25) (r 26) (r 28) (r 29) (r 30) (r 31) (r 32))) 15 [(0, .ref (ad 0)), (1, .int k), (2, .int s), (3, .int v), (4, .int (nI i))] []) (57) ?_ ?_ 0 (by omega)
  · refine z_iload C dX6_keepsOne_15 (show zlk _ 4 = some (.int (nI 57)) from rfl) ?_
    refine z_bipush C (v := nI 57) dX6_keepsOne_17 (by decide) ?_
    refine z_icmp_geT C 50 dX6_keepsOne_19 (by decide) (by omega) (by omega) (by omega) ?_
    refine z_aload_n C dX6_keepsOne_50 rfl (show zlk _ 0 = some (.ref (ad 0)) from rfl) ?_
    refine z_mg C hin 7 (by decide) (by decide +kernel) (v := .ref (ad 7)) mf_7 dX6_keepsOne_51 ?_
    refine z_bipush C (v := nI 21) dX6_keepsOne_54 (by decide) ?_
    refine z_dup2 C dX6_keepsOne_56 rfl rfl ?_
    refine z_iald C (f := (m_shA (r 7) 57)) 4 mrv_7 21 rfl (by omega) (by decide) dX6_keepsOne_57 ?_
    refine z_top (v' := .int (nI 20)) (by rw [m_shA_lo (r 7) (by decide), hc, h20]) ?_
    refine z_iconst C (v := nI 1) dX6_keepsOne_58 (by decide) ?_
    refine z_isubN C dX6_keepsOne_59 (by decide) ?_
    refine z_iast C (f := (m_shA (r 7) 57)) 4 mrv_7 21 rfl (by omega) (by decide) _ msv_7 dX6_keepsOne_60 ?_
    refine z_bipush C (v := nI 22) dX6_keepsOne_61 (by decide) ?_
    refine z_iconst C (v := nI 3) dX6_keepsOne_63 (by decide) ?_
    refine z_aload_n C dX6_keepsOne_64 rfl (show zlk _ 0 = some (.ref (ad 0)) from rfl) ?_
    refine z_mg C hin 7 (by decide) (by decide +kernel) (v := .ref (ad 7)) mf_7 dX6_keepsOne_65 ?_
    refine z_bipush C (v := nI 21) dX6_keepsOne_68 (by decide) ?_
    refine z_iald C (f := (upd (m_shA (r 7) 57) 21 (nI 19))) 4 mrv_7 21 rfl (by omega) (by decide) dX6_keepsOne_70 ?_
    refine z_top (v' := .int (nI 19)) (by simp [upd]) ?_
    refine z_imulN C dX6_keepsOne_71 ?_
    refine z_top (v' := .int (nI 57)) rfl ?_
    refine z_iaddN C dX6_keepsOne_72 ?_
    refine z_top (v' := .int (nI 79)) rfl ?_
    refine z_istore C [(4, .int (nI 79)), (0, .ref (ad 0)), (1, .int k), (2, .int s), (3, .int v)] dX6_keepsOne_73 (by decide) rfl ?_
    refine z_aload_n C dX6_keepsOne_75 rfl (show zlk _ 0 = some (.ref (ad 0)) from rfl) ?_
    refine z_mg C hin 7 (by decide) (by decide +kernel) (v := .ref (ad 7)) mf_7 dX6_keepsOne_76 ?_
    refine z_iload C dX6_keepsOne_79 (show zlk _ 4 = some (.int (nI 79)) from rfl) ?_
    refine z_iload_n C dX6_keepsOne_81 rfl (show zlk _ 1 = some (.int k) from rfl) ?_
    refine z_iast C (f := (upd (m_shA (r 7) 57) 21 (nI 19))) 4 mrv_7 79 rfl (by omega) (by decide) _ msv_7 dX6_keepsOne_82 ?_
    refine z_aload_n C dX6_keepsOne_83 rfl (show zlk _ 0 = some (.ref (ad 0)) from rfl) ?_
    refine z_mg C hin 7 (by decide) (by decide +kernel) (v := .ref (ad 7)) mf_7 dX6_keepsOne_84 ?_
    refine z_iload C dX6_keepsOne_87 (show zlk _ 4 = some (.int (nI 79)) from rfl) ?_
    refine z_iconst C (v := nI 1) dX6_keepsOne_89 (by decide) ?_
    refine z_iaddN C dX6_keepsOne_90 ?_
    refine z_top (v' := .int (nI 80)) rfl ?_
    refine z_iload_n C dX6_keepsOne_91 rfl (show zlk _ 2 = some (.int s) from rfl) ?_
    refine z_iast C (f := (upd (upd (m_shA (r 7) 57) 21 (nI 19)) 79 k)) 4 mrv_7 80 rfl (by omega) (by decide) _ msv_7 dX6_keepsOne_92 ?_
    refine z_aload_n C dX6_keepsOne_93 rfl (show zlk _ 0 = some (.ref (ad 0)) from rfl) ?_
    refine z_mg C hin 7 (by decide) (by decide +kernel) (v := .ref (ad 7)) mf_7 dX6_keepsOne_94 ?_
    refine z_iload C dX6_keepsOne_97 (show zlk _ 4 = some (.int (nI 79)) from rfl) ?_
    refine z_iconst C (v := nI 2) dX6_keepsOne_99 (by decide) ?_
    refine z_iaddN C dX6_keepsOne_100 ?_
    refine z_top (v' := .int (nI 81)) rfl ?_
    refine z_iload_n C dX6_keepsOne_101 rfl (show zlk _ 3 = some (.int v) from rfl) ?_
    refine z_iast C (f := (upd (upd (upd (m_shA (r 7) 57) 21 (nI 19)) 79 k) 80 s)) 4 mrv_7 81 rfl (by omega) (by decide) _ msv_7 dX6_keepsOne_102 ?_
    refine z_aload_n C dX6_keepsOne_103 rfl (show zlk _ 0 = some (.ref (ad 0)) from rfl) ?_
    refine z_mg C hin 7 (by decide) (by decide +kernel) (v := .ref (ad 7)) mf_7 dX6_keepsOne_104 ?_
    refine z_bipush C (v := nI 21) dX6_keepsOne_107 (by decide) ?_
    refine z_dup2 C dX6_keepsOne_109 rfl rfl ?_
    refine z_iald C (f := (upd (upd (upd (upd (m_shA (r 7) 57) 21 (nI 19)) 79 k) 80 s) 81 v)) 4 mrv_7 21 rfl (by omega) (by decide) dX6_keepsOne_110 ?_
    refine z_top (v' := .int (nI 19)) (by simp [upd]) ?_
    refine z_iconst C (v := nI 1) dX6_keepsOne_111 (by decide) ?_
    refine z_iaddN C dX6_keepsOne_112 ?_
    refine z_top (v' := .int (nI 20)) rfl ?_
    refine z_iast C (f := (upd (upd (upd (upd (m_shA (r 7) 57) 21 (nI 19)) 79 k) 80 s) 81 v)) 4 mrv_7 21 rfl (by omega) (by decide) _ msv_7 dX6_keepsOne_113 ?_
    exact E _ _ _ (by unfold m_kp; rw [if_pos h20] <;> exact (mw_eq rfl rfl rfl rfl rfl rfl rfl rfl rfl rfl rfl rfl rfl rfl rfl rfl rfl rfl rfl rfl rfl rfl rfl rfl rfl rfl rfl rfl rfl rfl rfl rfl)) dX6_keepsOne_114
  · intro i hk15 ih15
    refine z_iload C dX6_keepsOne_15 (show zlk _ 4 = some (.int (nI i)) from rfl) ?_
    refine z_bipush C (v := nI 57) dX6_keepsOne_17 (by decide) ?_
    refine z_icmp_geF C 50 dX6_keepsOne_19 (by decide) (by omega) (by omega) (by omega) ?_
    refine z_aload_n C dX6_keepsOne_22 rfl (show zlk _ 0 = some (.ref (ad 0)) from rfl) ?_
    refine z_mg C hin 7 (by decide) (by decide +kernel) (v := .ref (ad 7)) mf_7 dX6_keepsOne_23 ?_
    refine z_bipush C (v := nI 22) dX6_keepsOne_26 (by decide) ?_
    refine z_iload C dX6_keepsOne_28 (show zlk _ 4 = some (.int (nI i)) from rfl) ?_
    refine z_iaddN C dX6_keepsOne_30 ?_
    refine z_aload_n C dX6_keepsOne_31 rfl (show zlk _ 0 = some (.ref (ad 0)) from rfl) ?_
    refine z_mg C hin 7 (by decide) (by decide +kernel) (v := .ref (ad 7)) mf_7 dX6_keepsOne_32 ?_
    refine z_bipush C (v := nI 22) dX6_keepsOne_35 (by decide) ?_
    refine z_iload C dX6_keepsOne_37 (show zlk _ 4 = some (.int (nI i)) from rfl) ?_
    refine z_iaddN C dX6_keepsOne_39 ?_
    refine z_iconst C (v := nI 3) dX6_keepsOne_40 (by decide) ?_
    refine z_iaddN C dX6_keepsOne_41 ?_
    refine z_iald C (f := (m_shA (r 7) i)) 4 mrv_7 (22 + i + 3) rfl (by omega) (by decide) dX6_keepsOne_42 ?_
    refine z_iast C (f := (m_shA (r 7) i)) 4 mrv_7 (22 + i) rfl (by omega) (by decide) _ msv_7 dX6_keepsOne_43 ?_
    refine z_iincN C [(4, .int (nI (i + 1))), (0, .ref (ad 0)), (1, .int k), (2, .int s), (3, .int v)] dX6_keepsOne_44 rfl (by decide) rfl ?_
    refine z_goto C 15 dX6_keepsOne_47 (by decide) ?_
    exact z_to (ih15) ((mw_eq rfl rfl rfl rfl rfl rfl rfl rfl rfl rfl rfl rfl rfl rfl rfl rfl rfl rfl rfl rfl rfl rfl rfl rfl rfl rfl rfl rfl rfl rfl rfl rfl)) (rfl)

set_option maxHeartbeats 4000000 in
set_option maxRecDepth 100000 in
theorem c_X6_keepsOne_b (l : Launch) (θ : zH) (ad : Nat → Nat) (n : Nat → Nat) (g : Int32) (r : Nat → Nat → Int32) (c : Nat) (k s v : Int32) (hc : r 7 21 = nI c) (h20 : c < 20) : cV l yX6_keepsOne wsX6_keepsOne 0 θ [.ref (ad 0), .int k, .int s, .int v] (MW θ ad n g r) (fun Y => Y = MW θ ad n g (rv (r 2) (r 4) (r 6) (m_kp (r 7) c k s v) (r 9) (r 17) (r 19) (r 21) (r 23) (r 24) (r 25) (r 26) (r 28) (r 29) (r 30) (r 31) (r 32))) := by
  refine z_cV (by decide) rfl rfl (Nat.le_of_ble_eq_true rfl) (lv := [(0, .ref (ad 0)), (1, .int k), (2, .int s), (3, .int v)]) rfl (fun κ C E => ?_)
  have hin : ∀ w ∈ wsX60, w ∈ wsX6_keepsOne := by decide +kernel
  refine z_aload_n C dX6_keepsOne_0 rfl (show zlk _ 0 = some (.ref (ad 0)) from rfl) ?_
  refine z_mg C hin 7 (by decide) (by decide +kernel) (v := .ref (ad 7)) mf_7 dX6_keepsOne_1 ?_
  refine z_bipush C (v := nI 21) dX6_keepsOne_4 (by decide) ?_
  refine z_iald C (f := (r 7)) 4 mr_7 21 rfl (by omega) (by decide) dX6_keepsOne_6 ?_
  refine z_top (v' := .int (nI c)) (by rw [hc]) ?_
  refine z_bipush C (v := nI 20) dX6_keepsOne_7 (by decide) ?_
  refine z_icmp_neT C 61 dX6_keepsOne_9 (by decide) (by omega) (by omega) (by omega) ?_
  refine z_bipush C (v := nI 22) dX6_keepsOne_61 (by decide) ?_
  refine z_iconst C (v := nI 3) dX6_keepsOne_63 (by decide) ?_
  refine z_aload_n C dX6_keepsOne_64 rfl (show zlk _ 0 = some (.ref (ad 0)) from rfl) ?_
  refine z_mg C hin 7 (by decide) (by decide +kernel) (v := .ref (ad 7)) mf_7 dX6_keepsOne_65 ?_
  refine z_bipush C (v := nI 21) dX6_keepsOne_68 (by decide) ?_
  refine z_iald C (f := (r 7)) 4 mr_7 21 rfl (by omega) (by decide) dX6_keepsOne_70 ?_
  refine z_top (v' := .int (nI c)) (by rw [hc]) ?_
  refine z_imulN C dX6_keepsOne_71 ?_
  refine z_iaddN C dX6_keepsOne_72 ?_
  refine z_istore C [(4, .int (nI (22 + (3 * c)))), (0, .ref (ad 0)), (1, .int k), (2, .int s), (3, .int v)] dX6_keepsOne_73 (by decide) rfl ?_
  refine z_aload_n C dX6_keepsOne_75 rfl (show zlk _ 0 = some (.ref (ad 0)) from rfl) ?_
  refine z_mg C hin 7 (by decide) (by decide +kernel) (v := .ref (ad 7)) mf_7 dX6_keepsOne_76 ?_
  refine z_iload C dX6_keepsOne_79 (show zlk _ 4 = some (.int (nI (22 + (3 * c)))) from rfl) ?_
  refine z_iload_n C dX6_keepsOne_81 rfl (show zlk _ 1 = some (.int k) from rfl) ?_
  refine z_iast C (f := (r 7)) 4 mr_7 (22 + (3 * c)) rfl (by omega) (by decide) _ msn_7 dX6_keepsOne_82 ?_
  refine z_aload_n C dX6_keepsOne_83 rfl (show zlk _ 0 = some (.ref (ad 0)) from rfl) ?_
  refine z_mg C hin 7 (by decide) (by decide +kernel) (v := .ref (ad 7)) mf_7 dX6_keepsOne_84 ?_
  refine z_iload C dX6_keepsOne_87 (show zlk _ 4 = some (.int (nI (22 + (3 * c)))) from rfl) ?_
  refine z_iconst C (v := nI 1) dX6_keepsOne_89 (by decide) ?_
  refine z_iaddN C dX6_keepsOne_90 ?_
  refine z_iload_n C dX6_keepsOne_91 rfl (show zlk _ 2 = some (.int s) from rfl) ?_
  refine z_iast C (f := (upd (r 7) (22 + (3 * c)) k)) 4 mrv_7 (22 + (3 * c) + 1) rfl (by omega) (by decide) _ msv_7 dX6_keepsOne_92 ?_
  refine z_aload_n C dX6_keepsOne_93 rfl (show zlk _ 0 = some (.ref (ad 0)) from rfl) ?_
  refine z_mg C hin 7 (by decide) (by decide +kernel) (v := .ref (ad 7)) mf_7 dX6_keepsOne_94 ?_
  refine z_iload C dX6_keepsOne_97 (show zlk _ 4 = some (.int (nI (22 + (3 * c)))) from rfl) ?_
  refine z_iconst C (v := nI 2) dX6_keepsOne_99 (by decide) ?_
  refine z_iaddN C dX6_keepsOne_100 ?_
  refine z_iload_n C dX6_keepsOne_101 rfl (show zlk _ 3 = some (.int v) from rfl) ?_
  refine z_iast C (f := (upd (upd (r 7) (22 + (3 * c)) k) (22 + (3 * c) + 1) s)) 4 mrv_7 (22 + (3 * c) + 2) rfl (by omega) (by decide) _ msv_7 dX6_keepsOne_102 ?_
  refine z_aload_n C dX6_keepsOne_103 rfl (show zlk _ 0 = some (.ref (ad 0)) from rfl) ?_
  refine z_mg C hin 7 (by decide) (by decide +kernel) (v := .ref (ad 7)) mf_7 dX6_keepsOne_104 ?_
  refine z_bipush C (v := nI 21) dX6_keepsOne_107 (by decide) ?_
  refine z_dup2 C dX6_keepsOne_109 rfl rfl ?_
  refine z_iald C (f := (upd (upd (upd (r 7) (22 + (3 * c)) k) (22 + (3 * c) + 1) s) (22 + (3 * c) + 2) v)) 4 mrv_7 21 rfl (by omega) (by decide) dX6_keepsOne_110 ?_
  refine z_top (v' := .int (nI c)) (by simp only [upd]; rw [if_neg (by omega), if_neg (by omega), if_neg (by omega), hc]) ?_
  refine z_iconst C (v := nI 1) dX6_keepsOne_111 (by decide) ?_
  refine z_iaddN C dX6_keepsOne_112 ?_
  refine z_iast C (f := (upd (upd (upd (r 7) (22 + (3 * c)) k) (22 + (3 * c) + 1) s) (22 + (3 * c) + 2) v)) 4 mrv_7 21 rfl (by omega) (by decide) _ msv_7 dX6_keepsOne_113 ?_
  exact E _ _ _ (by unfold m_kp; rw [if_neg (by omega)] <;> exact (mw_eq rfl rfl rfl rfl rfl rfl rfl rfl rfl rfl rfl rfl rfl rfl rfl rfl rfl rfl rfl rfl rfl rfl rfl rfl rfl rfl rfl rfl rfl rfl rfl rfl)) dX6_keepsOne_114

theorem c_X6_keepsOne (l : Launch) (θ : zH) (ad : Nat → Nat) (n : Nat → Nat) (g : Int32) (r : Nat → Nat → Int32) (c : Nat) (k s v : Int32) (hc : r 7 21 = nI c) (h20 : c ≤ 20) : cV l yX6_keepsOne wsX6_keepsOne 0 θ [.ref (ad 0), .int k, .int s, .int v] (MW θ ad n g r) (fun Y => Y = MW θ ad n g (rv (r 2) (r 4) (r 6) (m_kp (r 7) c k s v) (r 9) (r 17) (r 19) (r 21) (r 23) (r 24) (r 25) (r 26) (r 28) (r 29) (r 30) (r 31) (r 32))) := by
  by_cases e : c = 20
  · exact c_X6_keepsOne_a l θ ad n g r c k s v hc e
  · exact c_X6_keepsOne_b l θ ad n g r c k s v hc (by omega)
def cN (f : Nat → Int32) : Nat := (f 21).toNatClampNeg
def cOk (f : Nat → Int32) : Prop := f 21 = nI (cN f) ∧ cN f ≤ 20
theorem cOk_of {f : Nat → Int32} {c : Nat} (h : f 21 = nI c) (hc : c ≤ 20) : cOk f := by
  have e : cN f = c := by unfold cN; rw [h]; exact nI_clamp (by omega)
  exact ⟨by rw [e]; exact h, by omega⟩
theorem m_kp_c {f : Nat → Int32} {k s v : Int32} (h : cOk f) : cOk (m_kp f (cN f) k s v) := by
  unfold m_kp
  split
  · exact cOk_of (c := 20) (by simp [upd]) (by decide)
  · exact cOk_of (c := cN f + 1) (by unfold m_ko; simp [upd]) (by have := h.2; omega)
theorem m_kp_lo {f : Nat → Int32} {c : Nat} {k s v : Int32} {j : Nat} (hj : j < 21) : m_kp f c k s v j = f j := by
  unfold m_kp
  split
  · rw [pk_un (by omega), pk_un (by omega), pk_un (by omega), pk_un (by omega), pk_un (by omega)]
    exact m_shA_lo f (by omega) 57
  · unfold m_ko
    rw [pk_un (by omega), pk_un (by omega), pk_un (by omega), pk_un (by omega)]
/-- what is drawn, by what it needs alone -/
def dW (o f : Nat → Int32) (G j : Nat) (bx : Int32) : Int32 := (m_dr (m_sh (o j) bx 30 &&& (f 3 ^^^ (-1))) (f 2) G 30).2
def dA (S G : Nat) (o f : Nat → Int32) (w : Nat) : Int32 := if m_who f (nI w) S = (-1) ∨ f 4 = nI 1 ∨ m_has (f 5) (nI w) = true then nI 0 else dW o f G (m_who f (nI w) S).toNatClampNeg (f (12 + w) + f 1)
def m_pp (S G : Nat) (o f : Nat → Int32) : Nat → Nat → Int32
  | 0 => f
  | k + 1 => if dA S G o (m_pp S G o f k) k = nI 0 then m_pp S G o f k else m_kp (m_pp S G o f k) (cN (m_pp S G o f k)) (nI k) (m_who (m_pp S G o f k) (nI k) S) (dA S G o (m_pp S G o f k) k)
theorem m_pp_c {S G : Nat} {o f : Nat → Int32} (h : cOk f) : ∀ k, cOk (m_pp S G o f k)
  | 0 => h
  | k + 1 => by
    have := m_pp_c (S := S) (G := G) (o := o) h k
    unfold m_pp
    split
    · exact this
    · exact m_kp_c this
theorem m_pp_lo {S G : Nat} {o f : Nat → Int32} {j : Nat} (hj : j < 21) : ∀ k, m_pp S G o f k j = f j
  | 0 => rfl
  | k + 1 => by
    have := m_pp_lo (S := S) (G := G) (o := o) (f := f) hj k
    unfold m_pp
    split
    · exact this
    · rw [m_kp_lo hj]; exact this
def m_w1 (x : Int32) : Int32 := if x ≤ 0 then (if 0 ≤ x then nI 0 else nI 1) else (-1)
def m_pe (f : Nat → Int32) (dk : Nat) : Nat → Int32 := upd (upd (upd (upd (upd (upd f 1 (f 1 + m_w1 (f 1))) 2 (nI 0)) 4 (nI 0)) 5 (nI 0)) 3 (if dk % 3 = 2 then nI 0 else f 3)) 0 (nI (dk + 1))
theorem m_pe_c {f : Nat → Int32} {dk : Nat} (h : cOk f) : cOk (m_pe f dk) := cOk_of (c := cN f) (by unfold m_pe; simp only [upd]; exact h.1) h.2
set_option maxHeartbeats 4000000 in
set_option maxRecDepth 100000 in
theorem c_X6_passes (l : Launch) (θ : zH) (ad : Nat → Nat) (n : Nat → Nat) (g : Int32) (r : Nat → Nat → Int32) (dk : Nat) (hS : n 1 ≤ 6) (hW : n 3 ≤ 5) (h0 : n 0 ≤ 30) (hc : cOk (r 7)) (hd : r 7 0 = nI dk) (hdk : dk < 2 ^ 30) : cV l yX6_passes wsX6_passes 4 θ [.ref (ad 0)] (MW θ ad n g r) (fun Y => Y = MW θ ad n g (rv (r 2) (r 4) (r 6) (m_pe (m_pp (n 1) (n 0) (r 2) (r 7) (n 3)) dk) (r 9) (r 17) (r 19) (r 21) (r 23) (r 24) (r 25) (r 26) (r 28) (r 29) (r 30) (r 31) (r 32))) := by
  refine z_cV (by decide) rfl rfl (Nat.le_of_ble_eq_true rfl) (lv := [(0, .ref (ad 0))]) rfl (fun κ C E => ?_)
  have hin : ∀ w ∈ wsX60, w ∈ wsX6_passes := by decide +kernel
  refine z_iconst C (v := nI 0) dX6_passes_0 (by decide) ?_
  refine z_istore_n C [(1, .int (nI 0)), (0, .ref (ad 0))] dX6_passes_1 rfl (by decide) rfl ?_
  refine z_lv (lv' := [(0, .ref (ad 0)), (1, .int (nI 0))]) rfl ?_
  refine z_X (Y := MW θ ad n g (rv (r 2) (r 4) (r 6) (m_pp (n 1) (n 0) (r 2) (r 7) 0) (r 9) (r 17) (r 19) (r 21) (r 23) (r 24) (r 25) (r 26) (r 28) (r 29) (r 30) (r 31) (r 32))) (mw_eq rfl rfl rfl rfl rfl rfl rfl rfl rfl rfl rfl rfl rfl rfl rfl rfl rfl rfl rfl rfl rfl rfl rfl rfl rfl rfl rfl rfl rfl rfl rfl rfl) ?_
  refine z_up (fun k => Z κ (MW θ ad n g (rv (r 2) (r 4) (r 6) (m_pp (n 1) (n 0) (r 2) (r 7) k) (r 9) (r 17) (r 19) (r 21) (r 23) (r 24) (r 25) (r 26) (r 28) (r 29) (r 30) (r 31) (r 32))) 2 [(0, .ref (ad 0)), (1, .int (nI k))] []) (n 3) ?_ ?_ 0 (by omega)
  · refine z_iload_n C dX6_passes_2 rfl (show zlk _ 1 = some (.int (nI (n 3))) from rfl) ?_
    refine z_aload_n C dX6_passes_3 rfl (show zlk _ 0 = some (.ref (ad 0)) from rfl) ?_
    refine z_mg C hin 3 (by decide) (by decide +kernel) (v := .int (nI (n 3))) mf_3 dX6_passes_4 ?_
    refine z_icmp_geT C 37 dX6_passes_7 (by decide) (by omega) (by omega) (by omega) ?_
    refine z_aload_n C dX6_passes_37 rfl (show zlk _ 0 = some (.ref (ad 0)) from rfl) ?_
    refine z_mg C hin 7 (by decide) (by decide +kernel) (v := .ref (ad 7)) mf_7 dX6_passes_38 ?_
    refine z_iconst C (v := nI 1) dX6_passes_41 (by decide) ?_
    refine z_dup2 C dX6_passes_42 rfl rfl ?_
    refine z_iald C (f := (m_pp (n 1) (n 0) (r 2) (r 7) (n 3))) 4 mrv_7 1 rfl (by omega) (by decide) dX6_passes_43 ?_
    refine z_aload_n C dX6_passes_44 rfl (show zlk _ 0 = some (.ref (ad 0)) from rfl) ?_
    refine z_mg C hin 7 (by decide) (by decide +kernel) (v := .ref (ad 7)) mf_7 dX6_passes_45 ?_
    refine z_iconst C (v := nI 1) dX6_passes_48 (by decide) ?_
    refine z_iald C (f := (m_pp (n 1) (n 0) (r 2) (r 7) (n 3))) 4 mrv_7 1 rfl (by omega) (by decide) dX6_passes_49 ?_
    refine z_if_le C 57 dX6_passes_50 (by decide) (fun h50t_1 => ?_) (fun h50n_1 => ?_)
    · refine z_aload_n C dX6_passes_57 rfl (show zlk _ 0 = some (.ref (ad 0)) from rfl) ?_
      refine z_mg C hin 7 (by decide) (by decide +kernel) (v := .ref (ad 7)) mf_7 dX6_passes_58 ?_
      refine z_iconst C (v := nI 1) dX6_passes_61 (by decide) ?_
      refine z_iald C (f := (m_pp (n 1) (n 0) (r 2) (r 7) (n 3))) 4 mrv_7 1 rfl (by omega) (by decide) dX6_passes_62 ?_
      refine z_if_ge C 70 dX6_passes_63 (by decide) (fun h63t_2 => ?_) (fun h63n_2 => ?_)
      · refine z_iconst C (v := nI 0) dX6_passes_70 (by decide) ?_
        refine z_iadd C dX6_passes_71 ?_
        refine z_iast C (f := (m_pp (n 1) (n 0) (r 2) (r 7) (n 3))) 4 mrv_7 1 rfl (by omega) (by decide) _ msv_7 dX6_passes_72 ?_
        refine z_aload_n C dX6_passes_73 rfl (show zlk _ 0 = some (.ref (ad 0)) from rfl) ?_
        refine z_mg C hin 7 (by decide) (by decide +kernel) (v := .ref (ad 7)) mf_7 dX6_passes_74 ?_
        refine z_iconst C (v := nI 2) dX6_passes_77 (by decide) ?_
        refine z_iconst C (v := nI 0) dX6_passes_78 (by decide) ?_
        refine z_iast C (f := (upd (m_pp (n 1) (n 0) (r 2) (r 7) (n 3)) 1 (((m_pp (n 1) (n 0) (r 2) (r 7) (n 3)) 1) + (nI 0)))) 4 mrv_7 2 rfl (by omega) (by decide) _ msv_7 dX6_passes_79 ?_
        refine z_aload_n C dX6_passes_80 rfl (show zlk _ 0 = some (.ref (ad 0)) from rfl) ?_
        refine z_mg C hin 7 (by decide) (by decide +kernel) (v := .ref (ad 7)) mf_7 dX6_passes_81 ?_
        refine z_iconst C (v := nI 4) dX6_passes_84 (by decide) ?_
        refine z_iconst C (v := nI 0) dX6_passes_85 (by decide) ?_
        refine z_iast C (f := (upd (upd (m_pp (n 1) (n 0) (r 2) (r 7) (n 3)) 1 (((m_pp (n 1) (n 0) (r 2) (r 7) (n 3)) 1) + (nI 0))) 2 (nI 0))) 4 mrv_7 4 rfl (by omega) (by decide) _ msv_7 dX6_passes_86 ?_
        refine z_aload_n C dX6_passes_87 rfl (show zlk _ 0 = some (.ref (ad 0)) from rfl) ?_
        refine z_mg C hin 7 (by decide) (by decide +kernel) (v := .ref (ad 7)) mf_7 dX6_passes_88 ?_
        refine z_iconst C (v := nI 5) dX6_passes_91 (by decide) ?_
        refine z_iconst C (v := nI 0) dX6_passes_92 (by decide) ?_
        refine z_iast C (f := (upd (upd (upd (m_pp (n 1) (n 0) (r 2) (r 7) (n 3)) 1 (((m_pp (n 1) (n 0) (r 2) (r 7) (n 3)) 1) + (nI 0))) 2 (nI 0)) 4 (nI 0))) 4 mrv_7 5 rfl (by omega) (by decide) _ msv_7 dX6_passes_93 ?_
        refine z_aload_n C dX6_passes_94 rfl (show zlk _ 0 = some (.ref (ad 0)) from rfl) ?_
        refine z_mg C hin 7 (by decide) (by decide +kernel) (v := .ref (ad 7)) mf_7 dX6_passes_95 ?_
        refine z_iconst C (v := nI 3) dX6_passes_98 (by decide) ?_
        refine z_aload_n C dX6_passes_99 rfl (show zlk _ 0 = some (.ref (ad 0)) from rfl) ?_
        refine z_mg C hin 7 (by decide) (by decide +kernel) (v := .ref (ad 7)) mf_7 dX6_passes_100 ?_
        refine z_iconst C (v := nI 0) dX6_passes_103 (by decide) ?_
        refine z_iald C (f := (upd (upd (upd (upd (m_pp (n 1) (n 0) (r 2) (r 7) (n 3)) 1 (((m_pp (n 1) (n 0) (r 2) (r 7) (n 3)) 1) + (nI 0))) 2 (nI 0)) 4 (nI 0)) 5 (nI 0))) 4 mrv_7 0 rfl (by omega) (by decide) dX6_passes_104 ?_
        refine z_top (v' := .int (nI dk)) (congrArg Value.int ((m_pp_lo (S := n 1) (G := n 0) (o := r 2) (f := r 7) (j := 0) (by decide) (n 3)).trans hd)) ?_
        refine z_iconst C (v := nI 3) dX6_passes_105 (by decide) ?_
        refine z_iremN C dX6_passes_106 (by omega) (by decide) (by decide) ?_
        refine z_iconst C (v := nI 2) dX6_passes_107 (by decide) ?_
        refine z_icmp_neN C 115 dX6_passes_108 (by decide) (by omega) (by omega) (fun h108t_3 => ?_) (fun h108n_3 => ?_)
        · refine z_aload_n C dX6_passes_115 rfl (show zlk _ 0 = some (.ref (ad 0)) from rfl) ?_
          refine z_mg C hin 7 (by decide) (by decide +kernel) (v := .ref (ad 7)) mf_7 dX6_passes_116 ?_
          refine z_iconst C (v := nI 3) dX6_passes_119 (by decide) ?_
          refine z_iald C (f := (upd (upd (upd (upd (m_pp (n 1) (n 0) (r 2) (r 7) (n 3)) 1 (((m_pp (n 1) (n 0) (r 2) (r 7) (n 3)) 1) + (nI 0))) 2 (nI 0)) 4 (nI 0)) 5 (nI 0))) 4 mrv_7 3 rfl (by omega) (by decide) dX6_passes_120 ?_
          refine z_iast C (f := (upd (upd (upd (upd (m_pp (n 1) (n 0) (r 2) (r 7) (n 3)) 1 (((m_pp (n 1) (n 0) (r 2) (r 7) (n 3)) 1) + (nI 0))) 2 (nI 0)) 4 (nI 0)) 5 (nI 0))) 4 mrv_7 3 rfl (by omega) (by decide) _ msv_7 dX6_passes_121 ?_
          refine z_aload_n C dX6_passes_122 rfl (show zlk _ 0 = some (.ref (ad 0)) from rfl) ?_
          refine z_mg C hin 7 (by decide) (by decide +kernel) (v := .ref (ad 7)) mf_7 dX6_passes_123 ?_
          refine z_iconst C (v := nI 0) dX6_passes_126 (by decide) ?_
          refine z_dup2 C dX6_passes_127 rfl rfl ?_
          refine z_iald C (f := (upd (upd (upd (upd (upd (m_pp (n 1) (n 0) (r 2) (r 7) (n 3)) 1 (((m_pp (n 1) (n 0) (r 2) (r 7) (n 3)) 1) + (nI 0))) 2 (nI 0)) 4 (nI 0)) 5 (nI 0)) 3 ((upd (upd (upd (upd (m_pp (n 1) (n 0) (r 2) (r 7) (n 3)) 1 (((m_pp (n 1) (n 0) (r 2) (r 7) (n 3)) 1) + (nI 0))) 2 (nI 0)) 4 (nI 0)) 5 (nI 0)) 3))) 4 mrv_7 0 rfl (by omega) (by decide) dX6_passes_128 ?_
          refine z_top (v' := .int (nI dk)) (congrArg Value.int ((m_pp_lo (S := n 1) (G := n 0) (o := r 2) (f := r 7) (j := 0) (by decide) (n 3)).trans hd)) ?_
          refine z_iconst C (v := nI 1) dX6_passes_129 (by decide) ?_
          refine z_iaddN C dX6_passes_130 ?_
          refine z_iast C (f := (upd (upd (upd (upd (upd (m_pp (n 1) (n 0) (r 2) (r 7) (n 3)) 1 (((m_pp (n 1) (n 0) (r 2) (r 7) (n 3)) 1) + (nI 0))) 2 (nI 0)) 4 (nI 0)) 5 (nI 0)) 3 ((upd (upd (upd (upd (m_pp (n 1) (n 0) (r 2) (r 7) (n 3)) 1 (((m_pp (n 1) (n 0) (r 2) (r 7) (n 3)) 1) + (nI 0))) 2 (nI 0)) 4 (nI 0)) 5 (nI 0)) 3))) 4 mrv_7 0 rfl (by omega) (by decide) _ msv_7 dX6_passes_131 ?_
          exact E _ _ _ (by have ew : m_w1 ((m_pp (n 1) (n 0) (r 2) (r 7) (n 3)) 1) = nI 0 := (by unfold m_w1; rw [if_pos h50t_1, if_pos h63t_2]); unfold m_pe; rw [ew, if_neg h108t_3] <;> exact (mw_eq rfl rfl rfl rfl rfl rfl rfl rfl rfl rfl rfl rfl rfl rfl rfl rfl rfl rfl rfl rfl rfl rfl rfl rfl rfl rfl rfl rfl rfl rfl rfl rfl)) dX6_passes_132
        · refine z_iconst C (v := nI 0) dX6_passes_111 (by decide) ?_
          refine z_goto C 121 dX6_passes_112 (by decide) ?_
          refine z_iast C (f := (upd (upd (upd (upd (m_pp (n 1) (n 0) (r 2) (r 7) (n 3)) 1 (((m_pp (n 1) (n 0) (r 2) (r 7) (n 3)) 1) + (nI 0))) 2 (nI 0)) 4 (nI 0)) 5 (nI 0))) 4 mrv_7 3 rfl (by omega) (by decide) _ msv_7 dX6_passes_121 ?_
          refine z_aload_n C dX6_passes_122 rfl (show zlk _ 0 = some (.ref (ad 0)) from rfl) ?_
          refine z_mg C hin 7 (by decide) (by decide +kernel) (v := .ref (ad 7)) mf_7 dX6_passes_123 ?_
          refine z_iconst C (v := nI 0) dX6_passes_126 (by decide) ?_
          refine z_dup2 C dX6_passes_127 rfl rfl ?_
          refine z_iald C (f := (upd (upd (upd (upd (upd (m_pp (n 1) (n 0) (r 2) (r 7) (n 3)) 1 (((m_pp (n 1) (n 0) (r 2) (r 7) (n 3)) 1) + (nI 0))) 2 (nI 0)) 4 (nI 0)) 5 (nI 0)) 3 (nI 0))) 4 mrv_7 0 rfl (by omega) (by decide) dX6_passes_128 ?_
          refine z_top (v' := .int (nI dk)) (congrArg Value.int ((m_pp_lo (S := n 1) (G := n 0) (o := r 2) (f := r 7) (j := 0) (by decide) (n 3)).trans hd)) ?_
          refine z_iconst C (v := nI 1) dX6_passes_129 (by decide) ?_
          refine z_iaddN C dX6_passes_130 ?_
          refine z_iast C (f := (upd (upd (upd (upd (upd (m_pp (n 1) (n 0) (r 2) (r 7) (n 3)) 1 (((m_pp (n 1) (n 0) (r 2) (r 7) (n 3)) 1) + (nI 0))) 2 (nI 0)) 4 (nI 0)) 5 (nI 0)) 3 (nI 0))) 4 mrv_7 0 rfl (by omega) (by decide) _ msv_7 dX6_passes_131 ?_
          exact E _ _ _ (by have ew : m_w1 ((m_pp (n 1) (n 0) (r 2) (r 7) (n 3)) 1) = nI 0 := (by unfold m_w1; rw [if_pos h50t_1, if_pos h63t_2]); unfold m_pe; rw [ew, if_pos h108n_3] <;> exact (mw_eq rfl rfl rfl rfl rfl rfl rfl rfl rfl rfl rfl rfl rfl rfl rfl rfl rfl rfl rfl rfl rfl rfl rfl rfl rfl rfl rfl rfl rfl rfl rfl rfl)) dX6_passes_132
      · refine z_iconst C (v := nI 1) dX6_passes_66 (by decide) ?_
        refine z_goto C 71 dX6_passes_67 (by decide) ?_
        refine z_iadd C dX6_passes_71 ?_
        refine z_iast C (f := (m_pp (n 1) (n 0) (r 2) (r 7) (n 3))) 4 mrv_7 1 rfl (by omega) (by decide) _ msv_7 dX6_passes_72 ?_
        refine z_aload_n C dX6_passes_73 rfl (show zlk _ 0 = some (.ref (ad 0)) from rfl) ?_
        refine z_mg C hin 7 (by decide) (by decide +kernel) (v := .ref (ad 7)) mf_7 dX6_passes_74 ?_
        refine z_iconst C (v := nI 2) dX6_passes_77 (by decide) ?_
        refine z_iconst C (v := nI 0) dX6_passes_78 (by decide) ?_
        refine z_iast C (f := (upd (m_pp (n 1) (n 0) (r 2) (r 7) (n 3)) 1 (((m_pp (n 1) (n 0) (r 2) (r 7) (n 3)) 1) + (nI 1)))) 4 mrv_7 2 rfl (by omega) (by decide) _ msv_7 dX6_passes_79 ?_
        refine z_aload_n C dX6_passes_80 rfl (show zlk _ 0 = some (.ref (ad 0)) from rfl) ?_
        refine z_mg C hin 7 (by decide) (by decide +kernel) (v := .ref (ad 7)) mf_7 dX6_passes_81 ?_
        refine z_iconst C (v := nI 4) dX6_passes_84 (by decide) ?_
        refine z_iconst C (v := nI 0) dX6_passes_85 (by decide) ?_
        refine z_iast C (f := (upd (upd (m_pp (n 1) (n 0) (r 2) (r 7) (n 3)) 1 (((m_pp (n 1) (n 0) (r 2) (r 7) (n 3)) 1) + (nI 1))) 2 (nI 0))) 4 mrv_7 4 rfl (by omega) (by decide) _ msv_7 dX6_passes_86 ?_
        refine z_aload_n C dX6_passes_87 rfl (show zlk _ 0 = some (.ref (ad 0)) from rfl) ?_
        refine z_mg C hin 7 (by decide) (by decide +kernel) (v := .ref (ad 7)) mf_7 dX6_passes_88 ?_
        refine z_iconst C (v := nI 5) dX6_passes_91 (by decide) ?_
        refine z_iconst C (v := nI 0) dX6_passes_92 (by decide) ?_
        refine z_iast C (f := (upd (upd (upd (m_pp (n 1) (n 0) (r 2) (r 7) (n 3)) 1 (((m_pp (n 1) (n 0) (r 2) (r 7) (n 3)) 1) + (nI 1))) 2 (nI 0)) 4 (nI 0))) 4 mrv_7 5 rfl (by omega) (by decide) _ msv_7 dX6_passes_93 ?_
        refine z_aload_n C dX6_passes_94 rfl (show zlk _ 0 = some (.ref (ad 0)) from rfl) ?_
        refine z_mg C hin 7 (by decide) (by decide +kernel) (v := .ref (ad 7)) mf_7 dX6_passes_95 ?_
        refine z_iconst C (v := nI 3) dX6_passes_98 (by decide) ?_
        refine z_aload_n C dX6_passes_99 rfl (show zlk _ 0 = some (.ref (ad 0)) from rfl) ?_
        refine z_mg C hin 7 (by decide) (by decide +kernel) (v := .ref (ad 7)) mf_7 dX6_passes_100 ?_
        refine z_iconst C (v := nI 0) dX6_passes_103 (by decide) ?_
        refine z_iald C (f := (upd (upd (upd (upd (m_pp (n 1) (n 0) (r 2) (r 7) (n 3)) 1 (((m_pp (n 1) (n 0) (r 2) (r 7) (n 3)) 1) + (nI 1))) 2 (nI 0)) 4 (nI 0)) 5 (nI 0))) 4 mrv_7 0 rfl (by omega) (by decide) dX6_passes_104 ?_
        refine z_top (v' := .int (nI dk)) (congrArg Value.int ((m_pp_lo (S := n 1) (G := n 0) (o := r 2) (f := r 7) (j := 0) (by decide) (n 3)).trans hd)) ?_
        refine z_iconst C (v := nI 3) dX6_passes_105 (by decide) ?_
        refine z_iremN C dX6_passes_106 (by omega) (by decide) (by decide) ?_
        refine z_iconst C (v := nI 2) dX6_passes_107 (by decide) ?_
        refine z_icmp_neN C 115 dX6_passes_108 (by decide) (by omega) (by omega) (fun h108t_4 => ?_) (fun h108n_4 => ?_)
        · refine z_aload_n C dX6_passes_115 rfl (show zlk _ 0 = some (.ref (ad 0)) from rfl) ?_
          refine z_mg C hin 7 (by decide) (by decide +kernel) (v := .ref (ad 7)) mf_7 dX6_passes_116 ?_
          refine z_iconst C (v := nI 3) dX6_passes_119 (by decide) ?_
          refine z_iald C (f := (upd (upd (upd (upd (m_pp (n 1) (n 0) (r 2) (r 7) (n 3)) 1 (((m_pp (n 1) (n 0) (r 2) (r 7) (n 3)) 1) + (nI 1))) 2 (nI 0)) 4 (nI 0)) 5 (nI 0))) 4 mrv_7 3 rfl (by omega) (by decide) dX6_passes_120 ?_
          refine z_iast C (f := (upd (upd (upd (upd (m_pp (n 1) (n 0) (r 2) (r 7) (n 3)) 1 (((m_pp (n 1) (n 0) (r 2) (r 7) (n 3)) 1) + (nI 1))) 2 (nI 0)) 4 (nI 0)) 5 (nI 0))) 4 mrv_7 3 rfl (by omega) (by decide) _ msv_7 dX6_passes_121 ?_
          refine z_aload_n C dX6_passes_122 rfl (show zlk _ 0 = some (.ref (ad 0)) from rfl) ?_
          refine z_mg C hin 7 (by decide) (by decide +kernel) (v := .ref (ad 7)) mf_7 dX6_passes_123 ?_
          refine z_iconst C (v := nI 0) dX6_passes_126 (by decide) ?_
          refine z_dup2 C dX6_passes_127 rfl rfl ?_
          refine z_iald C (f := (upd (upd (upd (upd (upd (m_pp (n 1) (n 0) (r 2) (r 7) (n 3)) 1 (((m_pp (n 1) (n 0) (r 2) (r 7) (n 3)) 1) + (nI 1))) 2 (nI 0)) 4 (nI 0)) 5 (nI 0)) 3 ((upd (upd (upd (upd (m_pp (n 1) (n 0) (r 2) (r 7) (n 3)) 1 (((m_pp (n 1) (n 0) (r 2) (r 7) (n 3)) 1) + (nI 1))) 2 (nI 0)) 4 (nI 0)) 5 (nI 0)) 3))) 4 mrv_7 0 rfl (by omega) (by decide) dX6_passes_128 ?_
          refine z_top (v' := .int (nI dk)) (congrArg Value.int ((m_pp_lo (S := n 1) (G := n 0) (o := r 2) (f := r 7) (j := 0) (by decide) (n 3)).trans hd)) ?_
          refine z_iconst C (v := nI 1) dX6_passes_129 (by decide) ?_
          refine z_iaddN C dX6_passes_130 ?_
          refine z_iast C (f := (upd (upd (upd (upd (upd (m_pp (n 1) (n 0) (r 2) (r 7) (n 3)) 1 (((m_pp (n 1) (n 0) (r 2) (r 7) (n 3)) 1) + (nI 1))) 2 (nI 0)) 4 (nI 0)) 5 (nI 0)) 3 ((upd (upd (upd (upd (m_pp (n 1) (n 0) (r 2) (r 7) (n 3)) 1 (((m_pp (n 1) (n 0) (r 2) (r 7) (n 3)) 1) + (nI 1))) 2 (nI 0)) 4 (nI 0)) 5 (nI 0)) 3))) 4 mrv_7 0 rfl (by omega) (by decide) _ msv_7 dX6_passes_131 ?_
          exact E _ _ _ (by have ew : m_w1 ((m_pp (n 1) (n 0) (r 2) (r 7) (n 3)) 1) = nI 1 := (by unfold m_w1; rw [if_pos h50t_1, if_neg h63n_2]); unfold m_pe; rw [ew, if_neg h108t_4] <;> exact (mw_eq rfl rfl rfl rfl rfl rfl rfl rfl rfl rfl rfl rfl rfl rfl rfl rfl rfl rfl rfl rfl rfl rfl rfl rfl rfl rfl rfl rfl rfl rfl rfl rfl)) dX6_passes_132
        · refine z_iconst C (v := nI 0) dX6_passes_111 (by decide) ?_
          refine z_goto C 121 dX6_passes_112 (by decide) ?_
          refine z_iast C (f := (upd (upd (upd (upd (m_pp (n 1) (n 0) (r 2) (r 7) (n 3)) 1 (((m_pp (n 1) (n 0) (r 2) (r 7) (n 3)) 1) + (nI 1))) 2 (nI 0)) 4 (nI 0)) 5 (nI 0))) 4 mrv_7 3 rfl (by omega) (by decide) _ msv_7 dX6_passes_121 ?_
          refine z_aload_n C dX6_passes_122 rfl (show zlk _ 0 = some (.ref (ad 0)) from rfl) ?_
          refine z_mg C hin 7 (by decide) (by decide +kernel) (v := .ref (ad 7)) mf_7 dX6_passes_123 ?_
          refine z_iconst C (v := nI 0) dX6_passes_126 (by decide) ?_
          refine z_dup2 C dX6_passes_127 rfl rfl ?_
          refine z_iald C (f := (upd (upd (upd (upd (upd (m_pp (n 1) (n 0) (r 2) (r 7) (n 3)) 1 (((m_pp (n 1) (n 0) (r 2) (r 7) (n 3)) 1) + (nI 1))) 2 (nI 0)) 4 (nI 0)) 5 (nI 0)) 3 (nI 0))) 4 mrv_7 0 rfl (by omega) (by decide) dX6_passes_128 ?_
          refine z_top (v' := .int (nI dk)) (congrArg Value.int ((m_pp_lo (S := n 1) (G := n 0) (o := r 2) (f := r 7) (j := 0) (by decide) (n 3)).trans hd)) ?_
          refine z_iconst C (v := nI 1) dX6_passes_129 (by decide) ?_
          refine z_iaddN C dX6_passes_130 ?_
          refine z_iast C (f := (upd (upd (upd (upd (upd (m_pp (n 1) (n 0) (r 2) (r 7) (n 3)) 1 (((m_pp (n 1) (n 0) (r 2) (r 7) (n 3)) 1) + (nI 1))) 2 (nI 0)) 4 (nI 0)) 5 (nI 0)) 3 (nI 0))) 4 mrv_7 0 rfl (by omega) (by decide) _ msv_7 dX6_passes_131 ?_
          exact E _ _ _ (by have ew : m_w1 ((m_pp (n 1) (n 0) (r 2) (r 7) (n 3)) 1) = nI 1 := (by unfold m_w1; rw [if_pos h50t_1, if_neg h63n_2]); unfold m_pe; rw [ew, if_pos h108n_4] <;> exact (mw_eq rfl rfl rfl rfl rfl rfl rfl rfl rfl rfl rfl rfl rfl rfl rfl rfl rfl rfl rfl rfl rfl rfl rfl rfl rfl rfl rfl rfl rfl rfl rfl rfl)) dX6_passes_132
    · refine z_iconst C (v := (-1)) dX6_passes_53 (by decide) ?_
      refine z_goto C 71 dX6_passes_54 (by decide) ?_
      refine z_iadd C dX6_passes_71 ?_
      refine z_iast C (f := (m_pp (n 1) (n 0) (r 2) (r 7) (n 3))) 4 mrv_7 1 rfl (by omega) (by decide) _ msv_7 dX6_passes_72 ?_
      refine z_aload_n C dX6_passes_73 rfl (show zlk _ 0 = some (.ref (ad 0)) from rfl) ?_
      refine z_mg C hin 7 (by decide) (by decide +kernel) (v := .ref (ad 7)) mf_7 dX6_passes_74 ?_
      refine z_iconst C (v := nI 2) dX6_passes_77 (by decide) ?_
      refine z_iconst C (v := nI 0) dX6_passes_78 (by decide) ?_
      refine z_iast C (f := (upd (m_pp (n 1) (n 0) (r 2) (r 7) (n 3)) 1 (((m_pp (n 1) (n 0) (r 2) (r 7) (n 3)) 1) + (-1)))) 4 mrv_7 2 rfl (by omega) (by decide) _ msv_7 dX6_passes_79 ?_
      refine z_aload_n C dX6_passes_80 rfl (show zlk _ 0 = some (.ref (ad 0)) from rfl) ?_
      refine z_mg C hin 7 (by decide) (by decide +kernel) (v := .ref (ad 7)) mf_7 dX6_passes_81 ?_
      refine z_iconst C (v := nI 4) dX6_passes_84 (by decide) ?_
      refine z_iconst C (v := nI 0) dX6_passes_85 (by decide) ?_
      refine z_iast C (f := (upd (upd (m_pp (n 1) (n 0) (r 2) (r 7) (n 3)) 1 (((m_pp (n 1) (n 0) (r 2) (r 7) (n 3)) 1) + (-1))) 2 (nI 0))) 4 mrv_7 4 rfl (by omega) (by decide) _ msv_7 dX6_passes_86 ?_
      refine z_aload_n C dX6_passes_87 rfl (show zlk _ 0 = some (.ref (ad 0)) from rfl) ?_
      refine z_mg C hin 7 (by decide) (by decide +kernel) (v := .ref (ad 7)) mf_7 dX6_passes_88 ?_
      refine z_iconst C (v := nI 5) dX6_passes_91 (by decide) ?_
      refine z_iconst C (v := nI 0) dX6_passes_92 (by decide) ?_
      refine z_iast C (f := (upd (upd (upd (m_pp (n 1) (n 0) (r 2) (r 7) (n 3)) 1 (((m_pp (n 1) (n 0) (r 2) (r 7) (n 3)) 1) + (-1))) 2 (nI 0)) 4 (nI 0))) 4 mrv_7 5 rfl (by omega) (by decide) _ msv_7 dX6_passes_93 ?_
      refine z_aload_n C dX6_passes_94 rfl (show zlk _ 0 = some (.ref (ad 0)) from rfl) ?_
      refine z_mg C hin 7 (by decide) (by decide +kernel) (v := .ref (ad 7)) mf_7 dX6_passes_95 ?_
      refine z_iconst C (v := nI 3) dX6_passes_98 (by decide) ?_
      refine z_aload_n C dX6_passes_99 rfl (show zlk _ 0 = some (.ref (ad 0)) from rfl) ?_
      refine z_mg C hin 7 (by decide) (by decide +kernel) (v := .ref (ad 7)) mf_7 dX6_passes_100 ?_
      refine z_iconst C (v := nI 0) dX6_passes_103 (by decide) ?_
      refine z_iald C (f := (upd (upd (upd (upd (m_pp (n 1) (n 0) (r 2) (r 7) (n 3)) 1 (((m_pp (n 1) (n 0) (r 2) (r 7) (n 3)) 1) + (-1))) 2 (nI 0)) 4 (nI 0)) 5 (nI 0))) 4 mrv_7 0 rfl (by omega) (by decide) dX6_passes_104 ?_
      refine z_top (v' := .int (nI dk)) (congrArg Value.int ((m_pp_lo (S := n 1) (G := n 0) (o := r 2) (f := r 7) (j := 0) (by decide) (n 3)).trans hd)) ?_
      refine z_iconst C (v := nI 3) dX6_passes_105 (by decide) ?_
      refine z_iremN C dX6_passes_106 (by omega) (by decide) (by decide) ?_
      refine z_iconst C (v := nI 2) dX6_passes_107 (by decide) ?_
      refine z_icmp_neN C 115 dX6_passes_108 (by decide) (by omega) (by omega) (fun h108t_5 => ?_) (fun h108n_5 => ?_)
      · refine z_aload_n C dX6_passes_115 rfl (show zlk _ 0 = some (.ref (ad 0)) from rfl) ?_
        refine z_mg C hin 7 (by decide) (by decide +kernel) (v := .ref (ad 7)) mf_7 dX6_passes_116 ?_
        refine z_iconst C (v := nI 3) dX6_passes_119 (by decide) ?_
        refine z_iald C (f := (upd (upd (upd (upd (m_pp (n 1) (n 0) (r 2) (r 7) (n 3)) 1 (((m_pp (n 1) (n 0) (r 2) (r 7) (n 3)) 1) + (-1))) 2 (nI 0)) 4 (nI 0)) 5 (nI 0))) 4 mrv_7 3 rfl (by omega) (by decide) dX6_passes_120 ?_
        refine z_iast C (f := (upd (upd (upd (upd (m_pp (n 1) (n 0) (r 2) (r 7) (n 3)) 1 (((m_pp (n 1) (n 0) (r 2) (r 7) (n 3)) 1) + (-1))) 2 (nI 0)) 4 (nI 0)) 5 (nI 0))) 4 mrv_7 3 rfl (by omega) (by decide) _ msv_7 dX6_passes_121 ?_
        refine z_aload_n C dX6_passes_122 rfl (show zlk _ 0 = some (.ref (ad 0)) from rfl) ?_
        refine z_mg C hin 7 (by decide) (by decide +kernel) (v := .ref (ad 7)) mf_7 dX6_passes_123 ?_
        refine z_iconst C (v := nI 0) dX6_passes_126 (by decide) ?_
        refine z_dup2 C dX6_passes_127 rfl rfl ?_
        refine z_iald C (f := (upd (upd (upd (upd (upd (m_pp (n 1) (n 0) (r 2) (r 7) (n 3)) 1 (((m_pp (n 1) (n 0) (r 2) (r 7) (n 3)) 1) + (-1))) 2 (nI 0)) 4 (nI 0)) 5 (nI 0)) 3 ((upd (upd (upd (upd (m_pp (n 1) (n 0) (r 2) (r 7) (n 3)) 1 (((m_pp (n 1) (n 0) (r 2) (r 7) (n 3)) 1) + (-1))) 2 (nI 0)) 4 (nI 0)) 5 (nI 0)) 3))) 4 mrv_7 0 rfl (by omega) (by decide) dX6_passes_128 ?_
        refine z_top (v' := .int (nI dk)) (congrArg Value.int ((m_pp_lo (S := n 1) (G := n 0) (o := r 2) (f := r 7) (j := 0) (by decide) (n 3)).trans hd)) ?_
        refine z_iconst C (v := nI 1) dX6_passes_129 (by decide) ?_
        refine z_iaddN C dX6_passes_130 ?_
        refine z_iast C (f := (upd (upd (upd (upd (upd (m_pp (n 1) (n 0) (r 2) (r 7) (n 3)) 1 (((m_pp (n 1) (n 0) (r 2) (r 7) (n 3)) 1) + (-1))) 2 (nI 0)) 4 (nI 0)) 5 (nI 0)) 3 ((upd (upd (upd (upd (m_pp (n 1) (n 0) (r 2) (r 7) (n 3)) 1 (((m_pp (n 1) (n 0) (r 2) (r 7) (n 3)) 1) + (-1))) 2 (nI 0)) 4 (nI 0)) 5 (nI 0)) 3))) 4 mrv_7 0 rfl (by omega) (by decide) _ msv_7 dX6_passes_131 ?_
        exact E _ _ _ (by have ew : m_w1 ((m_pp (n 1) (n 0) (r 2) (r 7) (n 3)) 1) = (-1) := (by unfold m_w1; rw [if_neg h50n_1]); unfold m_pe; rw [ew, if_neg h108t_5] <;> exact (mw_eq rfl rfl rfl rfl rfl rfl rfl rfl rfl rfl rfl rfl rfl rfl rfl rfl rfl rfl rfl rfl rfl rfl rfl rfl rfl rfl rfl rfl rfl rfl rfl rfl)) dX6_passes_132
      · refine z_iconst C (v := nI 0) dX6_passes_111 (by decide) ?_
        refine z_goto C 121 dX6_passes_112 (by decide) ?_
        refine z_iast C (f := (upd (upd (upd (upd (m_pp (n 1) (n 0) (r 2) (r 7) (n 3)) 1 (((m_pp (n 1) (n 0) (r 2) (r 7) (n 3)) 1) + (-1))) 2 (nI 0)) 4 (nI 0)) 5 (nI 0))) 4 mrv_7 3 rfl (by omega) (by decide) _ msv_7 dX6_passes_121 ?_
        refine z_aload_n C dX6_passes_122 rfl (show zlk _ 0 = some (.ref (ad 0)) from rfl) ?_
        refine z_mg C hin 7 (by decide) (by decide +kernel) (v := .ref (ad 7)) mf_7 dX6_passes_123 ?_
        refine z_iconst C (v := nI 0) dX6_passes_126 (by decide) ?_
        refine z_dup2 C dX6_passes_127 rfl rfl ?_
        refine z_iald C (f := (upd (upd (upd (upd (upd (m_pp (n 1) (n 0) (r 2) (r 7) (n 3)) 1 (((m_pp (n 1) (n 0) (r 2) (r 7) (n 3)) 1) + (-1))) 2 (nI 0)) 4 (nI 0)) 5 (nI 0)) 3 (nI 0))) 4 mrv_7 0 rfl (by omega) (by decide) dX6_passes_128 ?_
        refine z_top (v' := .int (nI dk)) (congrArg Value.int ((m_pp_lo (S := n 1) (G := n 0) (o := r 2) (f := r 7) (j := 0) (by decide) (n 3)).trans hd)) ?_
        refine z_iconst C (v := nI 1) dX6_passes_129 (by decide) ?_
        refine z_iaddN C dX6_passes_130 ?_
        refine z_iast C (f := (upd (upd (upd (upd (upd (m_pp (n 1) (n 0) (r 2) (r 7) (n 3)) 1 (((m_pp (n 1) (n 0) (r 2) (r 7) (n 3)) 1) + (-1))) 2 (nI 0)) 4 (nI 0)) 5 (nI 0)) 3 (nI 0))) 4 mrv_7 0 rfl (by omega) (by decide) _ msv_7 dX6_passes_131 ?_
        exact E _ _ _ (by have ew : m_w1 ((m_pp (n 1) (n 0) (r 2) (r 7) (n 3)) 1) = (-1) := (by unfold m_w1; rw [if_neg h50n_1]); unfold m_pe; rw [ew, if_pos h108n_5] <;> exact (mw_eq rfl rfl rfl rfl rfl rfl rfl rfl rfl rfl rfl rfl rfl rfl rfl rfl rfl rfl rfl rfl rfl rfl rfl rfl rfl rfl rfl rfl rfl rfl rfl rfl)) dX6_passes_132
  · intro k hk2 ih2
    refine z_iload_n C dX6_passes_2 rfl (show zlk _ 1 = some (.int (nI k)) from rfl) ?_
    refine z_aload_n C dX6_passes_3 rfl (show zlk _ 0 = some (.ref (ad 0)) from rfl) ?_
    refine z_mg C hin 3 (by decide) (by decide +kernel) (v := .int (nI (n 3))) mf_3 dX6_passes_4 ?_
    refine z_icmp_geF C 37 dX6_passes_7 (by decide) (by omega) (by omega) (by omega) ?_
    refine z_aload_n C dX6_passes_10 rfl (show zlk _ 0 = some (.ref (ad 0)) from rfl) ?_
    refine z_iload_n C dX6_passes_11 rfl (show zlk _ 1 = some (.int (nI k)) from rfl) ?_
    refine z_callVi C (As := [.int (nI k)]) (rest := []) (c_X6_drawnAt l θ ad n g (rv (r 2) (r 4) (r 6) (m_pp (n 1) (n 0) (r 2) (r 7) k) (r 9) (r 17) (r 19) (r 21) (r 23) (r 24) (r 25) (r 26) (r 28) (r 29) (r 30) (r 31) (r 32)) k (show k < 5 by omega) hS h0) gX6_passes_X6_drawnAt rfl 1 (by decide +kernel) (by decide) (by decide) 0 rfl rfl rfl rfl rfl (Nat.le_of_ble_eq_true rfl) dX6_passes_12 ?_
    rintro _ _ ⟨rfl, rfl⟩
    refine z_top (v' := .int (dA (n 1) (n 0) (r 2) (m_pp (n 1) (n 0) (r 2) (r 7) k) k)) rfl ?_
    refine z_top (v' := .int (dA (n 1) (n 0) (r 2) (m_pp (n 1) (n 0) (r 2) (r 7) k) k)) rfl ?_
    refine z_istore_n C [(2, .int (dA (n 1) (n 0) (r 2) (m_pp (n 1) (n 0) (r 2) (r 7) k) k)), (0, .ref (ad 0)), (1, .int (nI k))] dX6_passes_15 rfl (by decide) rfl ?_
    refine z_iload_n C dX6_passes_16 rfl (show zlk _ 2 = some (.int (dA (n 1) (n 0) (r 2) (m_pp (n 1) (n 0) (r 2) (r 7) k) k)) from rfl) ?_
    refine z_if_eq C 31 dX6_passes_17 (by decide) (fun h17t_6 => ?_) (fun h17n_6 => ?_)
    · refine z_iincN C [(1, .int (nI (k + 1))), (2, .int (dA (n 1) (n 0) (r 2) (m_pp (n 1) (n 0) (r 2) (r 7) k) k)), (0, .ref (ad 0))] dX6_passes_31 rfl (by decide) rfl ?_
      refine z_goto C 2 dX6_passes_34 (by decide) ?_
      exact z_to (ih2) (by rw [m_pp, if_pos (show dA _ _ _ _ _ = nI 0 from h17t_6)] <;> exact (mw_eq rfl rfl rfl rfl rfl rfl rfl rfl rfl rfl rfl rfl rfl rfl rfl rfl rfl rfl rfl rfl rfl rfl rfl rfl rfl rfl rfl rfl rfl rfl rfl rfl)) (rfl)
    · refine z_aload_n C dX6_passes_20 rfl (show zlk _ 0 = some (.ref (ad 0)) from rfl) ?_
      refine z_iload_n C dX6_passes_21 rfl (show zlk _ 1 = some (.int (nI k)) from rfl) ?_
      refine z_aload_n C dX6_passes_22 rfl (show zlk _ 0 = some (.ref (ad 0)) from rfl) ?_
      refine z_iload_n C dX6_passes_23 rfl (show zlk _ 1 = some (.int (nI k)) from rfl) ?_
      refine z_callVi C (As := [.int (nI k)]) (rest := [.int (nI k), .ref (ad 0)]) (c_X6_whoIsAt l θ ad n g (rv (r 2) (r 4) (r 6) (m_pp (n 1) (n 0) (r 2) (r 7) k) (r 9) (r 17) (r 19) (r 21) (r 23) (r 24) (r 25) (r 26) (r 28) (r 29) (r 30) (r 31) (r 32)) (nI k) (hS)) gX6_passes_X6_whoIsAt rfl 1 (by decide +kernel) (by decide) (by decide) 0 rfl rfl rfl rfl rfl (Nat.le_of_ble_eq_true rfl) dX6_passes_24 ?_
      rintro _ _ ⟨rfl, rfl⟩
      refine z_top (v' := .int (m_who (m_pp (n 1) (n 0) (r 2) (r 7) k) (nI k) (n 1))) rfl ?_
      refine z_iload_n C dX6_passes_27 rfl (show zlk _ 2 = some (.int (dA (n 1) (n 0) (r 2) (m_pp (n 1) (n 0) (r 2) (r 7) k) k)) from rfl) ?_
      refine z_callVv C (As := [.int (nI k), .int (m_who (m_pp (n 1) (n 0) (r 2) (r 7) k) (nI k) (n 1)), .int (dA (n 1) (n 0) (r 2) (m_pp (n 1) (n 0) (r 2) (r 7) k) k)]) (rest := []) (c_X6_keepsOne l θ ad n g (rv (r 2) (r 4) (r 6) (m_pp (n 1) (n 0) (r 2) (r 7) k) (r 9) (r 17) (r 19) (r 21) (r 23) (r 24) (r 25) (r 26) (r 28) (r 29) (r 30) (r 31) (r 32)) (cN (m_pp (n 1) (n 0) (r 2) (r 7) k)) (nI k) (m_who (m_pp (n 1) (n 0) (r 2) (r 7) k) (nI k) (n 1)) (dA (n 1) (n 0) (r 2) (m_pp (n 1) (n 0) (r 2) (r 7) k) k) (m_pp_c hc k).1 (m_pp_c hc k).2) gX6_passes_X6_keepsOne rfl 3 (by decide +kernel) (by decide) (by decide) 0 rfl rfl rfl rfl rfl (Nat.le_of_ble_eq_true rfl) dX6_passes_28 ?_
      rintro _ rfl
      refine z_X (Y := MW θ ad n g (rv (r 2) (r 4) (r 6) (m_kp (m_pp (n 1) (n 0) (r 2) (r 7) k) (cN (m_pp (n 1) (n 0) (r 2) (r 7) k)) (nI k) (m_who (m_pp (n 1) (n 0) (r 2) (r 7) k) (nI k) (n 1)) (dA (n 1) (n 0) (r 2) (m_pp (n 1) (n 0) (r 2) (r 7) k) k)) (r 9) (r 17) (r 19) (r 21) (r 23) (r 24) (r 25) (r 26) (r 28) (r 29) (r 30) (r 31) (r 32))) (mw_eq rfl rfl rfl rfl rfl rfl rfl rfl rfl rfl rfl rfl rfl rfl rfl rfl rfl rfl rfl rfl rfl rfl rfl rfl rfl rfl rfl rfl rfl rfl rfl rfl) ?_
      refine z_iincN C [(1, .int (nI (k + 1))), (2, .int (dA (n 1) (n 0) (r 2) (m_pp (n 1) (n 0) (r 2) (r 7) k) k)), (0, .ref (ad 0))] dX6_passes_31 rfl (by decide) rfl ?_
      refine z_goto C 2 dX6_passes_34 (by decide) ?_
      exact z_to (ih2) (by rw [m_pp, if_neg (show ¬ dA _ _ _ _ _ = nI 0 from h17n_6)] <;> exact (mw_eq rfl rfl rfl rfl rfl rfl rfl rfl rfl rfl rfl rfl rfl rfl rfl rfl rfl rfl rfl rfl rfl rfl rfl rfl rfl rfl rfl rfl rfl rfl rfl rfl)) (rfl)

set_option maxHeartbeats 4000000 in
set_option maxRecDepth 100000 in
theorem c_X6_dusksRefused_1 (l : Launch) (θ : zH) (ad : Nat → Nat) (n : Nat → Nat) (g : Int32) (r : Nat → Nat → Int32) (x : Int32) (hx : m_in (Int32.toInt64 x) 1 (60) = false) : cI l yX6_dusksRefused wsX6_dusksRefused 1 θ [.ref (ad 0), .int x] (MW θ ad n g r) (fun r0 Y => r0 = (-1000000002) ∧ Y = MW θ ad n g r) := by
  refine z_cI (by decide) rfl rfl (Nat.le_of_ble_eq_true rfl) (lv := [(0, .ref (ad 0)), (1, .int x)]) rfl (fun κ C E => ?_)
  refine z_iload_n C dX6_dusksRefused_0 rfl (show zlk _ 1 = some (.int x) from rfl) ?_
  refine z_i2l C dX6_dusksRefused_1 ?_
  refine z_lconst C (v := 1) dX6_dusksRefused_2 (by decide) ?_
  refine z_ldc2 C (v := 60) (by decide +kernel) dX6_dusksRefused_3 ?_
  refine z_callSi C (As := [.long (Int32.toInt64 x), .long 1, .long (60)]) (rest := []) (c_X6_in l θ _ (Int32.toInt64 x) 1 (60)) gX6_dusksRefused_X6_in rfl 3 (by decide +kernel) (by decide) (by decide) rfl rfl (Nat.le_of_ble_eq_true rfl) dX6_dusksRefused_6 ?_
  rintro _ _ ⟨rfl, rfl⟩
  refine z_if_neB C 15 dX6_dusksRefused_9 (by decide) (fun h => absurd h (by rw [hx]; decide)) (fun _ => ?_)
  refine z_ldc C (v := (-1000000002)) (by decide +kernel) dX6_dusksRefused_12 ?_
  exact E _ _ _ _ (⟨rfl, rfl⟩) (rfl) dX6_dusksRefused_14

set_option maxHeartbeats 4000000 in
set_option maxRecDepth 100000 in
theorem c_X6_dusksRefused_2 (l : Launch) (θ : zH) (ad : Nat → Nat) (n : Nat → Nat) (g : Int32) (r : Nat → Nat → Int32) (x : Int32) (hx : m_in (Int32.toInt64 x) 1 (60) = true) (hg : decide (0 < n 0) = false) (h0 : n 0 ≤ 30) : cI l yX6_dusksRefused wsX6_dusksRefused 1 θ [.ref (ad 0), .int x] (MW θ ad n g r) (fun r0 Y => r0 = (-1000000003) ∧ Y = MW θ ad n g r) := by
  refine z_cI (by decide) rfl rfl (Nat.le_of_ble_eq_true rfl) (lv := [(0, .ref (ad 0)), (1, .int x)]) rfl (fun κ C E => ?_)
  refine z_iload_n C dX6_dusksRefused_0 rfl (show zlk _ 1 = some (.int x) from rfl) ?_
  refine z_i2l C dX6_dusksRefused_1 ?_
  refine z_lconst C (v := 1) dX6_dusksRefused_2 (by decide) ?_
  refine z_ldc2 C (v := 60) (by decide +kernel) dX6_dusksRefused_3 ?_
  refine z_callSi C (As := [.long (Int32.toInt64 x), .long 1, .long (60)]) (rest := []) (c_X6_in l θ _ (Int32.toInt64 x) 1 (60)) gX6_dusksRefused_X6_in rfl 3 (by decide +kernel) (by decide) (by decide) rfl rfl (Nat.le_of_ble_eq_true rfl) dX6_dusksRefused_6 ?_
  rintro _ _ ⟨rfl, rfl⟩
  refine z_if_neB C 15 dX6_dusksRefused_9 (by decide) (fun _ => ?_) (fun h => absurd h (by rw [hx]; decide))
  refine z_aload_n C dX6_dusksRefused_15 rfl (show zlk _ 0 = some (.ref (ad 0)) from rfl) ?_
  refine z_callVi C (As := []) (rest := []) (c_X6_isCapital l θ ad n g r (by omega)) gX6_dusksRefused_X6_isCapital rfl 0 (by decide +kernel) (by decide) (by decide) 0 rfl rfl rfl rfl rfl (Nat.le_of_ble_eq_true rfl) dX6_dusksRefused_16 ?_
  rintro _ _ ⟨rfl, rfl⟩
  refine z_if_neB C 27 dX6_dusksRefused_19 (by decide) (fun h => absurd h (by rw [hg]; decide)) (fun _ => ?_)
  refine z_ldc C (v := (-1000000003)) (by decide +kernel) dX6_dusksRefused_22 ?_
  refine z_goto C 45 dX6_dusksRefused_24 (by decide) ?_
  exact E _ _ _ _ (⟨rfl, rfl⟩) (rfl) dX6_dusksRefused_45

set_option maxHeartbeats 4000000 in
set_option maxRecDepth 100000 in
theorem c_X6_dusksRefused_3 (l : Launch) (θ : zH) (ad : Nat → Nat) (n : Nat → Nat) (g : Int32) (r : Nat → Nat → Int32) (x : Int32) (dk : Nat) (hx : m_in (Int32.toInt64 x) 1 (60) = true) (hg : decide (0 < n 0) = true) (h0 : n 0 ≤ 30) (hd : r 7 0 = nI dk) (hdk : dk < 2 ^ 30) (hl : 9000 < dk) : cI l yX6_dusksRefused wsX6_dusksRefused 1 θ [.ref (ad 0), .int x] (MW θ ad n g r) (fun r0 Y => r0 = (-1000000004) ∧ Y = MW θ ad n g r) := by
  refine z_cI (by decide) rfl rfl (Nat.le_of_ble_eq_true rfl) (lv := [(0, .ref (ad 0)), (1, .int x)]) rfl (fun κ C E => ?_)
  have hin : ∀ w ∈ wsX60, w ∈ wsX6_dusksRefused := by decide +kernel
  refine z_iload_n C dX6_dusksRefused_0 rfl (show zlk _ 1 = some (.int x) from rfl) ?_
  refine z_i2l C dX6_dusksRefused_1 ?_
  refine z_lconst C (v := 1) dX6_dusksRefused_2 (by decide) ?_
  refine z_ldc2 C (v := 60) (by decide +kernel) dX6_dusksRefused_3 ?_
  refine z_callSi C (As := [.long (Int32.toInt64 x), .long 1, .long (60)]) (rest := []) (c_X6_in l θ _ (Int32.toInt64 x) 1 (60)) gX6_dusksRefused_X6_in rfl 3 (by decide +kernel) (by decide) (by decide) rfl rfl (Nat.le_of_ble_eq_true rfl) dX6_dusksRefused_6 ?_
  rintro _ _ ⟨rfl, rfl⟩
  refine z_if_neB C 15 dX6_dusksRefused_9 (by decide) (fun _ => ?_) (fun h => absurd h (by rw [hx]; decide))
  refine z_aload_n C dX6_dusksRefused_15 rfl (show zlk _ 0 = some (.ref (ad 0)) from rfl) ?_
  refine z_callVi C (As := []) (rest := []) (c_X6_isCapital l θ ad n g r (by omega)) gX6_dusksRefused_X6_isCapital rfl 0 (by decide +kernel) (by decide) (by decide) 0 rfl rfl rfl rfl rfl (Nat.le_of_ble_eq_true rfl) dX6_dusksRefused_16 ?_
  rintro _ _ ⟨rfl, rfl⟩
  refine z_if_neB C 27 dX6_dusksRefused_19 (by decide) (fun _ => ?_) (fun h => absurd h (by rw [hg]; decide))
  refine z_aload_n C dX6_dusksRefused_27 rfl (show zlk _ 0 = some (.ref (ad 0)) from rfl) ?_
  refine z_mg C hin 7 (by decide) (by decide +kernel) (v := .ref (ad 7)) mf_7 dX6_dusksRefused_28 ?_
  refine z_iconst C (v := nI 0) dX6_dusksRefused_31 (by decide) ?_
  refine z_iald C (f := (r 7)) 4 mr_7 0 rfl (by omega) (by decide) dX6_dusksRefused_32 ?_
  refine z_top (v' := .int (nI dk)) (by rw [hd]) ?_
  refine z_sipush C (v := nI 9000) dX6_dusksRefused_33 (by decide) ?_
  refine z_icmp_leF C 44 dX6_dusksRefused_36 (by decide) (by omega) (by omega) (by omega) ?_
  refine z_ldc C (v := (-1000000004)) (by decide +kernel) dX6_dusksRefused_39 ?_
  refine z_goto C 45 dX6_dusksRefused_41 (by decide) ?_
  exact E _ _ _ _ (⟨rfl, rfl⟩) (rfl) dX6_dusksRefused_45

set_option maxHeartbeats 4000000 in
set_option maxRecDepth 100000 in
theorem c_X6_dusksRefused_4 (l : Launch) (θ : zH) (ad : Nat → Nat) (n : Nat → Nat) (g : Int32) (r : Nat → Nat → Int32) (x : Int32) (dk : Nat) (hx : m_in (Int32.toInt64 x) 1 (60) = true) (hg : decide (0 < n 0) = true) (h0 : n 0 ≤ 30) (hd : r 7 0 = nI dk) (hdk : dk < 2 ^ 30) (hl : dk ≤ 9000) : cI l yX6_dusksRefused wsX6_dusksRefused 1 θ [.ref (ad 0), .int x] (MW θ ad n g r) (fun r0 Y => r0 = nI 0 ∧ Y = MW θ ad n g r) := by
  refine z_cI (by decide) rfl rfl (Nat.le_of_ble_eq_true rfl) (lv := [(0, .ref (ad 0)), (1, .int x)]) rfl (fun κ C E => ?_)
  have hin : ∀ w ∈ wsX60, w ∈ wsX6_dusksRefused := by decide +kernel
  refine z_iload_n C dX6_dusksRefused_0 rfl (show zlk _ 1 = some (.int x) from rfl) ?_
  refine z_i2l C dX6_dusksRefused_1 ?_
  refine z_lconst C (v := 1) dX6_dusksRefused_2 (by decide) ?_
  refine z_ldc2 C (v := 60) (by decide +kernel) dX6_dusksRefused_3 ?_
  refine z_callSi C (As := [.long (Int32.toInt64 x), .long 1, .long (60)]) (rest := []) (c_X6_in l θ _ (Int32.toInt64 x) 1 (60)) gX6_dusksRefused_X6_in rfl 3 (by decide +kernel) (by decide) (by decide) rfl rfl (Nat.le_of_ble_eq_true rfl) dX6_dusksRefused_6 ?_
  rintro _ _ ⟨rfl, rfl⟩
  refine z_if_neB C 15 dX6_dusksRefused_9 (by decide) (fun _ => ?_) (fun h => absurd h (by rw [hx]; decide))
  refine z_aload_n C dX6_dusksRefused_15 rfl (show zlk _ 0 = some (.ref (ad 0)) from rfl) ?_
  refine z_callVi C (As := []) (rest := []) (c_X6_isCapital l θ ad n g r (by omega)) gX6_dusksRefused_X6_isCapital rfl 0 (by decide +kernel) (by decide) (by decide) 0 rfl rfl rfl rfl rfl (Nat.le_of_ble_eq_true rfl) dX6_dusksRefused_16 ?_
  rintro _ _ ⟨rfl, rfl⟩
  refine z_if_neB C 27 dX6_dusksRefused_19 (by decide) (fun _ => ?_) (fun h => absurd h (by rw [hg]; decide))
  refine z_aload_n C dX6_dusksRefused_27 rfl (show zlk _ 0 = some (.ref (ad 0)) from rfl) ?_
  refine z_mg C hin 7 (by decide) (by decide +kernel) (v := .ref (ad 7)) mf_7 dX6_dusksRefused_28 ?_
  refine z_iconst C (v := nI 0) dX6_dusksRefused_31 (by decide) ?_
  refine z_iald C (f := (r 7)) 4 mr_7 0 rfl (by omega) (by decide) dX6_dusksRefused_32 ?_
  refine z_top (v' := .int (nI dk)) (by rw [hd]) ?_
  refine z_sipush C (v := nI 9000) dX6_dusksRefused_33 (by decide) ?_
  refine z_icmp_leT C 44 dX6_dusksRefused_36 (by decide) (by omega) (by omega) (hl) ?_
  refine z_iconst C (v := nI 0) dX6_dusksRefused_44 (by decide) ?_
  exact E _ _ _ _ (⟨rfl, rfl⟩) (rfl) dX6_dusksRefused_45

/-- dusk after dusk -/
def m_ps (S G W : Nat) (o f : Nat → Int32) (dk : Nat) : Nat → Nat → Int32
  | 0 => f
  | i + 1 => m_pe (m_pp S G o (m_ps S G W o f dk i) W) (dk + i)
theorem m_ps_c {S G W dk : Nat} {o f : Nat → Int32} (h : cOk f) : ∀ i, cOk (m_ps S G W o f dk i)
  | 0 => h
  | i + 1 => m_pe_c (m_pp_c (m_ps_c h i) W)
theorem m_ps_d {S G W dk : Nat} {o f : Nat → Int32} (h : f 0 = nI dk) : ∀ i, m_ps S G W o f dk i 0 = nI (dk + i)
  | 0 => h
  | i + 1 => rfl
noncomputable def chD (s S W : Nat) (f : Nat → Int32) : Nat × (Nat → Int32) :=
  if m_dv s 6 = 0 then (m_sd (m_sd s), upd f 1 (nI (m_dv (m_sd s) 7) - nI 3))
  else if m_dv s 6 = 1 then (m_sd (m_sd s), upd f 2 (nI (m_dv (m_sd s) 64)))
  else if m_dv s 6 = 2 then (m_sd (m_sd s), upd f 3 (f 3 ||| (nI 1 <<< (nI (m_dv (m_sd s) 30) &&& 31))))
  else if m_dv s 6 = 3 then (m_sd s, upd f 4 (nI 1))
  else if m_dv s 6 = 4 then
    (if S = 0 then (m_sd s, f) else if W = 0 then (m_sd s, f)
     else if m_who f (nI (m_dv (m_sd (m_sd s)) W)) S = (-1) then (m_sd (m_sd (m_sd s)), upd f (6 + m_dv (m_sd s) S) (nI (m_dv (m_sd (m_sd s)) W)))
     else (m_sd (m_sd (m_sd s)), upd f (6 + m_dv (m_sd s) S) (f (6 + m_dv (m_sd s) S))))
  else (m_sd s, f)
theorem m_ch_eq (n : Nat → Nat) (r : Nat → Nat → Int32) : m_ch n r = chD (n 8) (n 1) (n 3) (r 7) := rfl
theorem chD_lt (s S W : Nat) (f : Nat → Int32) : (chD s S W f).1 < 2 ^ 31 := by
  unfold chD
  repeat' split
  all_goals exact m_sd_lt _
theorem chD_at {s S W : Nat} {f : Nat → Int32} (hS : S ≤ 6) {j : Nat} (hj : j = 0 ∨ 12 ≤ j) : (chD s S W f).2 j = f j := by
  unfold chD
  have h1 : 0 < S → m_dv (m_sd s) S < S := fun h => m_dv_lt _ h
  split
  · exact pk_un (by omega)
  split
  · exact pk_un (by omega)
  split
  · exact pk_un (by omega)
  split
  · exact pk_un (by omega)
  split
  · split
    · rfl
    split
    · rfl
    split
    · exact pk_un (by omega)
    · exact pk_un (by omega)
  · rfl
theorem chD_c {s S W : Nat} {f : Nat → Int32} (hS : S ≤ 6) (h : cOk f) : cOk (chD s S W f).2 := cOk_of (c := cN f) (by rw [chD_at hS (by omega)]; exact h.1) h.2
noncomputable def m_df (S G W : Nat) (o : Nat → Int32) (s : Nat) (f : Nat → Int32) (dk : Nat) : Nat → Nat × (Nat → Int32)
  | 0 => (s, f)
  | i + 1 => ((chD (m_df S G W o s f dk i).1 S W (m_df S G W o s f dk i).2).1, m_pe (m_pp S G o (chD (m_df S G W o s f dk i).1 S W (m_df S G W o s f dk i).2).2 W) (dk + i))
theorem m_df_c {S G W s dk : Nat} {o f : Nat → Int32} (hS : S ≤ 6) (h : cOk f) : ∀ i, cOk (m_df S G W o s f dk i).2
  | 0 => h
  | i + 1 => m_pe_c (m_pp_c (chD_c hS (m_df_c hS h i)) W)
theorem m_df_d {S G W s dk : Nat} {o f : Nat → Int32} (h : f 0 = nI dk) : ∀ i, (m_df S G W o s f dk i).2 0 = nI (dk + i)
  | 0 => h
  | i + 1 => rfl
theorem m_df_s {S G W s dk : Nat} {o f : Nat → Int32} (h : s < 2 ^ 31) : ∀ i, (m_df S G W o s f dk i).1 < 2 ^ 31
  | 0 => h
  | i + 1 => chD_lt _ _ _ _
set_option maxHeartbeats 4000000 in
set_option maxRecDepth 100000 in
theorem c_X6_dusk_1 (l : Launch) (θ : zH) (ad : Nat → Nat) (n : Nat → Nat) (g : Int32) (r : Nat → Nat → Int32) (x : Int32) (hx : m_in (Int32.toInt64 x) 1 (60) = false) : cI l yX6_dusk wsX6_dusk 5 θ [.ref (ad 0), .int x] (MW θ ad n g r) (fun r0 Y => r0 = (-1000000002) ∧ Y = MW θ ad n g r) := by
  refine z_cI (by decide) rfl rfl (Nat.le_of_ble_eq_true rfl) (lv := [(0, .ref (ad 0)), (1, .int x)]) rfl (fun κ C E => ?_)
  refine z_aload_n C dX6_dusk_0 rfl (show zlk _ 0 = some (.ref (ad 0)) from rfl) ?_
  refine z_iload_n C dX6_dusk_1 rfl (show zlk _ 1 = some (.int x) from rfl) ?_
  refine z_callVi C (As := [.int x]) (rest := []) (c_X6_dusksRefused_1 l θ ad n g r x hx) gX6_dusk_X6_dusksRefused rfl 1 (by decide +kernel) (by decide) (by decide) 0 rfl rfl rfl rfl rfl (Nat.le_of_ble_eq_true rfl) dX6_dusk_2 ?_
  rintro _ _ ⟨rfl, rfl⟩
  refine z_istore_n C [(2, .int (-1000000002)), (0, .ref (ad 0)), (1, .int x)] dX6_dusk_5 rfl (by decide) rfl ?_
  refine z_iload_n C dX6_dusk_6 rfl (show zlk _ 2 = some (.int (-1000000002)) from rfl) ?_
  refine z_if_eq C 12 dX6_dusk_7 (by decide) (fun h => absurd h (by decide)) (fun _ => ?_)
  refine z_iload_n C dX6_dusk_10 rfl (show zlk _ 2 = some (.int (-1000000002)) from rfl) ?_
  exact E _ _ _ _ (⟨rfl, rfl⟩) (rfl) dX6_dusk_11

set_option maxHeartbeats 4000000 in
set_option maxRecDepth 100000 in
theorem c_X6_drift_1 (l : Launch) (θ : zH) (ad : Nat → Nat) (n : Nat → Nat) (g : Int32) (r : Nat → Nat → Int32) (x : Int32) (hx : m_in (Int32.toInt64 x) 1 (60) = false) : cI l yX6_drift wsX6_drift 5 θ [.ref (ad 0), .int x] (MW θ ad n g r) (fun r0 Y => r0 = (-1000000002) ∧ Y = MW θ ad n g r) := by
  refine z_cI (by decide) rfl rfl (Nat.le_of_ble_eq_true rfl) (lv := [(0, .ref (ad 0)), (1, .int x)]) rfl (fun κ C E => ?_)
  refine z_aload_n C dX6_drift_0 rfl (show zlk _ 0 = some (.ref (ad 0)) from rfl) ?_
  refine z_iload_n C dX6_drift_1 rfl (show zlk _ 1 = some (.int x) from rfl) ?_
  refine z_callVi C (As := [.int x]) (rest := []) (c_X6_dusksRefused_1 l θ ad n g r x hx) gX6_drift_X6_dusksRefused rfl 1 (by decide +kernel) (by decide) (by decide) 0 rfl rfl rfl rfl rfl (Nat.le_of_ble_eq_true rfl) dX6_drift_2 ?_
  rintro _ _ ⟨rfl, rfl⟩
  refine z_istore_n C [(2, .int (-1000000002)), (0, .ref (ad 0)), (1, .int x)] dX6_drift_5 rfl (by decide) rfl ?_
  refine z_iload_n C dX6_drift_6 rfl (show zlk _ 2 = some (.int (-1000000002)) from rfl) ?_
  refine z_if_eq C 12 dX6_drift_7 (by decide) (fun h => absurd h (by decide)) (fun _ => ?_)
  refine z_iload_n C dX6_drift_10 rfl (show zlk _ 2 = some (.int (-1000000002)) from rfl) ?_
  exact E _ _ _ _ (⟨rfl, rfl⟩) (rfl) dX6_drift_11

set_option maxHeartbeats 4000000 in
set_option maxRecDepth 100000 in
theorem c_X6_dusk_2 (l : Launch) (θ : zH) (ad : Nat → Nat) (n : Nat → Nat) (g : Int32) (r : Nat → Nat → Int32) (x : Int32) (hx : m_in (Int32.toInt64 x) 1 (60) = true) (hg : decide (0 < n 0) = false) (h0 : n 0 ≤ 30) : cI l yX6_dusk wsX6_dusk 5 θ [.ref (ad 0), .int x] (MW θ ad n g r) (fun r0 Y => r0 = (-1000000003) ∧ Y = MW θ ad n g r) := by
  refine z_cI (by decide) rfl rfl (Nat.le_of_ble_eq_true rfl) (lv := [(0, .ref (ad 0)), (1, .int x)]) rfl (fun κ C E => ?_)
  refine z_aload_n C dX6_dusk_0 rfl (show zlk _ 0 = some (.ref (ad 0)) from rfl) ?_
  refine z_iload_n C dX6_dusk_1 rfl (show zlk _ 1 = some (.int x) from rfl) ?_
  refine z_callVi C (As := [.int x]) (rest := []) (c_X6_dusksRefused_2 l θ ad n g r x hx hg h0) gX6_dusk_X6_dusksRefused rfl 1 (by decide +kernel) (by decide) (by decide) 0 rfl rfl rfl rfl rfl (Nat.le_of_ble_eq_true rfl) dX6_dusk_2 ?_
  rintro _ _ ⟨rfl, rfl⟩
  refine z_istore_n C [(2, .int (-1000000003)), (0, .ref (ad 0)), (1, .int x)] dX6_dusk_5 rfl (by decide) rfl ?_
  refine z_iload_n C dX6_dusk_6 rfl (show zlk _ 2 = some (.int (-1000000003)) from rfl) ?_
  refine z_if_eq C 12 dX6_dusk_7 (by decide) (fun h => absurd h (by decide)) (fun _ => ?_)
  refine z_iload_n C dX6_dusk_10 rfl (show zlk _ 2 = some (.int (-1000000003)) from rfl) ?_
  exact E _ _ _ _ (⟨rfl, rfl⟩) (rfl) dX6_dusk_11

set_option maxHeartbeats 4000000 in
set_option maxRecDepth 100000 in
theorem c_X6_drift_2 (l : Launch) (θ : zH) (ad : Nat → Nat) (n : Nat → Nat) (g : Int32) (r : Nat → Nat → Int32) (x : Int32) (hx : m_in (Int32.toInt64 x) 1 (60) = true) (hg : decide (0 < n 0) = false) (h0 : n 0 ≤ 30) : cI l yX6_drift wsX6_drift 5 θ [.ref (ad 0), .int x] (MW θ ad n g r) (fun r0 Y => r0 = (-1000000003) ∧ Y = MW θ ad n g r) := by
  refine z_cI (by decide) rfl rfl (Nat.le_of_ble_eq_true rfl) (lv := [(0, .ref (ad 0)), (1, .int x)]) rfl (fun κ C E => ?_)
  refine z_aload_n C dX6_drift_0 rfl (show zlk _ 0 = some (.ref (ad 0)) from rfl) ?_
  refine z_iload_n C dX6_drift_1 rfl (show zlk _ 1 = some (.int x) from rfl) ?_
  refine z_callVi C (As := [.int x]) (rest := []) (c_X6_dusksRefused_2 l θ ad n g r x hx hg h0) gX6_drift_X6_dusksRefused rfl 1 (by decide +kernel) (by decide) (by decide) 0 rfl rfl rfl rfl rfl (Nat.le_of_ble_eq_true rfl) dX6_drift_2 ?_
  rintro _ _ ⟨rfl, rfl⟩
  refine z_istore_n C [(2, .int (-1000000003)), (0, .ref (ad 0)), (1, .int x)] dX6_drift_5 rfl (by decide) rfl ?_
  refine z_iload_n C dX6_drift_6 rfl (show zlk _ 2 = some (.int (-1000000003)) from rfl) ?_
  refine z_if_eq C 12 dX6_drift_7 (by decide) (fun h => absurd h (by decide)) (fun _ => ?_)
  refine z_iload_n C dX6_drift_10 rfl (show zlk _ 2 = some (.int (-1000000003)) from rfl) ?_
  exact E _ _ _ _ (⟨rfl, rfl⟩) (rfl) dX6_drift_11

set_option maxHeartbeats 4000000 in
set_option maxRecDepth 100000 in
theorem c_X6_dusk_3 (l : Launch) (θ : zH) (ad : Nat → Nat) (n : Nat → Nat) (g : Int32) (r : Nat → Nat → Int32) (x : Int32) (dk : Nat) (hx : m_in (Int32.toInt64 x) 1 (60) = true) (hg : decide (0 < n 0) = true) (h0 : n 0 ≤ 30) (hd : r 7 0 = nI dk) (hdk : dk < 2 ^ 30) (hl : 9000 < dk) : cI l yX6_dusk wsX6_dusk 5 θ [.ref (ad 0), .int x] (MW θ ad n g r) (fun r0 Y => r0 = (-1000000004) ∧ Y = MW θ ad n g r) := by
  refine z_cI (by decide) rfl rfl (Nat.le_of_ble_eq_true rfl) (lv := [(0, .ref (ad 0)), (1, .int x)]) rfl (fun κ C E => ?_)
  refine z_aload_n C dX6_dusk_0 rfl (show zlk _ 0 = some (.ref (ad 0)) from rfl) ?_
  refine z_iload_n C dX6_dusk_1 rfl (show zlk _ 1 = some (.int x) from rfl) ?_
  refine z_callVi C (As := [.int x]) (rest := []) (c_X6_dusksRefused_3 l θ ad n g r x dk hx hg h0 hd hdk hl) gX6_dusk_X6_dusksRefused rfl 1 (by decide +kernel) (by decide) (by decide) 0 rfl rfl rfl rfl rfl (Nat.le_of_ble_eq_true rfl) dX6_dusk_2 ?_
  rintro _ _ ⟨rfl, rfl⟩
  refine z_istore_n C [(2, .int (-1000000004)), (0, .ref (ad 0)), (1, .int x)] dX6_dusk_5 rfl (by decide) rfl ?_
  refine z_iload_n C dX6_dusk_6 rfl (show zlk _ 2 = some (.int (-1000000004)) from rfl) ?_
  refine z_if_eq C 12 dX6_dusk_7 (by decide) (fun h => absurd h (by decide)) (fun _ => ?_)
  refine z_iload_n C dX6_dusk_10 rfl (show zlk _ 2 = some (.int (-1000000004)) from rfl) ?_
  exact E _ _ _ _ (⟨rfl, rfl⟩) (rfl) dX6_dusk_11

set_option maxHeartbeats 4000000 in
set_option maxRecDepth 100000 in
theorem c_X6_drift_3 (l : Launch) (θ : zH) (ad : Nat → Nat) (n : Nat → Nat) (g : Int32) (r : Nat → Nat → Int32) (x : Int32) (dk : Nat) (hx : m_in (Int32.toInt64 x) 1 (60) = true) (hg : decide (0 < n 0) = true) (h0 : n 0 ≤ 30) (hd : r 7 0 = nI dk) (hdk : dk < 2 ^ 30) (hl : 9000 < dk) : cI l yX6_drift wsX6_drift 5 θ [.ref (ad 0), .int x] (MW θ ad n g r) (fun r0 Y => r0 = (-1000000004) ∧ Y = MW θ ad n g r) := by
  refine z_cI (by decide) rfl rfl (Nat.le_of_ble_eq_true rfl) (lv := [(0, .ref (ad 0)), (1, .int x)]) rfl (fun κ C E => ?_)
  refine z_aload_n C dX6_drift_0 rfl (show zlk _ 0 = some (.ref (ad 0)) from rfl) ?_
  refine z_iload_n C dX6_drift_1 rfl (show zlk _ 1 = some (.int x) from rfl) ?_
  refine z_callVi C (As := [.int x]) (rest := []) (c_X6_dusksRefused_3 l θ ad n g r x dk hx hg h0 hd hdk hl) gX6_drift_X6_dusksRefused rfl 1 (by decide +kernel) (by decide) (by decide) 0 rfl rfl rfl rfl rfl (Nat.le_of_ble_eq_true rfl) dX6_drift_2 ?_
  rintro _ _ ⟨rfl, rfl⟩
  refine z_istore_n C [(2, .int (-1000000004)), (0, .ref (ad 0)), (1, .int x)] dX6_drift_5 rfl (by decide) rfl ?_
  refine z_iload_n C dX6_drift_6 rfl (show zlk _ 2 = some (.int (-1000000004)) from rfl) ?_
  refine z_if_eq C 12 dX6_drift_7 (by decide) (fun h => absurd h (by decide)) (fun _ => ?_)
  refine z_iload_n C dX6_drift_10 rfl (show zlk _ 2 = some (.int (-1000000004)) from rfl) ?_
  exact E _ _ _ _ (⟨rfl, rfl⟩) (rfl) dX6_drift_11

theorem m_in_m {m : Nat} (h : 1 ≤ m) (h2 : m ≤ 60) : m_in (Int32.toInt64 (nI m)) 1 (60) = true := by
  unfold m_in
  rw [Int32.toInt_toInt64, nI_toInt (by omega)]
  have e1 : Int64.toInt 1 = 1 := by decide
  have e2 : Int64.toInt 60 = 60 := by decide
  rw [e1, e2]
  simp only [Bool.and_eq_true, decide_eq_true_eq]
  omega
set_option maxHeartbeats 4000000 in
set_option maxRecDepth 100000 in
theorem c_X6_dusk_4 (l : Launch) (θ : zH) (ad : Nat → Nat) (n : Nat → Nat) (g : Int32) (r : Nat → Nat → Int32) (m dk : Nat) (hm : 1 ≤ m) (hm2 : m ≤ 60) (hS : n 1 ≤ 6) (hW : n 3 ≤ 5) (hg : decide (0 < n 0) = true) (h0 : n 0 ≤ 30) (hd : r 7 0 = nI dk) (hdk : dk < 2 ^ 30) (hu : n 22 ≤ 16) (hc : cOk (r 7)) (hl : dk ≤ 9000) : cI l yX6_dusk wsX6_dusk 5 θ [.ref (ad 0), .int (nI m)] (MW θ ad n g r) (fun r0 Y => r0 = nI (cN (m_ps (n 1) (n 0) (n 3) (r 2) (r 7) dk m)) ∧ Y = MW θ ad (nv (n 0) (n 1) (n 3) (n 5) (n 8) (n 10) (n 12) (n 13) (n 14) (n 15) (n 16) (n 18) (n 20) (m_u (n 22)) (n 27)) g (rv (r 2) (r 4) (r 6) (m_ps (n 1) (n 0) (n 3) (r 2) (r 7) dk m) (r 9) (r 17) (r 19) (r 21) (m_pst (r 23) (r 7) (n 22)) (r 24) (r 25) (r 26) (r 28) (r 29) (r 30) (r 31) (r 32))) := by
  have hx := m_in_m hm hm2
  refine z_cI (by decide) rfl rfl (Nat.le_of_ble_eq_true rfl) (lv := [(0, .ref (ad 0)), (1, .int (nI m))]) rfl (fun κ C E => ?_)
  have hin : ∀ w ∈ wsX60, w ∈ wsX6_dusk := by decide +kernel
  refine z_aload_n C dX6_dusk_0 rfl (show zlk _ 0 = some (.ref (ad 0)) from rfl) ?_
  refine z_iload_n C dX6_dusk_1 rfl (show zlk _ 1 = some (.int (nI m)) from rfl) ?_
  refine z_callVi C (As := [.int (nI m)]) (rest := []) (c_X6_dusksRefused_4 l θ ad n g r (nI m) dk hx hg h0 hd hdk hl) gX6_dusk_X6_dusksRefused rfl 1 (by decide +kernel) (by decide) (by decide) 0 rfl rfl rfl rfl rfl (Nat.le_of_ble_eq_true rfl) dX6_dusk_2 ?_
  rintro _ _ ⟨rfl, rfl⟩
  refine z_istore_n C [(2, .int (nI 0)), (0, .ref (ad 0)), (1, .int (nI m))] dX6_dusk_5 rfl (by decide) rfl ?_
  refine z_iload_n C dX6_dusk_6 rfl (show zlk _ 2 = some (.int (nI 0)) from rfl) ?_
  refine z_if_eqN C 12 dX6_dusk_7 (by decide) (by decide) (fun _ => ?_) (fun h => absurd h (by decide))
  refine z_aload_n C dX6_dusk_12 rfl (show zlk _ 0 = some (.ref (ad 0)) from rfl) ?_
  refine z_callVv C (As := []) (rest := []) (c_X6_remember l θ ad n g r hu) gX6_dusk_X6_remember rfl 0 (by decide +kernel) (by decide) (by decide) 0 rfl rfl rfl rfl rfl (Nat.le_of_ble_eq_true rfl) dX6_dusk_13 ?_
  rintro _ rfl
  refine z_X (Y := MW θ ad (nv (n 0) (n 1) (n 3) (n 5) (n 8) (n 10) (n 12) (n 13) (n 14) (n 15) (n 16) (n 18) (n 20) (m_u (n 22)) (n 27)) g (rv (r 2) (r 4) (r 6) (r 7) (r 9) (r 17) (r 19) (r 21) (m_pst (r 23) (r 7) (n 22)) (r 24) (r 25) (r 26) (r 28) (r 29) (r 30) (r 31) (r 32))) (mw_eq rfl rfl rfl rfl rfl rfl rfl rfl rfl rfl rfl rfl rfl rfl rfl rfl rfl rfl rfl rfl rfl rfl rfl rfl rfl rfl rfl rfl rfl rfl rfl rfl) ?_
  refine z_iconst C (v := nI 0) dX6_dusk_16 (by decide) ?_
  refine z_istore_n C [(3, .int (nI 0)), (2, .int (nI 0)), (0, .ref (ad 0)), (1, .int (nI m))] dX6_dusk_17 rfl (by decide) rfl ?_
  refine z_lv (lv' := [(0, .ref (ad 0)), (1, .int (nI m)), (3, .int (nI 0))]) rfl ?_
  refine z_X (Y := MW θ ad (nv (n 0) (n 1) (n 3) (n 5) (n 8) (n 10) (n 12) (n 13) (n 14) (n 15) (n 16) (n 18) (n 20) (m_u (n 22)) (n 27)) g (rv (r 2) (r 4) (r 6) (m_ps (n 1) (n 0) (n 3) (r 2) (r 7) dk 0) (r 9) (r 17) (r 19) (r 21) (m_pst (r 23) (r 7) (n 22)) (r 24) (r 25) (r 26) (r 28) (r 29) (r 30) (r 31) (r 32))) (mw_eq rfl rfl rfl rfl rfl rfl rfl rfl rfl rfl rfl rfl rfl rfl rfl rfl rfl rfl rfl rfl rfl rfl rfl rfl rfl rfl rfl rfl rfl rfl rfl rfl) ?_
  refine z_up (fun i => Z κ (MW θ ad (nv (n 0) (n 1) (n 3) (n 5) (n 8) (n 10) (n 12) (n 13) (n 14) (n 15) (n 16) (n 18) (n 20) (m_u (n 22)) (n 27)) g (rv (r 2) (r 4) (r 6) (m_ps (n 1) (n 0) (n 3) (r 2) (r 7) dk i) (r 9) (r 17) (r 19) (r 21) (m_pst (r 23) (r 7) (n 22)) (r 24) (r 25) (r 26) (r 28) (r 29) (r 30) (r 31) (r 32))) 18 [(0, .ref (ad 0)), (1, .int (nI m)), (3, .int (nI i))] []) (m) ?_ ?_ 0 (by omega)
  · refine z_iload_n C dX6_dusk_18 rfl (show zlk _ 3 = some (.int (nI m)) from rfl) ?_
    refine z_iload_n C dX6_dusk_19 rfl (show zlk _ 1 = some (.int (nI m)) from rfl) ?_
    refine z_icmp_geT C 33 dX6_dusk_20 (by decide) (by omega) (by omega) (by omega) ?_
    refine z_aload_n C dX6_dusk_33 rfl (show zlk _ 0 = some (.ref (ad 0)) from rfl) ?_
    refine z_mg C hin 7 (by decide) (by decide +kernel) (v := .ref (ad 7)) mf_7 dX6_dusk_34 ?_
    refine z_bipush C (v := nI 21) dX6_dusk_37 (by decide) ?_
    refine z_iald C (f := (m_ps (n 1) (n 0) (n 3) (r 2) (r 7) dk m)) 4 mrv_7 21 rfl (by omega) (by decide) dX6_dusk_39 ?_
    exact E _ _ _ _ (⟨(m_ps_c hc m).1, (mw_eq rfl rfl rfl rfl rfl rfl rfl rfl rfl rfl rfl rfl rfl rfl rfl rfl rfl rfl rfl rfl rfl rfl rfl rfl rfl rfl rfl rfl rfl rfl rfl rfl)⟩) (rfl) dX6_dusk_40
  · intro i hk18 ih18
    refine z_iload_n C dX6_dusk_18 rfl (show zlk _ 3 = some (.int (nI i)) from rfl) ?_
    refine z_iload_n C dX6_dusk_19 rfl (show zlk _ 1 = some (.int (nI m)) from rfl) ?_
    refine z_icmp_geF C 33 dX6_dusk_20 (by decide) (by omega) (by omega) (by omega) ?_
    refine z_aload_n C dX6_dusk_23 rfl (show zlk _ 0 = some (.ref (ad 0)) from rfl) ?_
    refine z_callVv C (As := []) (rest := []) (c_X6_passes l θ ad (nv (n 0) (n 1) (n 3) (n 5) (n 8) (n 10) (n 12) (n 13) (n 14) (n 15) (n 16) (n 18) (n 20) (m_u (n 22)) (n 27)) g (rv (r 2) (r 4) (r 6) (m_ps (n 1) (n 0) (n 3) (r 2) (r 7) dk i) (r 9) (r 17) (r 19) (r 21) (m_pst (r 23) (r 7) (n 22)) (r 24) (r 25) (r 26) (r 28) (r 29) (r 30) (r 31) (r 32)) (dk + i) hS hW h0 (m_ps_c hc i) (m_ps_d hd i) (by omega)) gX6_dusk_X6_passes rfl 0 (by decide +kernel) (by decide) (by decide) 0 rfl rfl rfl rfl rfl (Nat.le_of_ble_eq_true rfl) dX6_dusk_24 ?_
    rintro _ rfl
    refine z_X (Y := MW θ ad (nv (n 0) (n 1) (n 3) (n 5) (n 8) (n 10) (n 12) (n 13) (n 14) (n 15) (n 16) (n 18) (n 20) (m_u (n 22)) (n 27)) g (rv (r 2) (r 4) (r 6) (m_pe (m_pp (n 1) (n 0) (r 2) (m_ps (n 1) (n 0) (n 3) (r 2) (r 7) dk i) (n 3)) (dk + i)) (r 9) (r 17) (r 19) (r 21) (m_pst (r 23) (r 7) (n 22)) (r 24) (r 25) (r 26) (r 28) (r 29) (r 30) (r 31) (r 32))) (mw_eq rfl rfl rfl rfl rfl rfl rfl rfl rfl rfl rfl rfl rfl rfl rfl rfl rfl rfl rfl rfl rfl rfl rfl rfl rfl rfl rfl rfl rfl rfl rfl rfl) ?_
    refine z_iincN C [(3, .int (nI (i + 1))), (0, .ref (ad 0)), (1, .int (nI m))] dX6_dusk_27 rfl (by decide) rfl ?_
    refine z_goto C 18 dX6_dusk_30 (by decide) ?_
    exact z_to (ih18) ((mw_eq rfl rfl rfl rfl rfl rfl rfl rfl rfl rfl rfl rfl rfl rfl rfl rfl rfl rfl rfl rfl rfl rfl rfl rfl rfl rfl rfl rfl rfl rfl rfl rfl)) (rfl)

set_option maxHeartbeats 4000000 in
set_option maxRecDepth 100000 in
theorem c_X6_drift_4 (l : Launch) (θ : zH) (ad : Nat → Nat) (n : Nat → Nat) (g : Int32) (r : Nat → Nat → Int32) (m dk : Nat) (hm : 1 ≤ m) (hm2 : m ≤ 60) (hS : n 1 ≤ 6) (hW : n 3 ≤ 5) (hg : decide (0 < n 0) = true) (h0 : n 0 ≤ 30) (hd : r 7 0 = nI dk) (hdk : dk < 2 ^ 30) (hu : n 22 ≤ 16) (hc : cOk (r 7)) (hl : dk ≤ 9000) (h8 : n 8 < 2 ^ 31) : cI l yX6_drift wsX6_drift 5 θ [.ref (ad 0), .int (nI m)] (MW θ ad n g r) (fun r0 Y => r0 = nI (cN (m_df (n 1) (n 0) (n 3) (r 2) (n 8) (r 7) dk m).2) ∧ Y = MW θ ad (nv (n 0) (n 1) (n 3) (n 5) ((m_df (n 1) (n 0) (n 3) (r 2) (n 8) (r 7) dk m).1) (n 10) (n 12) (n 13) (n 14) (n 15) (n 16) (n 18) (n 20) (m_u (n 22)) (n 27)) g (rv (r 2) (r 4) (r 6) ((m_df (n 1) (n 0) (n 3) (r 2) (n 8) (r 7) dk m).2) (r 9) (r 17) (r 19) (r 21) (m_pst (r 23) (r 7) (n 22)) (r 24) (r 25) (r 26) (r 28) (r 29) (r 30) (r 31) (r 32))) := by
  have hx := m_in_m hm hm2
  refine z_cI (by decide) rfl rfl (Nat.le_of_ble_eq_true rfl) (lv := [(0, .ref (ad 0)), (1, .int (nI m))]) rfl (fun κ C E => ?_)
  have hin : ∀ w ∈ wsX60, w ∈ wsX6_drift := by decide +kernel
  refine z_aload_n C dX6_drift_0 rfl (show zlk _ 0 = some (.ref (ad 0)) from rfl) ?_
  refine z_iload_n C dX6_drift_1 rfl (show zlk _ 1 = some (.int (nI m)) from rfl) ?_
  refine z_callVi C (As := [.int (nI m)]) (rest := []) (c_X6_dusksRefused_4 l θ ad n g r (nI m) dk hx hg h0 hd hdk hl) gX6_drift_X6_dusksRefused rfl 1 (by decide +kernel) (by decide) (by decide) 0 rfl rfl rfl rfl rfl (Nat.le_of_ble_eq_true rfl) dX6_drift_2 ?_
  rintro _ _ ⟨rfl, rfl⟩
  refine z_istore_n C [(2, .int (nI 0)), (0, .ref (ad 0)), (1, .int (nI m))] dX6_drift_5 rfl (by decide) rfl ?_
  refine z_iload_n C dX6_drift_6 rfl (show zlk _ 2 = some (.int (nI 0)) from rfl) ?_
  refine z_if_eqN C 12 dX6_drift_7 (by decide) (by decide) (fun _ => ?_) (fun h => absurd h (by decide))
  refine z_aload_n C dX6_drift_12 rfl (show zlk _ 0 = some (.ref (ad 0)) from rfl) ?_
  refine z_callVv C (As := []) (rest := []) (c_X6_remember l θ ad n g r hu) gX6_drift_X6_remember rfl 0 (by decide +kernel) (by decide) (by decide) 0 rfl rfl rfl rfl rfl (Nat.le_of_ble_eq_true rfl) dX6_drift_13 ?_
  rintro _ rfl
  refine z_X (Y := MW θ ad (nv (n 0) (n 1) (n 3) (n 5) (n 8) (n 10) (n 12) (n 13) (n 14) (n 15) (n 16) (n 18) (n 20) (m_u (n 22)) (n 27)) g (rv (r 2) (r 4) (r 6) (r 7) (r 9) (r 17) (r 19) (r 21) (m_pst (r 23) (r 7) (n 22)) (r 24) (r 25) (r 26) (r 28) (r 29) (r 30) (r 31) (r 32))) (mw_eq rfl rfl rfl rfl rfl rfl rfl rfl rfl rfl rfl rfl rfl rfl rfl rfl rfl rfl rfl rfl rfl rfl rfl rfl rfl rfl rfl rfl rfl rfl rfl rfl) ?_
  refine z_iconst C (v := nI 0) dX6_drift_16 (by decide) ?_
  refine z_istore_n C [(3, .int (nI 0)), (2, .int (nI 0)), (0, .ref (ad 0)), (1, .int (nI m))] dX6_drift_17 rfl (by decide) rfl ?_
  refine z_lv (lv' := [(0, .ref (ad 0)), (1, .int (nI m)), (3, .int (nI 0))]) rfl ?_
  refine z_X (Y := MW θ ad (nv (n 0) (n 1) (n 3) (n 5) ((m_df (n 1) (n 0) (n 3) (r 2) (n 8) (r 7) dk 0).1) (n 10) (n 12) (n 13) (n 14) (n 15) (n 16) (n 18) (n 20) (m_u (n 22)) (n 27)) g (rv (r 2) (r 4) (r 6) ((m_df (n 1) (n 0) (n 3) (r 2) (n 8) (r 7) dk 0).2) (r 9) (r 17) (r 19) (r 21) (m_pst (r 23) (r 7) (n 22)) (r 24) (r 25) (r 26) (r 28) (r 29) (r 30) (r 31) (r 32))) (mw_eq rfl rfl rfl rfl rfl rfl rfl rfl rfl rfl rfl rfl rfl rfl rfl rfl rfl rfl rfl rfl rfl rfl rfl rfl rfl rfl rfl rfl rfl rfl rfl rfl) ?_
  refine z_up (fun i => Z κ (MW θ ad (nv (n 0) (n 1) (n 3) (n 5) ((m_df (n 1) (n 0) (n 3) (r 2) (n 8) (r 7) dk i).1) (n 10) (n 12) (n 13) (n 14) (n 15) (n 16) (n 18) (n 20) (m_u (n 22)) (n 27)) g (rv (r 2) (r 4) (r 6) ((m_df (n 1) (n 0) (n 3) (r 2) (n 8) (r 7) dk i).2) (r 9) (r 17) (r 19) (r 21) (m_pst (r 23) (r 7) (n 22)) (r 24) (r 25) (r 26) (r 28) (r 29) (r 30) (r 31) (r 32))) 18 [(0, .ref (ad 0)), (1, .int (nI m)), (3, .int (nI i))] []) (m) ?_ ?_ 0 (by omega)
  · refine z_iload_n C dX6_drift_18 rfl (show zlk _ 3 = some (.int (nI m)) from rfl) ?_
    refine z_iload_n C dX6_drift_19 rfl (show zlk _ 1 = some (.int (nI m)) from rfl) ?_
    refine z_icmp_geT C 37 dX6_drift_20 (by decide) (by omega) (by omega) (by omega) ?_
    refine z_aload_n C dX6_drift_37 rfl (show zlk _ 0 = some (.ref (ad 0)) from rfl) ?_
    refine z_mg C hin 7 (by decide) (by decide +kernel) (v := .ref (ad 7)) mf_7 dX6_drift_38 ?_
    refine z_bipush C (v := nI 21) dX6_drift_41 (by decide) ?_
    refine z_iald C (f := (m_df (n 1) (n 0) (n 3) (r 2) (n 8) (r 7) dk m).2) 4 mrv_7 21 rfl (by omega) (by decide) dX6_drift_43 ?_
    exact E _ _ _ _ (⟨(m_df_c hS hc m).1, (mw_eq rfl rfl rfl rfl rfl rfl rfl rfl rfl rfl rfl rfl rfl rfl rfl rfl rfl rfl rfl rfl rfl rfl rfl rfl rfl rfl rfl rfl rfl rfl rfl rfl)⟩) (rfl) dX6_drift_44
  · intro i hk18 ih18
    refine z_iload_n C dX6_drift_18 rfl (show zlk _ 3 = some (.int (nI i)) from rfl) ?_
    refine z_iload_n C dX6_drift_19 rfl (show zlk _ 1 = some (.int (nI m)) from rfl) ?_
    refine z_icmp_geF C 37 dX6_drift_20 (by decide) (by omega) (by omega) (by omega) ?_
    refine z_aload_n C dX6_drift_23 rfl (show zlk _ 0 = some (.ref (ad 0)) from rfl) ?_
    refine z_callVv C (As := []) (rest := []) (c_X6_chance l θ ad (nv (n 0) (n 1) (n 3) (n 5) ((m_df (n 1) (n 0) (n 3) (r 2) (n 8) (r 7) dk i).1) (n 10) (n 12) (n 13) (n 14) (n 15) (n 16) (n 18) (n 20) (m_u (n 22)) (n 27)) g (rv (r 2) (r 4) (r 6) ((m_df (n 1) (n 0) (n 3) (r 2) (n 8) (r 7) dk i).2) (r 9) (r 17) (r 19) (r 21) (m_pst (r 23) (r 7) (n 22)) (r 24) (r 25) (r 26) (r 28) (r 29) (r 30) (r 31) (r 32)) hS hW (m_df_s h8 i)) gX6_drift_X6_chance rfl 0 (by decide +kernel) (by decide) (by decide) 0 rfl rfl rfl rfl rfl (Nat.le_of_ble_eq_true rfl) dX6_drift_24 ?_
    rintro _ rfl
    refine z_X (Y := MW θ ad (nv (n 0) (n 1) (n 3) (n 5) ((chD ((m_df (n 1) (n 0) (n 3) (r 2) (n 8) (r 7) dk i).1) (n 1) (n 3) (m_df (n 1) (n 0) (n 3) (r 2) (n 8) (r 7) dk i).2).1) (n 10) (n 12) (n 13) (n 14) (n 15) (n 16) (n 18) (n 20) (m_u (n 22)) (n 27)) g (rv (r 2) (r 4) (r 6) ((chD ((m_df (n 1) (n 0) (n 3) (r 2) (n 8) (r 7) dk i).1) (n 1) (n 3) (m_df (n 1) (n 0) (n 3) (r 2) (n 8) (r 7) dk i).2).2) (r 9) (r 17) (r 19) (r 21) (m_pst (r 23) (r 7) (n 22)) (r 24) (r 25) (r 26) (r 28) (r 29) (r 30) (r 31) (r 32))) (mw_eq rfl rfl rfl rfl rfl rfl rfl rfl rfl rfl rfl rfl rfl rfl rfl rfl rfl rfl rfl rfl rfl rfl rfl rfl rfl rfl rfl rfl rfl rfl rfl rfl) ?_
    refine z_aload_n C dX6_drift_27 rfl (show zlk _ 0 = some (.ref (ad 0)) from rfl) ?_
    refine z_callVv C (As := []) (rest := []) (c_X6_passes l θ ad (nv (n 0) (n 1) (n 3) (n 5) ((chD ((m_df (n 1) (n 0) (n 3) (r 2) (n 8) (r 7) dk i).1) (n 1) (n 3) (m_df (n 1) (n 0) (n 3) (r 2) (n 8) (r 7) dk i).2).1) (n 10) (n 12) (n 13) (n 14) (n 15) (n 16) (n 18) (n 20) (m_u (n 22)) (n 27)) g (rv (r 2) (r 4) (r 6) ((chD ((m_df (n 1) (n 0) (n 3) (r 2) (n 8) (r 7) dk i).1) (n 1) (n 3) (m_df (n 1) (n 0) (n 3) (r 2) (n 8) (r 7) dk i).2).2) (r 9) (r 17) (r 19) (r 21) (m_pst (r 23) (r 7) (n 22)) (r 24) (r 25) (r 26) (r 28) (r 29) (r 30) (r 31) (r 32)) (dk + i) hS hW h0 (chD_c hS (m_df_c hS hc i)) ((chD_at hS (by omega)).trans (m_df_d hd i)) (by omega)) gX6_drift_X6_passes rfl 0 (by decide +kernel) (by decide) (by decide) 0 rfl rfl rfl rfl rfl (Nat.le_of_ble_eq_true rfl) dX6_drift_28 ?_
    rintro _ rfl
    refine z_X (Y := MW θ ad (nv (n 0) (n 1) (n 3) (n 5) ((chD ((m_df (n 1) (n 0) (n 3) (r 2) (n 8) (r 7) dk i).1) (n 1) (n 3) (m_df (n 1) (n 0) (n 3) (r 2) (n 8) (r 7) dk i).2).1) (n 10) (n 12) (n 13) (n 14) (n 15) (n 16) (n 18) (n 20) (m_u (n 22)) (n 27)) g (rv (r 2) (r 4) (r 6) (m_pe (m_pp (n 1) (n 0) (r 2) (chD ((m_df (n 1) (n 0) (n 3) (r 2) (n 8) (r 7) dk i).1) (n 1) (n 3) (m_df (n 1) (n 0) (n 3) (r 2) (n 8) (r 7) dk i).2).2 (n 3)) (dk + i)) (r 9) (r 17) (r 19) (r 21) (m_pst (r 23) (r 7) (n 22)) (r 24) (r 25) (r 26) (r 28) (r 29) (r 30) (r 31) (r 32))) (mw_eq rfl rfl rfl rfl rfl rfl rfl rfl rfl rfl rfl rfl rfl rfl rfl rfl rfl rfl rfl rfl rfl rfl rfl rfl rfl rfl rfl rfl rfl rfl rfl rfl) ?_
    refine z_iincN C [(3, .int (nI (i + 1))), (0, .ref (ad 0)), (1, .int (nI m))] dX6_drift_31 rfl (by decide) rfl ?_
    refine z_goto C 18 dX6_drift_34 (by decide) ?_
    exact z_to (ih18) ((mw_eq rfl rfl rfl rfl rfl rfl rfl rfl rfl rfl rfl rfl rfl rfl rfl rfl rfl rfl rfl rfl rfl rfl rfl rfl rfl rfl rfl rfl rfl rfl rfl rfl)) (rfl)

