def m_e0 (f : Nat → Int32) : Nat → Nat → Int32
  | 0 => f
  | k + 1 => upd (m_e0 f k) k (nI 0)
def m_e1 (f : Nat → Int32) : Nat → Nat → Int32
  | 0 => f
  | k + 1 => upd (m_e1 f k) (6 + k) (-1)
def m_emp (f : Nat → Int32) : Nat → Int32 := m_e1 (m_e0 f 82) 6
def m_cq (f h : Nat → Int32) : Nat → Nat → Int32
  | 0 => f
  | k + 1 => upd (m_cq f h k) k (h k)
def m_lm (f h : Nat → Int32) : Nat → Nat → Int32
  | 0 => f
  | k + 1 => upd (m_lm f h k) (12 + k) (h k)
set_option maxHeartbeats 4000000 in
set_option maxRecDepth 100000 in
theorem c_X6_empties (l : Launch) (θ : zH) (ad : Nat → Nat) (n : Nat → Nat) (g : Int32) (r : Nat → Nat → Int32)  : cV l yX6_empties wsX6_empties 0 θ [.ref (ad 0)] (MW θ ad n g r) (fun Y => Y = MW θ ad n g (rv (r 2) (r 4) (r 6) (m_emp (r 7)) (r 9) (r 17) (r 19) (r 21) (r 23) (r 24) (r 25) (r 26) (r 28) (r 29) (r 30) (r 31) (r 32))) := by
  refine z_cV (by decide) rfl rfl (Nat.le_of_ble_eq_true rfl) (lv := [(0, .ref (ad 0))]) rfl (fun κ C E => ?_)
  have hin : ∀ w ∈ wsX60, w ∈ wsX6_empties := by decide +kernel
  refine z_iconst C (v := nI 0) dX6_empties_0 (by decide) ?_
  refine z_istore_n C [(1, .int (nI 0)), (0, .ref (ad 0))] dX6_empties_1 rfl (by decide) rfl ?_
  refine z_lv (lv' := [(0, .ref (ad 0)), (1, .int (nI 0))]) rfl ?_
  refine z_X (Y := MW θ ad n g (rv (r 2) (r 4) (r 6) (m_e0 (r 7) 0) (r 9) (r 17) (r 19) (r 21) (r 23) (r 24) (r 25) (r 26) (r 28) (r 29) (r 30) (r 31) (r 32))) (mw_eq rfl rfl rfl rfl rfl rfl rfl rfl rfl rfl rfl rfl rfl rfl rfl rfl rfl rfl rfl rfl rfl rfl rfl rfl rfl rfl rfl rfl rfl rfl rfl rfl) ?_
  refine z_up (fun k => Z κ (MW θ ad n g (rv (r 2) (r 4) (r 6) (m_e0 (r 7) k) (r 9) (r 17) (r 19) (r 21) (r 23) (r 24) (r 25) (r 26) (r 28) (r 29) (r 30) (r 31) (r 32))) 2 [(0, .ref (ad 0)), (1, .int (nI k))] []) (82) ?_ ?_ 0 (by omega)
  · refine z_iload_n C dX6_empties_2 rfl (show zlk _ 1 = some (.int (nI 82)) from rfl) ?_
    refine z_bipush C (v := nI 82) dX6_empties_3 (by decide) ?_
    refine z_icmp_geT C 21 dX6_empties_5 (by decide) (by omega) (by omega) (by omega) ?_
    refine z_iconst C (v := nI 0) dX6_empties_21 (by decide) ?_
    refine z_istore_n C [(1, .int (nI 0)), (0, .ref (ad 0))] dX6_empties_22 rfl (by decide) rfl ?_
    refine z_lv (lv' := [(0, .ref (ad 0)), (1, .int (nI 0))]) rfl ?_
    refine z_X (Y := MW θ ad n g (rv (r 2) (r 4) (r 6) (m_e1 (m_e0 (r 7) 82) 0) (r 9) (r 17) (r 19) (r 21) (r 23) (r 24) (r 25) (r 26) (r 28) (r 29) (r 30) (r 31) (r 32))) (mw_eq rfl rfl rfl rfl rfl rfl rfl rfl rfl rfl rfl rfl rfl rfl rfl rfl rfl rfl rfl rfl rfl rfl rfl rfl rfl rfl rfl rfl rfl rfl rfl rfl) ?_
    refine z_up (fun k => Z κ (MW θ ad n g (rv (r 2) (r 4) (r 6) (m_e1 (m_e0 (r 7) 82) k) (r 9) (r 17) (r 19) (r 21) (r 23) (r 24) (r 25) (r 26) (r 28) (r 29) (r 30) (r 31) (r 32))) 23 [(0, .ref (ad 0)), (1, .int (nI k))] []) (6) ?_ ?_ 0 (by omega)
    · refine z_iload_n C dX6_empties_23 rfl (show zlk _ 1 = some (.int (nI 6)) from rfl) ?_
      refine z_bipush C (v := nI 6) dX6_empties_24 (by decide) ?_
      refine z_icmp_geT C 45 dX6_empties_26 (by decide) (by omega) (by omega) (by omega) ?_
      exact E _ _ _ ((mw_eq rfl rfl rfl rfl rfl rfl rfl rfl rfl rfl rfl rfl rfl rfl rfl rfl rfl rfl rfl rfl rfl rfl rfl rfl rfl rfl rfl rfl rfl rfl rfl rfl)) dX6_empties_45
    · intro k hk23 ih23
      refine z_iload_n C dX6_empties_23 rfl (show zlk _ 1 = some (.int (nI k)) from rfl) ?_
      refine z_bipush C (v := nI 6) dX6_empties_24 (by decide) ?_
      refine z_icmp_geF C 45 dX6_empties_26 (by decide) (by omega) (by omega) (by omega) ?_
      refine z_aload_n C dX6_empties_29 rfl (show zlk _ 0 = some (.ref (ad 0)) from rfl) ?_
      refine z_mg C hin 7 (by decide) (by decide +kernel) (v := .ref (ad 7)) mf_7 dX6_empties_30 ?_
      refine z_bipush C (v := nI 6) dX6_empties_33 (by decide) ?_
      refine z_iload_n C dX6_empties_35 rfl (show zlk _ 1 = some (.int (nI k)) from rfl) ?_
      refine z_iaddN C dX6_empties_36 ?_
      refine z_iconst C (v := (-1)) dX6_empties_37 (by decide) ?_
      refine z_iast C (f := (m_e1 (m_e0 (r 7) 82) k)) 4 mrv_7 (6 + k) rfl (by omega) (by decide) _ msv_7 dX6_empties_38 ?_
      refine z_iincN C [(1, .int (nI (k + 1))), (0, .ref (ad 0))] dX6_empties_39 rfl (by decide) rfl ?_
      refine z_goto C 23 dX6_empties_42 (by decide) ?_
      exact z_to (ih23) ((mw_eq rfl rfl rfl rfl rfl rfl rfl rfl rfl rfl rfl rfl rfl rfl rfl rfl rfl rfl rfl rfl rfl rfl rfl rfl rfl rfl rfl rfl rfl rfl rfl rfl)) (rfl)
  · intro k hk2 ih2
    refine z_iload_n C dX6_empties_2 rfl (show zlk _ 1 = some (.int (nI k)) from rfl) ?_
    refine z_bipush C (v := nI 82) dX6_empties_3 (by decide) ?_
    refine z_icmp_geF C 21 dX6_empties_5 (by decide) (by omega) (by omega) (by omega) ?_
    refine z_aload_n C dX6_empties_8 rfl (show zlk _ 0 = some (.ref (ad 0)) from rfl) ?_
    refine z_mg C hin 7 (by decide) (by decide +kernel) (v := .ref (ad 7)) mf_7 dX6_empties_9 ?_
    refine z_iload_n C dX6_empties_12 rfl (show zlk _ 1 = some (.int (nI k)) from rfl) ?_
    refine z_iconst C (v := nI 0) dX6_empties_13 (by decide) ?_
    refine z_iast C (f := (m_e0 (r 7) k)) 4 mrv_7 k rfl (by omega) (by decide) _ msv_7 dX6_empties_14 ?_
    refine z_iincN C [(1, .int (nI (k + 1))), (0, .ref (ad 0))] dX6_empties_15 rfl (by decide) rfl ?_
    refine z_goto C 2 dX6_empties_18 (by decide) ?_
    exact z_to (ih2) ((mw_eq rfl rfl rfl rfl rfl rfl rfl rfl rfl rfl rfl rfl rfl rfl rfl rfl rfl rfl rfl rfl rfl rfl rfl rfl rfl rfl rfl rfl rfl rfl rfl rfl)) (rfl)

set_option maxHeartbeats 4000000 in
set_option maxRecDepth 100000 in
theorem c_X6_takeRead (l : Launch) (θ : zH) (ad : Nat → Nat) (n : Nat → Nat) (g : Int32) (r : Nat → Nat → Int32)  (hW : n 18 ≤ 5) : cV l yX6_takeRead wsX6_takeRead 1 θ [.ref (ad 0)] (MW θ ad n g r) (fun Y => Y = MW θ ad (nv (n 15) (n 16) (n 18) (n 20) (n 8) (n 10) (n 12) (n 13) (n 14) (n 15) (n 16) (n 18) (n 20) (n 22) (n 27)) g (rv (m_cq (r 2) (r 17) 6) (m_cq (r 4) (r 19) (n 18)) (m_cq (r 6) (r 21) 6) (m_lm (m_emp (r 7)) (r 19) (n 18)) (r 9) (r 17) (r 19) (r 21) (r 23) (r 24) (r 25) (r 26) (r 28) (r 29) (r 30) (r 31) (r 32))) := by
  refine z_cV (by decide) rfl rfl (Nat.le_of_ble_eq_true rfl) (lv := [(0, .ref (ad 0))]) rfl (fun κ C E => ?_)
  have hin : ∀ w ∈ wsX60, w ∈ wsX6_takeRead := by decide +kernel
  refine z_aload_n C dX6_takeRead_0 rfl (show zlk _ 0 = some (.ref (ad 0)) from rfl) ?_
  refine z_aload_n C dX6_takeRead_1 rfl (show zlk _ 0 = some (.ref (ad 0)) from rfl) ?_
  refine z_mg C hin 15 (by decide) (by decide +kernel) (v := .int (nI (n 15))) mf_15 dX6_takeRead_2 ?_
  refine z_mp C hin 0 (by decide) (by decide +kernel) rfl rfl mpn_0 dX6_takeRead_5 ?_
  refine z_aload_n C dX6_takeRead_8 rfl (show zlk _ 0 = some (.ref (ad 0)) from rfl) ?_
  refine z_aload_n C dX6_takeRead_9 rfl (show zlk _ 0 = some (.ref (ad 0)) from rfl) ?_
  refine z_mg C hin 16 (by decide) (by decide +kernel) (v := .int (nI (n 16))) mfv_16 dX6_takeRead_10 ?_
  refine z_mp C hin 1 (by decide) (by decide +kernel) rfl rfl mpv_1 dX6_takeRead_13 ?_
  refine z_aload_n C dX6_takeRead_16 rfl (show zlk _ 0 = some (.ref (ad 0)) from rfl) ?_
  refine z_aload_n C dX6_takeRead_17 rfl (show zlk _ 0 = some (.ref (ad 0)) from rfl) ?_
  refine z_mg C hin 18 (by decide) (by decide +kernel) (v := .int (nI (n 18))) mfv_18 dX6_takeRead_18 ?_
  refine z_mp C hin 3 (by decide) (by decide +kernel) rfl rfl mpv_3 dX6_takeRead_21 ?_
  refine z_aload_n C dX6_takeRead_24 rfl (show zlk _ 0 = some (.ref (ad 0)) from rfl) ?_
  refine z_aload_n C dX6_takeRead_25 rfl (show zlk _ 0 = some (.ref (ad 0)) from rfl) ?_
  refine z_mg C hin 20 (by decide) (by decide +kernel) (v := .int (nI (n 20))) mfv_20 dX6_takeRead_26 ?_
  refine z_mp C hin 5 (by decide) (by decide +kernel) rfl rfl mpv_5 dX6_takeRead_29 ?_
  refine z_iconst C (v := nI 0) dX6_takeRead_32 (by decide) ?_
  refine z_istore_n C [(1, .int (nI 0)), (0, .ref (ad 0))] dX6_takeRead_33 rfl (by decide) rfl ?_
  refine z_lv (lv' := [(0, .ref (ad 0)), (1, .int (nI 0))]) rfl ?_
  refine z_X (Y := MW θ ad (nv (n 15) (n 16) (n 18) (n 20) (n 8) (n 10) (n 12) (n 13) (n 14) (n 15) (n 16) (n 18) (n 20) (n 22) (n 27)) g (rv (m_cq (r 2) (r 17) 0) (r 4) (m_cq (r 6) (r 21) 0) (r 7) (r 9) (r 17) (r 19) (r 21) (r 23) (r 24) (r 25) (r 26) (r 28) (r 29) (r 30) (r 31) (r 32))) (mw_eq rfl rfl rfl rfl rfl rfl rfl rfl rfl rfl rfl rfl rfl rfl rfl rfl rfl rfl rfl rfl rfl rfl rfl rfl rfl rfl rfl rfl rfl rfl rfl rfl) ?_
  refine z_up (fun k => Z κ (MW θ ad (nv (n 15) (n 16) (n 18) (n 20) (n 8) (n 10) (n 12) (n 13) (n 14) (n 15) (n 16) (n 18) (n 20) (n 22) (n 27)) g (rv (m_cq (r 2) (r 17) k) (r 4) (m_cq (r 6) (r 21) k) (r 7) (r 9) (r 17) (r 19) (r 21) (r 23) (r 24) (r 25) (r 26) (r 28) (r 29) (r 30) (r 31) (r 32))) 34 [(0, .ref (ad 0)), (1, .int (nI k))] []) (6) ?_ ?_ 0 (by omega)
  · refine z_iload_n C dX6_takeRead_34 rfl (show zlk _ 1 = some (.int (nI 6)) from rfl) ?_
    refine z_bipush C (v := nI 6) dX6_takeRead_35 (by decide) ?_
    refine z_icmp_geT C 70 dX6_takeRead_37 (by decide) (by omega) (by omega) (by omega) ?_
    refine z_aload_n C dX6_takeRead_70 rfl (show zlk _ 0 = some (.ref (ad 0)) from rfl) ?_
    refine z_callVv C (As := []) (rest := []) (c_X6_empties l θ ad (nv (n 15) (n 16) (n 18) (n 20) (n 8) (n 10) (n 12) (n 13) (n 14) (n 15) (n 16) (n 18) (n 20) (n 22) (n 27)) g (rv (m_cq (r 2) (r 17) 6) (r 4) (m_cq (r 6) (r 21) 6) (r 7) (r 9) (r 17) (r 19) (r 21) (r 23) (r 24) (r 25) (r 26) (r 28) (r 29) (r 30) (r 31) (r 32))) gX6_takeRead_X6_empties rfl 0 (by decide +kernel) (by decide) (by decide) 0 rfl rfl rfl rfl rfl (Nat.le_of_ble_eq_true rfl) dX6_takeRead_71 ?_
    rintro _ rfl
    refine z_X (Y := MW θ ad (nv (n 15) (n 16) (n 18) (n 20) (n 8) (n 10) (n 12) (n 13) (n 14) (n 15) (n 16) (n 18) (n 20) (n 22) (n 27)) g (rv (m_cq (r 2) (r 17) 6) (r 4) (m_cq (r 6) (r 21) 6) (m_emp (r 7)) (r 9) (r 17) (r 19) (r 21) (r 23) (r 24) (r 25) (r 26) (r 28) (r 29) (r 30) (r 31) (r 32))) (mw_eq rfl rfl rfl rfl rfl rfl rfl rfl rfl rfl rfl rfl rfl rfl rfl rfl rfl rfl rfl rfl rfl rfl rfl rfl rfl rfl rfl rfl rfl rfl rfl rfl) ?_
    refine z_iconst C (v := nI 0) dX6_takeRead_74 (by decide) ?_
    refine z_istore_n C [(1, .int (nI 0)), (0, .ref (ad 0))] dX6_takeRead_75 rfl (by decide) rfl ?_
    refine z_lv (lv' := [(0, .ref (ad 0)), (1, .int (nI 0))]) rfl ?_
    refine z_X (Y := MW θ ad (nv (n 15) (n 16) (n 18) (n 20) (n 8) (n 10) (n 12) (n 13) (n 14) (n 15) (n 16) (n 18) (n 20) (n 22) (n 27)) g (rv (m_cq (r 2) (r 17) 6) (m_cq (r 4) (r 19) 0) (m_cq (r 6) (r 21) 6) (m_lm (m_emp (r 7)) (r 19) 0) (r 9) (r 17) (r 19) (r 21) (r 23) (r 24) (r 25) (r 26) (r 28) (r 29) (r 30) (r 31) (r 32))) (mw_eq rfl rfl rfl rfl rfl rfl rfl rfl rfl rfl rfl rfl rfl rfl rfl rfl rfl rfl rfl rfl rfl rfl rfl rfl rfl rfl rfl rfl rfl rfl rfl rfl) ?_
    refine z_up (fun k => Z κ (MW θ ad (nv (n 15) (n 16) (n 18) (n 20) (n 8) (n 10) (n 12) (n 13) (n 14) (n 15) (n 16) (n 18) (n 20) (n 22) (n 27)) g (rv (m_cq (r 2) (r 17) 6) (m_cq (r 4) (r 19) k) (m_cq (r 6) (r 21) 6) (m_lm (m_emp (r 7)) (r 19) k) (r 9) (r 17) (r 19) (r 21) (r 23) (r 24) (r 25) (r 26) (r 28) (r 29) (r 30) (r 31) (r 32))) 76 [(0, .ref (ad 0)), (1, .int (nI k))] []) (n 18) ?_ ?_ 0 (by omega)
    · refine z_iload_n C dX6_takeRead_76 rfl (show zlk _ 1 = some (.int (nI (n 18))) from rfl) ?_
      refine z_aload_n C dX6_takeRead_77 rfl (show zlk _ 0 = some (.ref (ad 0)) from rfl) ?_
      refine z_mg C hin 3 (by decide) (by decide +kernel) (v := .int (nI (n 18))) mfv_3 dX6_takeRead_78 ?_
      refine z_icmp_geT C 117 dX6_takeRead_81 (by decide) (by omega) (by omega) (by omega) ?_
      exact E _ _ _ ((mw_eq rfl rfl rfl rfl rfl rfl rfl rfl rfl rfl rfl rfl rfl rfl rfl rfl rfl rfl rfl rfl rfl rfl rfl rfl rfl rfl rfl rfl rfl rfl rfl rfl)) dX6_takeRead_117
    · intro k hk76 ih76
      refine z_iload_n C dX6_takeRead_76 rfl (show zlk _ 1 = some (.int (nI k)) from rfl) ?_
      refine z_aload_n C dX6_takeRead_77 rfl (show zlk _ 0 = some (.ref (ad 0)) from rfl) ?_
      refine z_mg C hin 3 (by decide) (by decide +kernel) (v := .int (nI (n 18))) mfv_3 dX6_takeRead_78 ?_
      refine z_icmp_geF C 117 dX6_takeRead_81 (by decide) (by omega) (by omega) (by omega) ?_
      refine z_aload_n C dX6_takeRead_84 rfl (show zlk _ 0 = some (.ref (ad 0)) from rfl) ?_
      refine z_mg C hin 4 (by decide) (by decide +kernel) (v := .ref (ad 4)) mf_4 dX6_takeRead_85 ?_
      refine z_iload_n C dX6_takeRead_88 rfl (show zlk _ 1 = some (.int (nI k)) from rfl) ?_
      refine z_aload_n C dX6_takeRead_89 rfl (show zlk _ 0 = some (.ref (ad 0)) from rfl) ?_
      refine z_mg C hin 19 (by decide) (by decide +kernel) (v := .ref (ad 19)) mf_19 dX6_takeRead_90 ?_
      refine z_iload_n C dX6_takeRead_93 rfl (show zlk _ 1 = some (.int (nI k)) from rfl) ?_
      refine z_iald C (f := (r 19)) 7 mrv_19 k rfl (by omega) (by decide) dX6_takeRead_94 ?_
      refine z_iast C (f := (m_cq (r 4) (r 19) k)) 2 mrv_4 k rfl (by omega) (by decide) _ msv_4 dX6_takeRead_95 ?_
      refine z_aload_n C dX6_takeRead_96 rfl (show zlk _ 0 = some (.ref (ad 0)) from rfl) ?_
      refine z_mg C hin 7 (by decide) (by decide +kernel) (v := .ref (ad 7)) mf_7 dX6_takeRead_97 ?_
      refine z_bipush C (v := nI 12) dX6_takeRead_100 (by decide) ?_
      refine z_iload_n C dX6_takeRead_102 rfl (show zlk _ 1 = some (.int (nI k)) from rfl) ?_
      refine z_iaddN C dX6_takeRead_103 ?_
      refine z_aload_n C dX6_takeRead_104 rfl (show zlk _ 0 = some (.ref (ad 0)) from rfl) ?_
      refine z_mg C hin 19 (by decide) (by decide +kernel) (v := .ref (ad 19)) mf_19 dX6_takeRead_105 ?_
      refine z_iload_n C dX6_takeRead_108 rfl (show zlk _ 1 = some (.int (nI k)) from rfl) ?_
      refine z_iald C (f := (r 19)) 7 mrv_19 k rfl (by omega) (by decide) dX6_takeRead_109 ?_
      refine z_iast C (f := (m_lm (m_emp (r 7)) (r 19) k)) 4 mrv_7 (12 + k) rfl (by omega) (by decide) _ msv_7 dX6_takeRead_110 ?_
      refine z_iincN C [(1, .int (nI (k + 1))), (0, .ref (ad 0))] dX6_takeRead_111 rfl (by decide) rfl ?_
      refine z_goto C 76 dX6_takeRead_114 (by decide) ?_
      exact z_to (ih76) ((mw_eq rfl rfl rfl rfl rfl rfl rfl rfl rfl rfl rfl rfl rfl rfl rfl rfl rfl rfl rfl rfl rfl rfl rfl rfl rfl rfl rfl rfl rfl rfl rfl rfl)) (rfl)
  · intro k hk34 ih34
    refine z_iload_n C dX6_takeRead_34 rfl (show zlk _ 1 = some (.int (nI k)) from rfl) ?_
    refine z_bipush C (v := nI 6) dX6_takeRead_35 (by decide) ?_
    refine z_icmp_geF C 70 dX6_takeRead_37 (by decide) (by omega) (by omega) (by omega) ?_
    refine z_aload_n C dX6_takeRead_40 rfl (show zlk _ 0 = some (.ref (ad 0)) from rfl) ?_
    refine z_mg C hin 2 (by decide) (by decide +kernel) (v := .ref (ad 2)) mf_2 dX6_takeRead_41 ?_
    refine z_iload_n C dX6_takeRead_44 rfl (show zlk _ 1 = some (.int (nI k)) from rfl) ?_
    refine z_aload_n C dX6_takeRead_45 rfl (show zlk _ 0 = some (.ref (ad 0)) from rfl) ?_
    refine z_mg C hin 17 (by decide) (by decide +kernel) (v := .ref (ad 17)) mf_17 dX6_takeRead_46 ?_
    refine z_iload_n C dX6_takeRead_49 rfl (show zlk _ 1 = some (.int (nI k)) from rfl) ?_
    refine z_iald C (f := (r 17)) 6 mrv_17 k rfl (by omega) (by decide) dX6_takeRead_50 ?_
    refine z_iast C (f := (m_cq (r 2) (r 17) k)) 1 mrv_2 k rfl (by omega) (by decide) _ msv_2 dX6_takeRead_51 ?_
    refine z_aload_n C dX6_takeRead_52 rfl (show zlk _ 0 = some (.ref (ad 0)) from rfl) ?_
    refine z_mg C hin 6 (by decide) (by decide +kernel) (v := .ref (ad 6)) mf_6 dX6_takeRead_53 ?_
    refine z_iload_n C dX6_takeRead_56 rfl (show zlk _ 1 = some (.int (nI k)) from rfl) ?_
    refine z_aload_n C dX6_takeRead_57 rfl (show zlk _ 0 = some (.ref (ad 0)) from rfl) ?_
    refine z_mg C hin 21 (by decide) (by decide +kernel) (v := .ref (ad 21)) mf_21 dX6_takeRead_58 ?_
    refine z_iload_n C dX6_takeRead_61 rfl (show zlk _ 1 = some (.int (nI k)) from rfl) ?_
    refine z_iald C (f := (r 21)) 8 mrv_21 k rfl (by omega) (by decide) dX6_takeRead_62 ?_
    refine z_iast C (f := (m_cq (r 6) (r 21) k)) 3 mrv_6 k rfl (by omega) (by decide) _ msv_6 dX6_takeRead_63 ?_
    refine z_iincN C [(1, .int (nI (k + 1))), (0, .ref (ad 0))] dX6_takeRead_64 rfl (by decide) rfl ?_
    refine z_goto C 34 dX6_takeRead_67 (by decide) ?_
    exact z_to (ih34) ((mw_eq rfl rfl rfl rfl rfl rfl rfl rfl rfl rfl rfl rfl rfl rfl rfl rfl rfl rfl rfl rfl rfl rfl rfl rfl rfl rfl rfl rfl rfl rfl rfl rfl)) (rfl)

theorem cl_ok {f : Nat → Int32} {L p G S W C : Nat} (hp : p ≤ L) (hb : G ≤ 30 ∧ S ≤ 6 ∧ W ≤ 5 ∧ C ≤ 6) (h : (clF f L p G S W C).1 = 0) : clP f L p ≤ L ∧ p < clP f L p ∧ clG f L p G ≤ 30 ∧ 1 ≤ clG f L p G ∧ clC f L p 1 S ≤ 6 ∧ clC f L p 2 W ≤ 5 ∧ clC f L p 3 C ≤ 6 ∧ sk f L p < L := by
  have hsk := sk_le (f := f) hp
  obtain ⟨k, hk⟩ : ∃ k, cK (m_hr f L (sk f L p)) = k := ⟨_, rfl⟩
  have hk' : clK f L p = k := hk
  unfold clF at h
  rw [hk] at h
  by_cases h1 : k = 4 ∨ (¬ k = 0 ∧ G = 0)
  · rw [if_pos h1] at h; exact absurd h (by simp)
  rw [if_neg h1] at h
  by_cases h2 : fullK G S W C k = true
  · rw [if_pos h2] at h; exact absurd h (by simp)
  rw [if_neg h2] at h
  by_cases h3 : (bF f L (sk f L p + 1) k).1 = 0
  · rw [if_pos h3] at h
    have hlt : sk f L p < L := by
      by_cases e : sk f L p < L
      · exact e
      · unfold m_hr at hk
        rw [if_neg e] at hk
        have : cK (-1) = 4 := by decide
        omega
    have hs : m_hr f L (sk f L (bE f L (sk f L p + 1) k)) = nI 59 := by
      unfold sF at h
      by_cases e : m_hr f L (sk f L (bE f L (sk f L p + 1) k)) = nI 59
      · exact e
      · rw [if_neg e] at h; exact absurd h (by simp)
    have hl2 := hr_lt hs (by decide)
    have hbl := bE_le (f := f) (L := L) (p := sk f L p + 1) (k := k) (by omega) h3
    have hbg : sk f L p + 1 ≤ bE f L (sk f L p + 1) k := by
      unfold bE
      split
      · have key : ∀ i, sk f L p + 1 ≤ rwq f L (sk f L p + 1) i ∨ L < rwq f L (sk f L p + 1) i := by
          intro i
          induction i with
          | zero => exact Or.inl (Nat.le_refl _)
          | succ i ih =>
            rcases ih with ih | ih
            · by_cases e : rwq f L (sk f L p + 1) i ≤ L
              · have e1 := nE_le (f := f) e
                have e2 := sk_le (f := f) e1.2
                left
                show _ ≤ sk f L (nE f L (rwq f L (sk f L p + 1) i)) + 1
                omega
              · right
                have e3 : sk f L (rwq f L (sk f L p + 1) i) = rwq f L (sk f L p + 1) i := scan_stop (by omega)
                have e4 : nE f L (rwq f L (sk f L p + 1) i) = rwq f L (sk f L p + 1) i := by unfold nE dE; rw [e3]; exact scan_stop (by omega)
                have e5 : sk f L (nE f L (rwq f L (sk f L p + 1) i)) = rwq f L (sk f L p + 1) i := by rw [e4]; exact e3
                show _ < sk f L (nE f L (rwq f L (sk f L p + 1) i)) + 1
                omega
            · right
              have e3 : sk f L (rwq f L (sk f L p + 1) i) = rwq f L (sk f L p + 1) i := scan_stop (by omega)
              have e4 : nE f L (rwq f L (sk f L p + 1) i) = rwq f L (sk f L p + 1) i := by unfold nE dE; rw [e3]; exact scan_stop (by omega)
              have e5 : sk f L (nE f L (rwq f L (sk f L p + 1) i)) = rwq f L (sk f L p + 1) i := by rw [e4]; exact e3
              show _ < sk f L (nE f L (rwq f L (sk f L p + 1) i)) + 1
              omega
        by_cases e : rwq f L (sk f L p + 1) 4 ≤ L
        · have e1 := nE_le (f := f) e
          have := key 4
          omega
        · have e3 : sk f L (rwq f L (sk f L p + 1) 4) = rwq f L (sk f L p + 1) 4 := scan_stop (by omega)
          have e4 : nE f L (rwq f L (sk f L p + 1) 4) = rwq f L (sk f L p + 1) 4 := by unfold nE dE; rw [e3]; exact scan_stop (by omega)
          rw [e4]; omega
      · exact (nE_le (by omega)).1
    have hs2 := sk_le (f := f) hbl
    have hG : k = 0 → nV f L (sk f L p + 1) ≤ 30 ∧ 1 ≤ nV f L (sk f L p + 1) := by
      intro e
      subst e
      rw [bF_0] at h3
      unfold nF at h3
      by_cases e1 : nOk f L (sk f L p + 1) = false
      · rw [if_pos e1] at h3; exact absurd h3 (by simp)
      · rw [if_neg e1] at h3
        by_cases e2 : 3 < nE f L (sk f L p + 1) - sk f L (sk f L p + 1) ∨ nV f L (sk f L p + 1) < 1 ∨ 30 < nV f L (sk f L p + 1)
        · rw [if_pos e2] at h3; exact absurd h3 (by simp)
        · omega
    unfold fullK at h2
    refine ⟨by unfold clP; rw [hk']; omega, by unfold clP; rw [hk']; omega, ?_, ?_, ?_, ?_, ?_, hlt⟩
    · unfold clG; rw [hk']; split
      · exact (hG ‹_›).1
      · exact hb.1
    · unfold clG; rw [hk']; split
      · exact (hG ‹_›).2
      · omega
    · unfold clC; rw [hk']
      by_cases e : k = 1
      · rw [if_pos e]; rw [e] at h2; simp at h2; omega
      · rw [if_neg e]; exact hb.2.1
    · unfold clC; rw [hk']
      by_cases e : k = 2
      · rw [if_pos e]; rw [e] at h2; simp at h2; omega
      · rw [if_neg e]; exact hb.2.2.1
    · unfold clC; rw [hk']
      by_cases e : k = 3
      · rw [if_pos e]; rw [e] at h2; simp at h2; omega
      · rw [if_neg e]; exact hb.2.2.2
  · rw [if_neg h3] at h; exact absurd h h3
/-- the reading of a whole text: place, gnats, sitters, windows, critics, rows -/
abbrev PT : Type := Nat × Nat × Nat × Nat × Nat × (Nat → Int32) × (Nat → Int32) × (Nat → Int32)
def clS (f : Nat → Int32) (L : Nat) (s : PT) : PT := (clP f L s.1, clG f L s.1 s.2.1, clC f L s.1 1 s.2.2.1, clC f L s.1 2 s.2.2.2.1, clC f L s.1 3 s.2.2.2.2.1, clO f L s.1 s.2.2.1 s.2.2.2.2.2.1, clR f L s.1 2 s.2.2.2.1 s.2.2.2.2.2.2.1, clR f L s.1 3 s.2.2.2.2.1 s.2.2.2.2.2.2.2)
def clFs (f : Nat → Int32) (L : Nat) (s : PT) : Nat × Nat := clF f L s.1 s.2.1 s.2.2.1 s.2.2.2.1 s.2.2.2.2.1
def pA (f : Nat → Int32) (L : Nat) : Nat → PT → (Nat × Nat) × PT
  | 0, s => ((0, 0), s)
  | d + 1, s => if sk f L s.1 < L then (if (clFs f L (sk f L s.1, s.2)).1 = 0 then pA f L d (clS f L (sk f L s.1, s.2)) else (clFs f L (sk f L s.1, s.2), s)) else ((0, 0), s)
theorem clF_le (f : Nat → Int32) (L p G S W C : Nat) : (clF f L p G S W C).1 ≤ 3 := by
  unfold clF
  split
  · simp
  split
  · simp
  split
  · unfold sF; split <;> simp
  · unfold bF
    split
    · exact Nat.le_trans (nF_le _ _ _ _ _) (by decide)
    split
    · exact Nat.le_trans (rF_le _ _ _ _) (by decide)
    split
    · exact Nat.le_trans (nF_le _ _ _ _ _) (by decide)
    · exact Nat.le_trans (nF_le _ _ _ _ _) (by decide)
theorem hr_pos {f : Nat → Int32} {L p : Nat} (h : ¬ m_hr f L p < 0) : p < L := by
  by_cases e : p < L
  · exact e
  · unfold m_hr at h; rw [if_neg e] at h; exact absurd (by decide) h
theorem hr_neg {f : Nat → Int32} {L p : Nat} (hl : ∀ q, q < L → ¬ f q < 0) (h : m_hr f L p < 0) : ¬ p < L := fun e => by
  unfold m_hr at h; rw [if_pos e] at h; exact hl p e h
set_option maxHeartbeats 4000000 in
set_option maxRecDepth 100000 in
theorem c_X6_capital (l : Launch) (θ : zH) (ad : Nat → Nat) (n : Nat → Nat) (g : Int32) (r : Nat → Nat → Int32)  (hL : n 10 ≤ 240) (hl : ∀ q, q < n 10 → ¬ r 9 q < 0) : cI l yX6_capital wsX6_capital 5 θ [.ref (ad 0)] (MW θ ad n g r) (fun r0 Y => (¬ (pA (r 9) (n 10) (n 10 + 1) (0, 0, 0, 0, 0, r 17, r 19, r 21)).1.1 = 0 ∧ r0 = (-10) - nI (pA (r 9) (n 10) (n 10 + 1) (0, 0, 0, 0, 0, r 17, r 19, r 21)).1.1 ∧ ∃ n1 r1, mJ n n1 r r1 ∧ Y = MW θ ad (va_up n1 10 0) (nI (pA (r 9) (n 10) (n 10 + 1) (0, 0, 0, 0, 0, r 17, r 19, r 21)).1.2) r1) ∨ ((pA (r 9) (n 10) (n 10 + 1) (0, 0, 0, 0, 0, r 17, r 19, r 21)).1 = (0, 0) ∧ r0 = nI (pA (r 9) (n 10) (n 10 + 1) (0, 0, 0, 0, 0, r 17, r 19, r 21)).2.2.2.1 ∧ ∃ p x y, Y = MW θ ad (nv ((pA (r 9) (n 10) (n 10 + 1) (0, 0, 0, 0, 0, r 17, r 19, r 21)).2.2.1) ((pA (r 9) (n 10) (n 10 + 1) (0, 0, 0, 0, 0, r 17, r 19, r 21)).2.2.2.1) ((pA (r 9) (n 10) (n 10 + 1) (0, 0, 0, 0, 0, r 17, r 19, r 21)).2.2.2.2.1) ((pA (r 9) (n 10) (n 10 + 1) (0, 0, 0, 0, 0, r 17, r 19, r 21)).2.2.2.2.2.1) (n 8) 0 p x y ((pA (r 9) (n 10) (n 10 + 1) (0, 0, 0, 0, 0, r 17, r 19, r 21)).2.2.1) ((pA (r 9) (n 10) (n 10 + 1) (0, 0, 0, 0, 0, r 17, r 19, r 21)).2.2.2.1) ((pA (r 9) (n 10) (n 10 + 1) (0, 0, 0, 0, 0, r 17, r 19, r 21)).2.2.2.2.1) ((pA (r 9) (n 10) (n 10 + 1) (0, 0, 0, 0, 0, r 17, r 19, r 21)).2.2.2.2.2.1) 0 0) (-1) (rv (m_cq (r 2) (pA (r 9) (n 10) (n 10 + 1) (0, 0, 0, 0, 0, r 17, r 19, r 21)).2.2.2.2.2.2.1 6) (m_cq (r 4) (pA (r 9) (n 10) (n 10 + 1) (0, 0, 0, 0, 0, r 17, r 19, r 21)).2.2.2.2.2.2.2.1 (pA (r 9) (n 10) (n 10 + 1) (0, 0, 0, 0, 0, r 17, r 19, r 21)).2.2.2.2.1) (m_cq (r 6) (pA (r 9) (n 10) (n 10 + 1) (0, 0, 0, 0, 0, r 17, r 19, r 21)).2.2.2.2.2.2.2.2 6) (m_lm (m_emp (r 7)) (pA (r 9) (n 10) (n 10 + 1) (0, 0, 0, 0, 0, r 17, r 19, r 21)).2.2.2.2.2.2.2.1 (pA (r 9) (n 10) (n 10 + 1) (0, 0, 0, 0, 0, r 17, r 19, r 21)).2.2.2.2.1) (r 9) ((pA (r 9) (n 10) (n 10 + 1) (0, 0, 0, 0, 0, r 17, r 19, r 21)).2.2.2.2.2.2.1) ((pA (r 9) (n 10) (n 10 + 1) (0, 0, 0, 0, 0, r 17, r 19, r 21)).2.2.2.2.2.2.2.1) ((pA (r 9) (n 10) (n 10 + 1) (0, 0, 0, 0, 0, r 17, r 19, r 21)).2.2.2.2.2.2.2.2) (r 23) (r 24) (r 25) (r 26) (r 28) (r 29) (r 30) (r 31) (upd (upd (r 32) 0 (nI 0)) 1 (nI 0))))) := by
  refine z_cI (by decide) rfl rfl (Nat.le_of_ble_eq_true rfl) (lv := [(0, .ref (ad 0))]) rfl (fun κ C E => ?_)
  have hin : ∀ w ∈ wsX60, w ∈ wsX6_capital := by decide +kernel
  refine z_aload_n C dX6_capital_0 rfl (show zlk _ 0 = some (.ref (ad 0)) from rfl) ?_
  refine z_iconst C (v := (-1)) dX6_capital_1 (by decide) ?_
  refine z_mp C hin 11 (by decide) (by decide +kernel) rfl rfl mp_11 dX6_capital_2 ?_
  refine z_aload_n C dX6_capital_5 rfl (show zlk _ 0 = some (.ref (ad 0)) from rfl) ?_
  refine z_iconst C (v := nI 0) dX6_capital_6 (by decide) ?_
  refine z_mp C hin 12 (by decide) (by decide +kernel) rfl rfl mpn_12 dX6_capital_7 ?_
  refine z_aload_n C dX6_capital_10 rfl (show zlk _ 0 = some (.ref (ad 0)) from rfl) ?_
  refine z_iconst C (v := nI 0) dX6_capital_11 (by decide) ?_
  refine z_mp C hin 15 (by decide) (by decide +kernel) rfl rfl mpv_15 dX6_capital_12 ?_
  refine z_aload_n C dX6_capital_15 rfl (show zlk _ 0 = some (.ref (ad 0)) from rfl) ?_
  refine z_iconst C (v := nI 0) dX6_capital_16 (by decide) ?_
  refine z_mp C hin 16 (by decide) (by decide +kernel) rfl rfl mpv_16 dX6_capital_17 ?_
  refine z_aload_n C dX6_capital_20 rfl (show zlk _ 0 = some (.ref (ad 0)) from rfl) ?_
  refine z_iconst C (v := nI 0) dX6_capital_21 (by decide) ?_
  refine z_mp C hin 18 (by decide) (by decide +kernel) rfl rfl mpv_18 dX6_capital_22 ?_
  refine z_aload_n C dX6_capital_25 rfl (show zlk _ 0 = some (.ref (ad 0)) from rfl) ?_
  refine z_iconst C (v := nI 0) dX6_capital_26 (by decide) ?_
  refine z_mp C hin 20 (by decide) (by decide +kernel) rfl rfl mpv_20 dX6_capital_27 ?_
  refine z_iconst C (v := nI 0) dX6_capital_30 (by decide) ?_
  refine z_istore_n C [(1, .int (nI 0)), (0, .ref (ad 0))] dX6_capital_31 rfl (by decide) rfl ?_
  refine z_X (Y := MW θ ad (nv (n 0) (n 1) (n 3) (n 5) (n 8) (n 10) 0 (n 13) (n 14) 0 0 0 0 (n 22) (n 27)) (-1) (rv (r 2) (r 4) (r 6) (r 7) (r 9) (r 17) (r 19) (r 21) (r 23) (r 24) (r 25) (r 26) (r 28) (r 29) (r 30) (r 31) (r 32))) (mw_eq rfl rfl rfl rfl rfl rfl rfl rfl rfl rfl rfl rfl rfl rfl rfl rfl rfl rfl rfl rfl rfl rfl rfl rfl rfl rfl rfl rfl rfl rfl rfl rfl) ?_
  refine z_lv (lv' := [(0, .ref (ad 0)), (1, .int (nI 0))]) rfl ?_
  suffices key : ∀ d p x y G0 S0 W0 C0 o lm lk, p ≤ n 10 → n 10 - p < d → (G0 ≤ 30 ∧ S0 ≤ 6 ∧ W0 ≤ 5 ∧ C0 ≤ 6) → pA (r 9) (n 10) d (p, G0, S0, W0, C0, o, lm, lk) = pA (r 9) (n 10) (n 10 + 1) (0, 0, 0, 0, 0, r 17, r 19, r 21) → Z κ (MW θ ad (nv (n 0) (n 1) (n 3) (n 5) (n 8) (n 10) p x y G0 S0 W0 C0 (n 22) (n 27)) (-1) (rv (r 2) (r 4) (r 6) (r 7) (r 9) o lm lk (r 23) (r 24) (r 25) (r 26) (r 28) (r 29) (r 30) (r 31) (r 32))) 32 [(0, .ref (ad 0)), (1, .int (nI 0))] [] from key (n 10 + 1) 0 (n 13) (n 14) 0 0 0 0 (r 17) (r 19) (r 21) (by omega) (by omega) (by omega) rfl
  intro d
  induction d with
  | zero => intro p x y G0 S0 W0 C0 o lm lk h1 h2; omega
  | succ d ih =>
    intro p x y G0 S0 W0 C0 o lm lk hp hd hb hR
    refine z_iload_n C dX6_capital_32 rfl (show zlk _ 1 = some (.int (nI 0)) from rfl) ?_
    refine z_if_neN C 51 dX6_capital_33 (by decide) (by decide) (fun h => absurd h (by decide)) (fun _ => ?_)
    refine z_aload_n C dX6_capital_36 rfl (show zlk _ 0 = some (.ref (ad 0)) from rfl) ?_
    refine z_callVi C (As := []) (rest := []) (c_X6_here l θ ad (nv (n 0) (n 1) (n 3) (n 5) (n 8) (n 10) p x y G0 S0 W0 C0 (n 22) (n 27)) (-1) (rv (r 2) (r 4) (r 6) (r 7) (r 9) o lm lk (r 23) (r 24) (r 25) (r 26) (r 28) (r 29) (r 30) (r 31) (r 32)) (hp) (hL)) gX6_capital_X6_here rfl 0 (by decide +kernel) (by decide) (by decide) 0 rfl rfl rfl rfl rfl (Nat.le_of_ble_eq_true rfl) dX6_capital_37 ?_
    rintro _ _ ⟨ph11, eh11, rfl, rfl⟩
    replace eh11 : ph11 = sk (r 9) (n 10) (p) := eh11
    have lh11 : ph11 ≤ n 10 := by rw [eh11]; exact (sk_le (by omega)).2
    refine z_top (v' := .int (m_hr (r 9) (n 10) ph11)) rfl ?_
    refine z_X (Y := MW θ ad (nv (n 0) (n 1) (n 3) (n 5) (n 8) (n 10) ph11 x y G0 S0 W0 C0 (n 22) (n 27)) (-1) (rv (r 2) (r 4) (r 6) (r 7) (r 9) o lm lk (r 23) (r 24) (r 25) (r 26) (r 28) (r 29) (r 30) (r 31) (r 32))) (mw_eq rfl rfl rfl rfl rfl rfl rfl rfl rfl rfl rfl rfl rfl rfl rfl rfl rfl rfl rfl rfl rfl rfl rfl rfl rfl rfl rfl rfl rfl rfl rfl rfl) ?_
    refine z_if_lt C 51 dX6_capital_40 (by decide) (fun h40t_1 => ?_) (fun h40n_1 => ?_)
    · refine z_aload_n C dX6_capital_51 rfl (show zlk _ 0 = some (.ref (ad 0)) from rfl) ?_
      refine z_iconst C (v := nI 0) dX6_capital_52 (by decide) ?_
      refine z_mp C hin 10 (by decide) (by decide +kernel) rfl rfl mpv_10 dX6_capital_53 ?_
      refine z_iload_n C dX6_capital_56 rfl (show zlk _ 1 = some (.int (nI 0)) from rfl) ?_
      refine z_if_leN C 65 dX6_capital_57 (by decide) (by decide) (fun _ => ?_) (fun h => absurd h (by decide))
      refine z_aload_n C dX6_capital_65 rfl (show zlk _ 0 = some (.ref (ad 0)) from rfl) ?_
      refine z_callVv C (As := []) (rest := []) (c_X6_takeRead l θ ad (nv (n 0) (n 1) (n 3) (n 5) (n 8) 0 ph11 x y G0 S0 W0 C0 (n 22) (n 27)) (-1) (rv (r 2) (r 4) (r 6) (r 7) (r 9) o lm lk (r 23) (r 24) (r 25) (r 26) (r 28) (r 29) (r 30) (r 31) (r 32)) (hb.2.2.1)) gX6_capital_X6_takeRead rfl 0 (by decide +kernel) (by decide) (by decide) 0 rfl rfl rfl rfl rfl (Nat.le_of_ble_eq_true rfl) dX6_capital_66 ?_
      rintro _ rfl
      refine z_X (Y := MW θ ad (nv G0 S0 W0 C0 (n 8) 0 ph11 x y G0 S0 W0 C0 (n 22) (n 27)) (-1) (rv (m_cq (r 2) o 6) (m_cq (r 4) lm (W0)) (m_cq (r 6) lk 6) (m_lm (m_emp (r 7)) lm (W0)) (r 9) o lm lk (r 23) (r 24) (r 25) (r 26) (r 28) (r 29) (r 30) (r 31) (r 32))) (mw_eq rfl rfl rfl rfl rfl rfl rfl rfl rfl rfl rfl rfl rfl rfl rfl rfl rfl rfl rfl rfl rfl rfl rfl rfl rfl rfl rfl rfl rfl rfl rfl rfl) ?_
      refine z_aload_n C dX6_capital_69 rfl (show zlk _ 0 = some (.ref (ad 0)) from rfl) ?_
      refine z_iconst C (v := nI 0) dX6_capital_70 (by decide) ?_
      refine z_mp C hin 27 (by decide) (by decide +kernel) rfl rfl mpv_27 dX6_capital_71 ?_
      refine z_aload_n C dX6_capital_74 rfl (show zlk _ 0 = some (.ref (ad 0)) from rfl) ?_
      refine z_iconst C (v := nI 0) dX6_capital_75 (by decide) ?_
      refine z_mp C hin 22 (by decide) (by decide +kernel) rfl rfl mpv_22 dX6_capital_76 ?_
      refine z_aload_n C dX6_capital_79 rfl (show zlk _ 0 = some (.ref (ad 0)) from rfl) ?_
      refine z_mg C hin 32 (by decide) (by decide +kernel) (v := .ref (ad 32)) mf_32 dX6_capital_80 ?_
      refine z_iconst C (v := nI 0) dX6_capital_83 (by decide) ?_
      refine z_iconst C (v := nI 0) dX6_capital_84 (by decide) ?_
      refine z_zast C (f := (r 32)) 17 mrv_32 0 rfl (by omega) (by decide) _ msv_32 dX6_capital_85 ?_
      refine z_aload_n C dX6_capital_86 rfl (show zlk _ 0 = some (.ref (ad 0)) from rfl) ?_
      refine z_mg C hin 32 (by decide) (by decide +kernel) (v := .ref (ad 32)) mf_32 dX6_capital_87 ?_
      refine z_iconst C (v := nI 1) dX6_capital_90 (by decide) ?_
      refine z_iconst C (v := nI 0) dX6_capital_91 (by decide) ?_
      refine z_zast C (f := (upd (r 32) 0 (nI 0))) 17 mrv_32 1 rfl (by omega) (by decide) _ msv_32 dX6_capital_92 ?_
      refine z_aload_n C dX6_capital_93 rfl (show zlk _ 0 = some (.ref (ad 0)) from rfl) ?_
      refine z_mg C hin 1 (by decide) (by decide +kernel) (v := .int (nI S0)) mfv_1 dX6_capital_94 ?_
      exact E _ _ _ _ (Or.inr (by have hge : ¬ ph11 < n 10 := hr_neg hl h40t_1; have e1 : pA (r 9) (n 10) (n 10 + 1) (0, 0, 0, 0, 0, r 17, r 19, r 21) = ((0, 0), (p, G0, S0, W0, C0, o, lm, lk)) := hR.symm.trans (by rw [pA, if_neg (by rw [← eh11]; exact hge)]); rw [e1]; exact ⟨rfl, rfl, _, _, _, (mw_eq rfl rfl rfl rfl rfl rfl rfl rfl rfl rfl rfl rfl rfl rfl rfl rfl rfl rfl rfl rfl rfl rfl rfl rfl rfl rfl rfl rfl rfl rfl rfl rfl)⟩)) (rfl) dX6_capital_97
    · refine z_aload_n C dX6_capital_43 rfl (show zlk _ 0 = some (.ref (ad 0)) from rfl) ?_
      refine z_callVi C (As := []) (rest := []) (c_X6_takeClause l θ ad (nv (n 0) (n 1) (n 3) (n 5) (n 8) (n 10) ph11 x y G0 S0 W0 C0 (n 22) (n 27)) (-1) (rv (r 2) (r 4) (r 6) (r 7) (r 9) o lm lk (r 23) (r 24) (r 25) (r 26) (r 28) (r 29) (r 30) (r 31) (r 32)) (show ph11 ≤ n 10 from lh11) hL hb) gX6_capital_X6_takeClause rfl 0 (by decide +kernel) (by decide) (by decide) 0 rfl rfl rfl rfl rfl (Nat.le_of_ble_eq_true rfl) dX6_capital_44 ?_
      rintro _ _ (⟨hE17, rfl, n17, r17, hJ17, rfl⟩ | ⟨hE17, rfl, p217, x17, y17, G17, S17, W17, C17, o17, l17, k17, qp17, qG17, qS17, qW17, qC17, qo17, ql17, qk17, rfl⟩)
      · replace hE17 : ¬ (clF (r 9) (n 10) (ph11) (G0) (S0) (W0) (C0)).1 = 0 := hE17
        refine z_istore_n C [(1, .int (nI ((clF (r 9) (n 10) (ph11) (G0) (S0) (W0) (C0)).1))), (0, .ref (ad 0))] dX6_capital_47 rfl (by decide) rfl ?_
        refine z_goto C 32 dX6_capital_48 (by decide) ?_
        refine z_iload_n C dX6_capital_32 rfl (show zlk _ 1 = some (.int (nI ((clF (r 9) (n 10) (ph11) (G0) (S0) (W0) (C0)).1))) from rfl) ?_
        refine z_if_neN C 51 dX6_capital_33 (by decide) (Nat.lt_of_le_of_lt (clF_le _ _ _ _ _ _ _) (by decide)) (fun h33t_2 => ?_) (fun h33t_2 => absurd h33t_2 (hE17))
        refine z_aload_n C dX6_capital_51 rfl (show zlk _ 0 = some (.ref (ad 0)) from rfl) ?_
        refine z_iconst C (v := nI 0) dX6_capital_52 (by decide) ?_
        refine z_mp C hin 10 (by decide) (by decide +kernel) rfl rfl mpn_10 dX6_capital_53 ?_
        refine z_iload_n C dX6_capital_56 rfl (show zlk _ 1 = some (.int (nI ((clF (r 9) (n 10) (ph11) (G0) (S0) (W0) (C0)).1))) from rfl) ?_
        refine z_if_leN C 65 dX6_capital_57 (by decide) (Nat.lt_of_le_of_lt (clF_le _ _ _ _ _ _ _) (by decide)) (fun h57n_3 => absurd h57n_3 (hE17)) (fun h57n_3 => ?_)
        refine z_bipush C (v := (-10)) dX6_capital_60 (by decide) ?_
        refine z_iload_n C dX6_capital_62 rfl (show zlk _ 1 = some (.int (nI ((clF (r 9) (n 10) (ph11) (G0) (S0) (W0) (C0)).1))) from rfl) ?_
        refine z_isub C dX6_capital_63 ?_
        exact E _ _ _ _ (Or.inl (by have hlt : ph11 < n 10 := hr_pos h40n_1; have e1 : pA (r 9) (n 10) (n 10 + 1) (0, 0, 0, 0, 0, r 17, r 19, r 21) = _ := hR.symm.trans (by rw [pA, if_pos (by rw [← eh11]; exact hlt), if_neg (by rw [← eh11]; exact hE17)]); rw [e1, ← eh11]; exact ⟨hE17, rfl, _, _, hJ17, (mw_eq rfl rfl rfl rfl rfl rfl rfl rfl rfl rfl rfl rfl rfl rfl rfl rfl rfl rfl rfl rfl rfl rfl rfl rfl rfl rfl rfl rfl rfl rfl rfl rfl)⟩)) (rfl) dX6_capital_64
      · replace hE17 : (clF (r 9) (n 10) (ph11) (G0) (S0) (W0) (C0)).1 = 0 := hE17
        replace qp17 : p217 = clP (r 9) (n 10) (ph11) := qp17
        replace qG17 : G17 = clG (r 9) (n 10) (ph11) (G0) := qG17
        replace qS17 : S17 = clC (r 9) (n 10) (ph11) 1 (S0) := qS17
        replace qW17 : W17 = clC (r 9) (n 10) (ph11) 2 (W0) := qW17
        replace qC17 : C17 = clC (r 9) (n 10) (ph11) 3 (C0) := qC17
        replace qo17 : o17 = clO (r 9) (n 10) (ph11) (S0) o := qo17
        replace ql17 : l17 = clR (r 9) (n 10) (ph11) 2 (W0) lm := ql17
        replace qk17 : k17 = clR (r 9) (n 10) (ph11) 3 (C0) lk := qk17
        have hok := cl_ok (f := r 9) (L := n 10) (p := ph11) lh11 hb hE17
        have hok9 : ph11 < n 10 := by have h9 := hok.2.2.2.2.2.2.2; have h8 := (sk_le (f := r 9) lh11).1; omega
        have hge : p ≤ ph11 := by rw [eh11]; exact (sk_le hp).1
        refine z_X (Y := MW θ ad (nv (n 0) (n 1) (n 3) (n 5) (n 8) (n 10) p217 x17 y17 G17 S17 W17 C17 (n 22) (n 27)) (-1) (rv (r 2) (r 4) (r 6) (r 7) (r 9) o17 l17 k17 (r 23) (r 24) (r 25) (r 26) (r 28) (r 29) (r 30) (r 31) (r 32))) (mw_eq rfl rfl rfl rfl rfl rfl rfl rfl rfl rfl rfl rfl rfl rfl rfl rfl rfl rfl rfl rfl rfl rfl rfl rfl rfl rfl rfl rfl rfl rfl rfl rfl) ?_
        refine z_istore_n C [(1, .int (nI 0)), (0, .ref (ad 0))] dX6_capital_47 rfl (by decide) rfl ?_
        refine z_goto C 32 dX6_capital_48 (by decide) ?_
        exact z_to (ih _ _ _ _ _ _ _ _ _ _ (by rw [qp17]; exact hok.1) (by rw [qp17]; have := hok.2.1; omega) (by rw [qG17, qS17, qW17, qC17]; exact ⟨hok.2.2.1, hok.2.2.2.2.1, hok.2.2.2.2.2.1, hok.2.2.2.2.2.2.1⟩) (by rw [← hR]; rw [pA]; rw [if_pos (by rw [← eh11]; exact hok9), if_pos (by rw [← eh11]; exact hE17), ← eh11, qp17, qG17, qS17, qW17, qC17, qo17, ql17, qk17]; rfl)) (mw_eq rfl rfl rfl rfl rfl rfl rfl rfl rfl rfl rfl rfl rfl rfl rfl rfl rfl rfl rfl rfl rfl rfl rfl rfl rfl rfl rfl rfl rfl rfl rfl rfl) rfl

