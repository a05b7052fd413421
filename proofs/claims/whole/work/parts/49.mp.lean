def m_pv (G : Nat) (o f : Nat → Int32) (a s : Nat) : Int32 := dW o f G s (f (12 + a) + f 1)
set_option maxHeartbeats 4000000 in
set_option maxRecDepth 100000 in
theorem c_X6_bestPlaces (l : Launch) (θ : zH) (ad : Nat → Nat) (n : Nat → Nat) (g : Int32) (r : Nat → Nat → Int32)  (hS : n 1 ≤ 6) (hW : n 3 ≤ 5) (h0 : n 0 ≤ 30) : cI l yX6_bestPlaces wsX6_bestPlaces 3 θ [.ref (ad 0)] (MW θ ad n g r) (fun r0 Y => r0 = (pq (n 1) (n 3) (fiO (m_pv (n 0) (r 2) (r 7)) (n 1) (r 26) (n 3)) (n 3) 0 (nI 0) (nI 0) 0 (chP (n 1) (fun _ => 0)) ((-1), r 25)).1 ∧ ∃ tr, Y = MW θ ad n g (rv (r 2) (r 4) (r 6) (r 7) (r 9) (r 17) (r 19) (r 21) (r 23) tr ((pq (n 1) (n 3) (fiO (m_pv (n 0) (r 2) (r 7)) (n 1) (r 26) (n 3)) (n 3) 0 (nI 0) (nI 0) 0 (chP (n 1) (fun _ => 0)) ((-1), r 25)).2) (fiO (m_pv (n 0) (r 2) (r 7)) (n 1) (r 26) (n 3)) (r 28) (r 29) (r 30) (r 31) (r 32))) := by
  refine z_cI (by decide) rfl rfl (Nat.le_of_ble_eq_true rfl) (lv := [(0, .ref (ad 0))]) rfl (fun κ C E => ?_)
  have hin : ∀ w ∈ wsX60, w ∈ wsX6_bestPlaces := by decide +kernel
  refine z_iconst C (v := nI 0) dX6_bestPlaces_0 (by decide) ?_
  refine z_istore_n C [(1, .int (nI 0)), (0, .ref (ad 0))] dX6_bestPlaces_1 rfl (by decide) rfl ?_
  refine z_lv (lv' := [(0, .ref (ad 0)), (1, .int (nI 0))]) rfl ?_
  refine z_X (Y := MW θ ad n g (rv (r 2) (r 4) (r 6) (r 7) (r 9) (r 17) (r 19) (r 21) (r 23) (r 24) (r 25) (fiO (m_pv (n 0) (r 2) (r 7)) (n 1) (r 26) 0) (r 28) (r 29) (r 30) (r 31) (r 32))) (mw_eq rfl rfl rfl rfl rfl rfl rfl rfl rfl rfl rfl rfl rfl rfl rfl rfl rfl rfl rfl rfl rfl rfl rfl rfl rfl rfl rfl rfl rfl rfl rfl rfl) ?_
  refine z_up (fun k => Z κ (MW θ ad n g (rv (r 2) (r 4) (r 6) (r 7) (r 9) (r 17) (r 19) (r 21) (r 23) (r 24) (r 25) (fiO (m_pv (n 0) (r 2) (r 7)) (n 1) (r 26) k) (r 28) (r 29) (r 30) (r 31) (r 32))) 2 [(0, .ref (ad 0)), (1, .int (nI k))] []) (n 3) ?_ ?_ 0 (by omega)
  · refine z_iload_n C dX6_bestPlaces_2 rfl (show zlk _ 1 = some (.int (nI (n 3))) from rfl) ?_
    refine z_aload_n C dX6_bestPlaces_3 rfl (show zlk _ 0 = some (.ref (ad 0)) from rfl) ?_
    refine z_mg C hin 3 (by decide) (by decide +kernel) (v := .int (nI (n 3))) mf_3 dX6_bestPlaces_4 ?_
    refine z_icmp_geT C 64 dX6_bestPlaces_7 (by decide) (by omega) (by omega) (by omega) ?_
    refine z_iconst C (v := (-1)) dX6_bestPlaces_64 (by decide) ?_
    refine z_istore_n C [(1, .int (-1)), (0, .ref (ad 0))] dX6_bestPlaces_65 rfl (by decide) rfl ?_
    refine z_iconst C (v := nI 0) dX6_bestPlaces_66 (by decide) ?_
    refine z_istore_n C [(2, .int (nI 0)), (1, .int (-1)), (0, .ref (ad 0))] dX6_bestPlaces_67 rfl (by decide) rfl ?_
    refine z_aload_n C dX6_bestPlaces_68 rfl (show zlk _ 0 = some (.ref (ad 0)) from rfl) ?_
    refine z_mg C hin 24 (by decide) (by decide +kernel) (v := .ref (ad 24)) mf_24 dX6_bestPlaces_69 ?_
    refine z_iconst C (v := nI 0) dX6_bestPlaces_72 (by decide) ?_
    refine z_iconst C (v := (-1)) dX6_bestPlaces_73 (by decide) ?_
    refine z_iast C (f := (r 24)) 10 mrv_24 0 rfl (by omega) (by decide) _ msv_24 dX6_bestPlaces_74 ?_
    refine z_to (bp_K C ad n g (rv (r 2) (r 4) (r 6) (r 7) (r 9) (r 17) (r 19) (r 21) (r 23) (upd (r 24) 0 (-1)) (r 25) (fiO (m_pv (n 0) (r 2) (r 7)) (n 1) (r 26) (n 3)) (r 28) (r 29) (r 30) (r 31) (r 32)) hS hW (n 3) 0 (fun _ => 0) (upd (r 24) 0 (-1)) (r 25) (-1) (Nat.zero_add _) (fun k hk => absurd hk (Nat.not_lt_zero _)) (fun k hk => absurd hk (Nat.not_lt_zero _)) rfl (fun tr1 _ => ?_)) (mw_eq rfl rfl rfl rfl rfl rfl rfl rfl rfl rfl rfl rfl rfl rfl rfl rfl rfl rfl rfl rfl rfl rfl rfl rfl rfl rfl rfl rfl rfl rfl rfl rfl) rfl
    refine z_X (Y := MW θ ad n g (rv (r 2) (r 4) (r 6) (r 7) (r 9) (r 17) (r 19) (r 21) (r 23) tr1 ((pq (n 1) (n 3) (fiO (m_pv (n 0) (r 2) (r 7)) (n 1) (r 26) (n 3)) (n 3) 0 (nI 0) (nI 0) 0 (chP (n 1) (fun _ => 0)) ((-1), r 25)).2) (fiO (m_pv (n 0) (r 2) (r 7)) (n 1) (r 26) (n 3)) (r 28) (r 29) (r 30) (r 31) (r 32))) (mw_eq rfl rfl rfl rfl rfl rfl rfl rfl rfl rfl rfl rfl rfl rfl rfl rfl rfl rfl rfl rfl rfl rfl rfl rfl rfl rfl rfl rfl rfl rfl rfl rfl) ?_
    refine z_lv (lv' := [(0, .ref (ad 0)), (1, .int ((pq (n 1) (n 3) (fiO (m_pv (n 0) (r 2) (r 7)) (n 1) (r 26) (n 3)) (n 3) 0 (nI 0) (nI 0) 0 (chP (n 1) (fun _ => 0)) ((-1), r 25)).1)), (2, .int ((nI 0) + (-1)))]) rfl ?_
    refine z_iload_n C dX6_bestPlaces_75 rfl (show zlk _ 2 = some (.int ((nI 0) + (-1))) from rfl) ?_
    refine z_if_lt C 367 dX6_bestPlaces_76 (by decide) (fun h76t_1 => ?_) (fun h76t_1 => absurd h76t_1 (fun z => z (by decide)))
    refine z_iload_n C dX6_bestPlaces_367 rfl (show zlk _ 1 = some (.int ((pq (n 1) (n 3) (fiO (m_pv (n 0) (r 2) (r 7)) (n 1) (r 26) (n 3)) (n 3) 0 (nI 0) (nI 0) 0 (chP (n 1) (fun _ => 0)) ((-1), r 25)).1)) from rfl) ?_
    exact E _ _ _ _ (⟨rfl, _, (mw_eq rfl rfl rfl rfl rfl rfl rfl rfl rfl rfl rfl rfl rfl rfl rfl rfl rfl rfl rfl rfl rfl rfl rfl rfl rfl rfl rfl rfl rfl rfl rfl rfl)⟩) (rfl) dX6_bestPlaces_368
  · intro k hk2 ih2
    refine z_iload_n C dX6_bestPlaces_2 rfl (show zlk _ 1 = some (.int (nI k)) from rfl) ?_
    refine z_aload_n C dX6_bestPlaces_3 rfl (show zlk _ 0 = some (.ref (ad 0)) from rfl) ?_
    refine z_mg C hin 3 (by decide) (by decide +kernel) (v := .int (nI (n 3))) mf_3 dX6_bestPlaces_4 ?_
    refine z_icmp_geF C 64 dX6_bestPlaces_7 (by decide) (by omega) (by omega) (by omega) ?_
    refine z_iconst C (v := nI 0) dX6_bestPlaces_10 (by decide) ?_
    refine z_istore_n C [(2, .int (nI 0)), (0, .ref (ad 0)), (1, .int (nI k))] dX6_bestPlaces_11 rfl (by decide) rfl ?_
    refine z_lv (lv' := [(0, .ref (ad 0)), (1, .int (nI k)), (2, .int (nI 0))]) rfl ?_
    refine z_X (Y := MW θ ad n g (rv (r 2) (r 4) (r 6) (r 7) (r 9) (r 17) (r 19) (r 21) (r 23) (r 24) (r 25) (fiI (m_pv (n 0) (r 2) (r 7)) k (fiO (m_pv (n 0) (r 2) (r 7)) (n 1) (r 26) k) 0) (r 28) (r 29) (r 30) (r 31) (r 32))) (mw_eq rfl rfl rfl rfl rfl rfl rfl rfl rfl rfl rfl rfl rfl rfl rfl rfl rfl rfl rfl rfl rfl rfl rfl rfl rfl rfl rfl rfl rfl rfl rfl rfl) ?_
    refine z_up (fun s => Z κ (MW θ ad n g (rv (r 2) (r 4) (r 6) (r 7) (r 9) (r 17) (r 19) (r 21) (r 23) (r 24) (r 25) (fiI (m_pv (n 0) (r 2) (r 7)) k (fiO (m_pv (n 0) (r 2) (r 7)) (n 1) (r 26) k) s) (r 28) (r 29) (r 30) (r 31) (r 32))) 12 [(0, .ref (ad 0)), (1, .int (nI k)), (2, .int (nI s))] []) (n 1) ?_ ?_ 0 (by omega)
    · refine z_iload_n C dX6_bestPlaces_12 rfl (show zlk _ 2 = some (.int (nI (n 1))) from rfl) ?_
      refine z_aload_n C dX6_bestPlaces_13 rfl (show zlk _ 0 = some (.ref (ad 0)) from rfl) ?_
      refine z_mg C hin 1 (by decide) (by decide +kernel) (v := .int (nI (n 1))) mf_1 dX6_bestPlaces_14 ?_
      refine z_icmp_geT C 58 dX6_bestPlaces_17 (by decide) (by omega) (by omega) (by omega) ?_
      refine z_iincN C [(1, .int (nI (k + 1))), (0, .ref (ad 0)), (2, .int (nI (n 1)))] dX6_bestPlaces_58 rfl (by decide) rfl ?_
      refine z_goto C 2 dX6_bestPlaces_61 (by decide) ?_
      exact z_to (ih2) ((mw_eq rfl rfl rfl rfl rfl rfl rfl rfl rfl rfl rfl rfl rfl rfl rfl rfl rfl rfl rfl rfl rfl rfl rfl rfl rfl rfl rfl rfl rfl rfl rfl rfl)) (rfl)
    · intro s hk12 ih12
      refine z_iload_n C dX6_bestPlaces_12 rfl (show zlk _ 2 = some (.int (nI s)) from rfl) ?_
      refine z_aload_n C dX6_bestPlaces_13 rfl (show zlk _ 0 = some (.ref (ad 0)) from rfl) ?_
      refine z_mg C hin 1 (by decide) (by decide +kernel) (v := .int (nI (n 1))) mf_1 dX6_bestPlaces_14 ?_
      refine z_icmp_geF C 58 dX6_bestPlaces_17 (by decide) (by omega) (by omega) (by omega) ?_
      refine z_aload_n C dX6_bestPlaces_20 rfl (show zlk _ 0 = some (.ref (ad 0)) from rfl) ?_
      refine z_mg C hin 26 (by decide) (by decide +kernel) (v := .ref (ad 26)) mf_26 dX6_bestPlaces_21 ?_
      refine z_bipush C (v := nI 6) dX6_bestPlaces_24 (by decide) ?_
      refine z_iload_n C dX6_bestPlaces_26 rfl (show zlk _ 1 = some (.int (nI k)) from rfl) ?_
      refine z_imulN C dX6_bestPlaces_27 ?_
      refine z_iload_n C dX6_bestPlaces_28 rfl (show zlk _ 2 = some (.int (nI s)) from rfl) ?_
      refine z_iaddN C dX6_bestPlaces_29 ?_
      refine z_aload_n C dX6_bestPlaces_30 rfl (show zlk _ 0 = some (.ref (ad 0)) from rfl) ?_
      refine z_iload_n C dX6_bestPlaces_31 rfl (show zlk _ 2 = some (.int (nI s)) from rfl) ?_
      refine z_aload_n C dX6_bestPlaces_32 rfl (show zlk _ 0 = some (.ref (ad 0)) from rfl) ?_
      refine z_mg C hin 7 (by decide) (by decide +kernel) (v := .ref (ad 7)) mf_7 dX6_bestPlaces_33 ?_
      refine z_bipush C (v := nI 12) dX6_bestPlaces_36 (by decide) ?_
      refine z_iload_n C dX6_bestPlaces_38 rfl (show zlk _ 1 = some (.int (nI k)) from rfl) ?_
      refine z_iaddN C dX6_bestPlaces_39 ?_
      refine z_iald C (f := (r 7)) 4 mrv_7 (12 + k) rfl (by omega) (by decide) dX6_bestPlaces_40 ?_
      refine z_aload_n C dX6_bestPlaces_41 rfl (show zlk _ 0 = some (.ref (ad 0)) from rfl) ?_
      refine z_mg C hin 7 (by decide) (by decide +kernel) (v := .ref (ad 7)) mf_7 dX6_bestPlaces_42 ?_
      refine z_iconst C (v := nI 1) dX6_bestPlaces_45 (by decide) ?_
      refine z_iald C (f := (r 7)) 4 mrv_7 1 rfl (by omega) (by decide) dX6_bestPlaces_46 ?_
      refine z_iadd C dX6_bestPlaces_47 ?_
      refine z_callVi C (As := [.int (nI s), .int (((r 7) (12 + k)) + ((r 7) 1))]) (rest := [.int (nI (6 * k + s)), .ref (ad 26)]) (c_X6_drawnBy l θ ad n g (rv (r 2) (r 4) (r 6) (r 7) (r 9) (r 17) (r 19) (r 21) (r 23) (r 24) (r 25) (fiI (m_pv (n 0) (r 2) (r 7)) k (fiO (m_pv (n 0) (r 2) (r 7)) (n 1) (r 26) k) s) (r 28) (r 29) (r 30) (r 31) (r 32)) s (((r 7) (12 + k)) + ((r 7) 1)) (show s < 6 by omega) (h0)) gX6_bestPlaces_X6_drawnBy rfl 2 (by decide +kernel) (by decide) (by decide) 0 rfl rfl rfl rfl rfl (Nat.le_of_ble_eq_true rfl) dX6_bestPlaces_48 ?_
      rintro _ _ ⟨rfl, rfl⟩
      refine z_top (v' := .int (m_drawn (rv (r 2) (r 4) (r 6) (r 7) (r 9) (r 17) (r 19) (r 21) (r 23) (r 24) (r 25) (fiI (m_pv (n 0) (r 2) (r 7)) k (fiO (m_pv (n 0) (r 2) (r 7)) (n 1) (r 26) k) s) (r 28) (r 29) (r 30) (r 31) (r 32)) (n 0) s (((r 7) (12 + k)) + ((r 7) 1)))) rfl ?_
      refine z_top (v' := .int (m_pv (n 0) (r 2) (r 7) k s)) rfl ?_
      refine z_iast C (f := (fiI (m_pv (n 0) (r 2) (r 7)) k (fiO (m_pv (n 0) (r 2) (r 7)) (n 1) (r 26) k) s)) 12 mrv_26 (k * 6 + s) (congrArg nI (by omega)) (by omega) (by decide) _ msv_26 dX6_bestPlaces_51 ?_
      refine z_iincN C [(2, .int (nI (s + 1))), (0, .ref (ad 0)), (1, .int (nI k))] dX6_bestPlaces_52 rfl (by decide) rfl ?_
      refine z_goto C 12 dX6_bestPlaces_55 (by decide) ?_
      exact z_to (ih12) ((mw_eq rfl rfl rfl rfl rfl rfl rfl rfl rfl rfl rfl rfl rfl rfl rfl rfl rfl rfl rfl rfl rfl rfl rfl rfl rfl rfl rfl rfl rfl rfl rfl rfl)) (rfl)

set_option maxHeartbeats 4000000 in
set_option maxRecDepth 100000 in
theorem c_X6_places_1 (l : Launch) (θ : zH) (ad : Nat → Nat) (n : Nat → Nat) (g : Int32) (r : Nat → Nat → Int32) (w : Int32) (hW : n 3 ≤ 5) (h1 : ¬ w = (-1)) (hw : okN w (n 3) = false) : cI l yX6_places wsX6_places 4 θ [.ref (ad 0), .int w] (MW θ ad n g r) (fun r0 Y => r0 = (-1000000001) ∧ Y = MW θ ad n g r) := by
  refine z_cI (by decide) rfl rfl (Nat.le_of_ble_eq_true rfl) (lv := [(0, .ref (ad 0)), (1, .int w)]) rfl (fun κ C E => ?_)
  refine z_iload_n C dX6_places_0 rfl (show zlk _ 1 = some (.int w) from rfl) ?_
  refine z_iconst C (v := (-1)) dX6_places_1 (by decide) ?_
  refine z_icmp_eq C 16 dX6_places_2 (by decide) (fun h2n_1 => absurd h2n_1 (h1)) (fun h2n_1 => ?_)
  refine z_aload_n C dX6_places_5 rfl (show zlk _ 0 = some (.ref (ad 0)) from rfl) ?_
  refine z_iload_n C dX6_places_6 rfl (show zlk _ 1 = some (.int w) from rfl) ?_
  refine z_callVi C (As := [.int w]) (rest := []) (c_X6_isWindow l θ ad n g r w (by omega)) gX6_places_X6_isWindow rfl 1 (by decide +kernel) (by decide) (by decide) 0 rfl rfl rfl rfl rfl (Nat.le_of_ble_eq_true rfl) dX6_places_7 ?_
  rintro _ _ ⟨rfl, rfl⟩
  refine z_if_neB C 16 dX6_places_10 (by decide) (fun h => absurd h (by rw [hw]; decide)) (fun _ => ?_)
  refine z_ldc C (v := (-1000000001)) (by decide +kernel) dX6_places_13 ?_
  exact E _ _ _ _ (⟨rfl, rfl⟩) (rfl) dX6_places_15

set_option maxHeartbeats 4000000 in
set_option maxRecDepth 100000 in
theorem c_X6_places_2 (l : Launch) (θ : zH) (ad : Nat → Nat) (n : Nat → Nat) (g : Int32) (r : Nat → Nat → Int32)  (hW : n 3 ≤ 5) (hS : n 1 ≤ 6) (h0 : n 0 ≤ 30) : cI l yX6_places wsX6_places 4 θ [.ref (ad 0), .int (-1)] (MW θ ad n g r) (fun r0 Y => r0 = (pq (n 1) (n 3) (fiO (m_pv (n 0) (r 2) (r 7)) (n 1) (r 26) (n 3)) (n 3) 0 (nI 0) (nI 0) 0 (chP (n 1) (fun _ => 0)) ((-1), r 25)).1 ∧ ∃ tr, Y = MW θ ad n g (rv (r 2) (r 4) (r 6) (r 7) (r 9) (r 17) (r 19) (r 21) (r 23) tr ((pq (n 1) (n 3) (fiO (m_pv (n 0) (r 2) (r 7)) (n 1) (r 26) (n 3)) (n 3) 0 (nI 0) (nI 0) 0 (chP (n 1) (fun _ => 0)) ((-1), r 25)).2) (fiO (m_pv (n 0) (r 2) (r 7)) (n 1) (r 26) (n 3)) (r 28) (r 29) (r 30) (r 31) (r 32))) := by
  refine z_cI (by decide) rfl rfl (Nat.le_of_ble_eq_true rfl) (lv := [(0, .ref (ad 0)), (1, .int (-1))]) rfl (fun κ C E => ?_)
  refine z_iload_n C dX6_places_0 rfl (show zlk _ 1 = some (.int (-1)) from rfl) ?_
  refine z_iconst C (v := (-1)) dX6_places_1 (by decide) ?_
  refine z_icmp_eq C 16 dX6_places_2 (by decide) (fun h2t_1 => ?_) (fun h2t_1 => absurd h2t_1 (fun z => z rfl))
  refine z_aload_n C dX6_places_16 rfl (show zlk _ 0 = some (.ref (ad 0)) from rfl) ?_
  refine z_callVi C (As := []) (rest := []) (c_X6_bestPlaces l θ ad n g r hS hW h0) gX6_places_X6_bestPlaces rfl 0 (by decide +kernel) (by decide) (by decide) 0 rfl rfl rfl rfl rfl (Nat.le_of_ble_eq_true rfl) dX6_places_17 ?_
  rintro _ _ ⟨rfl, tr1, rfl⟩
  refine z_X (Y := MW θ ad n g (rv (r 2) (r 4) (r 6) (r 7) (r 9) (r 17) (r 19) (r 21) (r 23) tr1 ((pq (n 1) (n 3) (fiO (m_pv (n 0) (r 2) (r 7)) (n 1) (r 26) (n 3)) (n 3) 0 (nI 0) (nI 0) 0 (chP (n 1) (fun _ => 0)) ((-1), r 25)).2) (fiO (m_pv (n 0) (r 2) (r 7)) (n 1) (r 26) (n 3)) (r 28) (r 29) (r 30) (r 31) (r 32))) (mw_eq rfl rfl rfl rfl rfl rfl rfl rfl rfl rfl rfl rfl rfl rfl rfl rfl rfl rfl rfl rfl rfl rfl rfl rfl rfl rfl rfl rfl rfl rfl rfl rfl) ?_
  refine z_istore_n C [(2, .int ((pq (n 1) (n 3) (fiO (m_pv (n 0) (r 2) (r 7)) (n 1) (r 26) (n 3)) (n 3) 0 (nI 0) (nI 0) 0 (chP (n 1) (fun _ => 0)) ((-1), r 25)).1)), (0, .ref (ad 0)), (1, .int (-1))] dX6_places_20 rfl (by decide) rfl ?_
  refine z_iload_n C dX6_places_21 rfl (show zlk _ 1 = some (.int (-1)) from rfl) ?_
  refine z_iconst C (v := (-1)) dX6_places_22 (by decide) ?_
  refine z_icmp_ne C 30 dX6_places_23 (by decide) (fun h23n_2 => absurd h23n_2 (fun z => z rfl)) (fun h23n_2 => ?_)
  refine z_iload_n C dX6_places_26 rfl (show zlk _ 2 = some (.int ((pq (n 1) (n 3) (fiO (m_pv (n 0) (r 2) (r 7)) (n 1) (r 26) (n 3)) (n 3) 0 (nI 0) (nI 0) 0 (chP (n 1) (fun _ => 0)) ((-1), r 25)).1)) from rfl) ?_
  refine z_goto C 36 dX6_places_27 (by decide) ?_
  exact E _ _ _ _ (⟨rfl, _, (mw_eq rfl rfl rfl rfl rfl rfl rfl rfl rfl rfl rfl rfl rfl rfl rfl rfl rfl rfl rfl rfl rfl rfl rfl rfl rfl rfl rfl rfl rfl rfl rfl rfl)⟩) (rfl) dX6_places_36

set_option maxHeartbeats 4000000 in
set_option maxRecDepth 100000 in
theorem c_X6_places_3 (l : Launch) (θ : zH) (ad : Nat → Nat) (n : Nat → Nat) (g : Int32) (r : Nat → Nat → Int32) (w : Nat) (hW : n 3 ≤ 5) (hS : n 1 ≤ 6) (h0 : n 0 ≤ 30) (hw : w < n 3) : cI l yX6_places wsX6_places 4 θ [.ref (ad 0), .int (nI w)] (MW θ ad n g r) (fun r0 Y => r0 = (pq (n 1) (n 3) (fiO (m_pv (n 0) (r 2) (r 7)) (n 1) (r 26) (n 3)) (n 3) 0 (nI 0) (nI 0) 0 (chP (n 1) (fun _ => 0)) ((-1), r 25)).2 w ∧ ∃ tr, Y = MW θ ad n g (rv (r 2) (r 4) (r 6) (r 7) (r 9) (r 17) (r 19) (r 21) (r 23) tr ((pq (n 1) (n 3) (fiO (m_pv (n 0) (r 2) (r 7)) (n 1) (r 26) (n 3)) (n 3) 0 (nI 0) (nI 0) 0 (chP (n 1) (fun _ => 0)) ((-1), r 25)).2) (fiO (m_pv (n 0) (r 2) (r 7)) (n 1) (r 26) (n 3)) (r 28) (r 29) (r 30) (r 31) (r 32))) := by
  refine z_cI (by decide) rfl rfl (Nat.le_of_ble_eq_true rfl) (lv := [(0, .ref (ad 0)), (1, .int (nI w))]) rfl (fun κ C E => ?_)
  have hin : ∀ w ∈ wsX60, w ∈ wsX6_places := by decide +kernel
  refine z_iload_n C dX6_places_0 rfl (show zlk _ 1 = some (.int (nI w)) from rfl) ?_
  refine z_iconst C (v := (-1)) dX6_places_1 (by decide) ?_
  refine z_icmp_eq C 16 dX6_places_2 (by decide) (fun h2n_1 => absurd h2n_1 (nI_nm1 (by omega))) (fun h2n_1 => ?_)
  refine z_aload_n C dX6_places_5 rfl (show zlk _ 0 = some (.ref (ad 0)) from rfl) ?_
  refine z_iload_n C dX6_places_6 rfl (show zlk _ 1 = some (.int (nI w)) from rfl) ?_
  refine z_callVi C (As := [.int (nI w)]) (rest := []) (c_X6_isWindow l θ ad n g r (nI w) (by omega)) gX6_places_X6_isWindow rfl 1 (by decide +kernel) (by decide) (by decide) 0 rfl rfl rfl rfl rfl (Nat.le_of_ble_eq_true rfl) dX6_places_7 ?_
  rintro _ _ ⟨rfl, rfl⟩
  refine z_if_neB C 16 dX6_places_10 (by decide) (fun _ => ?_) (fun h => absurd h (by rw [okN_lt hw (by omega)]; decide))
  refine z_aload_n C dX6_places_16 rfl (show zlk _ 0 = some (.ref (ad 0)) from rfl) ?_
  refine z_callVi C (As := []) (rest := []) (c_X6_bestPlaces l θ ad n g r hS hW h0) gX6_places_X6_bestPlaces rfl 0 (by decide +kernel) (by decide) (by decide) 0 rfl rfl rfl rfl rfl (Nat.le_of_ble_eq_true rfl) dX6_places_17 ?_
  rintro _ _ ⟨rfl, tr1, rfl⟩
  refine z_X (Y := MW θ ad n g (rv (r 2) (r 4) (r 6) (r 7) (r 9) (r 17) (r 19) (r 21) (r 23) tr1 ((pq (n 1) (n 3) (fiO (m_pv (n 0) (r 2) (r 7)) (n 1) (r 26) (n 3)) (n 3) 0 (nI 0) (nI 0) 0 (chP (n 1) (fun _ => 0)) ((-1), r 25)).2) (fiO (m_pv (n 0) (r 2) (r 7)) (n 1) (r 26) (n 3)) (r 28) (r 29) (r 30) (r 31) (r 32))) (mw_eq rfl rfl rfl rfl rfl rfl rfl rfl rfl rfl rfl rfl rfl rfl rfl rfl rfl rfl rfl rfl rfl rfl rfl rfl rfl rfl rfl rfl rfl rfl rfl rfl) ?_
  refine z_istore_n C [(2, .int ((pq (n 1) (n 3) (fiO (m_pv (n 0) (r 2) (r 7)) (n 1) (r 26) (n 3)) (n 3) 0 (nI 0) (nI 0) 0 (chP (n 1) (fun _ => 0)) ((-1), r 25)).1)), (0, .ref (ad 0)), (1, .int (nI w))] dX6_places_20 rfl (by decide) rfl ?_
  refine z_iload_n C dX6_places_21 rfl (show zlk _ 1 = some (.int (nI w)) from rfl) ?_
  refine z_iconst C (v := (-1)) dX6_places_22 (by decide) ?_
  refine z_icmp_ne C 30 dX6_places_23 (by decide) (fun h23t_2 => ?_) (fun h23t_2 => absurd h23t_2 (nI_nm1 (by omega)))
  refine z_aload_n C dX6_places_30 rfl (show zlk _ 0 = some (.ref (ad 0)) from rfl) ?_
  refine z_mg C hin 25 (by decide) (by decide +kernel) (v := .ref (ad 25)) mf_25 dX6_places_31 ?_
  refine z_iload_n C dX6_places_34 rfl (show zlk _ 1 = some (.int (nI w)) from rfl) ?_
  refine z_iald C (f := ((pq (n 1) (n 3) (fiO (m_pv (n 0) (r 2) (r 7)) (n 1) (r 26) (n 3)) (n 3) 0 (nI 0) (nI 0) 0 (chP (n 1) (fun _ => 0)) ((-1), r 25)).2)) 11 mrv_25 w rfl (by omega) (by decide) dX6_places_35 ?_
  exact E _ _ _ _ (⟨rfl, _, (mw_eq rfl rfl rfl rfl rfl rfl rfl rfl rfl rfl rfl rfl rfl rfl rfl rfl rfl rfl rfl rfl rfl rfl rfl rfl rfl rfl rfl rfl rfl rfl rfl rfl)⟩) (rfl) dX6_places_36

