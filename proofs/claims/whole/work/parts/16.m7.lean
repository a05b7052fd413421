set_option maxHeartbeats 4000000 in
set_option maxRecDepth 100000 in
theorem c_X6_like_1 (l : Launch) (θ : zH) (ad : Nat → Nat) (n : Nat → Nat) (g : Int32) (r : Nat → Nat → Int32) (s set : Int32) (hS : n 1 ≤ 6) (hj : okN s (n 1) = false) : cI l yX6_like wsX6_like 2 θ [.ref (ad 0), .int s, .int set] (MW θ ad n g r) (fun r0 Y => r0 = (-1000000001) ∧ Y = MW θ ad n g r) := by
  refine z_cI (by decide) rfl rfl (Nat.le_of_ble_eq_true rfl) (lv := [(0, .ref (ad 0)), (1, .int s), (2, .int set)]) rfl (fun κ C E => ?_)
  refine z_aload_n C dX6_like_0 rfl (show zlk _ 0 = some (.ref (ad 0)) from rfl) ?_
  refine z_iload_n C dX6_like_1 rfl (show zlk _ 1 = some (.int s) from rfl) ?_
  refine z_callVi C (As := [.int s]) (rest := []) (c_X6_isSitter l θ ad n g r s (by omega)) gX6_like_X6_isSitter rfl 1 (by decide +kernel) (by decide) (by decide) 0 rfl rfl rfl rfl rfl (Nat.le_of_ble_eq_true rfl) dX6_like_2 ?_
  rintro _ _ ⟨rfl, rfl⟩
  refine z_if_neB C 11 dX6_like_5 (by decide) (fun h => absurd h (by rw [hj]; decide)) (fun _ => ?_)
  refine z_ldc C (v := (-1000000001)) (by decide +kernel) dX6_like_8 ?_
  exact E _ _ _ _ (⟨rfl, rfl⟩) (rfl) dX6_like_10

set_option maxHeartbeats 4000000 in
set_option maxRecDepth 100000 in
theorem c_X6_like_2 (l : Launch) (θ : zH) (ad : Nat → Nat) (n : Nat → Nat) (g : Int32) (r : Nat → Nat → Int32) (s set : Int32) (hS : n 1 ≤ 6) (hj : okN s (n 1) = true) (hs : okN set 1073741824 = false) : cI l yX6_like wsX6_like 2 θ [.ref (ad 0), .int s, .int set] (MW θ ad n g r) (fun r0 Y => r0 = (-1000000002) ∧ Y = MW θ ad n g r) := by
  refine z_cI (by decide) rfl rfl (Nat.le_of_ble_eq_true rfl) (lv := [(0, .ref (ad 0)), (1, .int s), (2, .int set)]) rfl (fun κ C E => ?_)
  refine z_aload_n C dX6_like_0 rfl (show zlk _ 0 = some (.ref (ad 0)) from rfl) ?_
  refine z_iload_n C dX6_like_1 rfl (show zlk _ 1 = some (.int s) from rfl) ?_
  refine z_callVi C (As := [.int s]) (rest := []) (c_X6_isSitter l θ ad n g r s (by omega)) gX6_like_X6_isSitter rfl 1 (by decide +kernel) (by decide) (by decide) 0 rfl rfl rfl rfl rfl (Nat.le_of_ble_eq_true rfl) dX6_like_2 ?_
  rintro _ _ ⟨rfl, rfl⟩
  refine z_if_neB C 11 dX6_like_5 (by decide) (fun _ => ?_) (fun h => absurd h (by rw [hj]; decide))
  refine z_iload_n C dX6_like_11 rfl (show zlk _ 2 = some (.int set) from rfl) ?_
  refine z_i2l C dX6_like_12 ?_
  refine z_lconst C (v := 0) dX6_like_13 (by decide) ?_
  refine z_ldc2 C (v := 1073741823) (by decide +kernel) dX6_like_14 ?_
  refine z_callSi C (As := [.long (Int32.toInt64 set), .long 0, .long (1073741823)]) (rest := []) (c_X6_in l θ _ (Int32.toInt64 set) 0 (1073741823)) gX6_like_X6_in rfl 3 (by decide +kernel) (by decide) (by decide) rfl rfl (Nat.le_of_ble_eq_true rfl) dX6_like_17 ?_
  rintro _ _ ⟨rfl, rfl⟩
  refine z_top (v' := .int (bI (okN set 1073741824))) (by rw [m_in_lit (N := 1073741824) (by decide)]) ?_
  refine z_if_eqB C 32 dX6_like_20 (by decide) (fun _ => ?_) (fun h => absurd h (by rw [hs]; decide))
  refine z_ldc C (v := (-1000000002)) (by decide +kernel) dX6_like_32 ?_
  exact E _ _ _ _ (⟨rfl, rfl⟩) (rfl) dX6_like_34

set_option maxHeartbeats 4000000 in
set_option maxRecDepth 100000 in
theorem c_X6_like_3 (l : Launch) (θ : zH) (ad : Nat → Nat) (n : Nat → Nat) (g : Int32) (r : Nat → Nat → Int32) (j : Nat) (set : Int32) (hS : n 1 ≤ 6) (hj : j < n 1) (hs : okN set 1073741824 = true) : cI l yX6_like wsX6_like 2 θ [.ref (ad 0), .int (nI j), .int set] (MW θ ad n g r) (fun r0 Y => r0 = nI 30 - m_ones (r 2 j ^^^ set) 30 ∧ Y = MW θ ad n g r) := by
  refine z_cI (by decide) rfl rfl (Nat.le_of_ble_eq_true rfl) (lv := [(0, .ref (ad 0)), (1, .int (nI j)), (2, .int set)]) rfl (fun κ C E => ?_)
  refine z_aload_n C dX6_like_0 rfl (show zlk _ 0 = some (.ref (ad 0)) from rfl) ?_
  refine z_iload_n C dX6_like_1 rfl (show zlk _ 1 = some (.int (nI j)) from rfl) ?_
  refine z_callVi C (As := [.int (nI j)]) (rest := []) (c_X6_isSitter l θ ad n g r (nI j) (by omega)) gX6_like_X6_isSitter rfl 1 (by decide +kernel) (by decide) (by decide) 0 rfl rfl rfl rfl rfl (Nat.le_of_ble_eq_true rfl) dX6_like_2 ?_
  rintro _ _ ⟨rfl, rfl⟩
  refine z_if_neB C 11 dX6_like_5 (by decide) (fun _ => ?_) (fun h => absurd h (by rw [okN_lt hj (by omega)]; decide))
  refine z_iload_n C dX6_like_11 rfl (show zlk _ 2 = some (.int set) from rfl) ?_
  refine z_i2l C dX6_like_12 ?_
  refine z_lconst C (v := 0) dX6_like_13 (by decide) ?_
  refine z_ldc2 C (v := 1073741823) (by decide +kernel) dX6_like_14 ?_
  refine z_callSi C (As := [.long (Int32.toInt64 set), .long 0, .long (1073741823)]) (rest := []) (c_X6_in l θ _ (Int32.toInt64 set) 0 (1073741823)) gX6_like_X6_in rfl 3 (by decide +kernel) (by decide) (by decide) rfl rfl (Nat.le_of_ble_eq_true rfl) dX6_like_17 ?_
  rintro _ _ ⟨rfl, rfl⟩
  refine z_top (v' := .int (bI (okN set 1073741824))) (by rw [m_in_lit (N := 1073741824) (by decide)]) ?_
  refine z_if_eqB C 32 dX6_like_20 (by decide) (fun h => absurd h (by rw [hs]; decide)) (fun _ => ?_)
  refine z_aload_n C dX6_like_23 rfl (show zlk _ 0 = some (.ref (ad 0)) from rfl) ?_
  refine z_iload_n C dX6_like_24 rfl (show zlk _ 1 = some (.int (nI j)) from rfl) ?_
  refine z_iload_n C dX6_like_25 rfl (show zlk _ 2 = some (.int set) from rfl) ?_
  refine z_callVi C (As := [.int (nI j), .int set]) (rest := []) (c_X6_likeBy l θ ad n g r j set (by omega)) gX6_like_X6_likeBy rfl 2 (by decide +kernel) (by decide) (by decide) 0 rfl rfl rfl rfl rfl (Nat.le_of_ble_eq_true rfl) dX6_like_26 ?_
  rintro _ _ ⟨rfl, rfl⟩
  refine z_goto C 34 dX6_like_29 (by decide) ?_
  exact E _ _ _ _ (⟨rfl, rfl⟩) (rfl) dX6_like_34

set_option maxHeartbeats 4000000 in
set_option maxRecDepth 100000 in
theorem c_X6_seenAs_1 (l : Launch) (θ : zH) (ad : Nat → Nat) (n : Nat → Nat) (g : Int32) (r : Nat → Nat → Int32) (set : Int32) (hs : okN set 1073741824 = false) : cI l yX6_seenAs wsX6_seenAs 2 θ [.ref (ad 0), .int set] (MW θ ad n g r) (fun r0 Y => r0 = (-1000000002) ∧ Y = MW θ ad n g r) := by
  refine z_cI (by decide) rfl rfl (Nat.le_of_ble_eq_true rfl) (lv := [(0, .ref (ad 0)), (1, .int set)]) rfl (fun κ C E => ?_)
  refine z_iload_n C dX6_seenAs_0 rfl (show zlk _ 1 = some (.int set) from rfl) ?_
  refine z_i2l C dX6_seenAs_1 ?_
  refine z_lconst C (v := 0) dX6_seenAs_2 (by decide) ?_
  refine z_ldc2 C (v := 1073741823) (by decide +kernel) dX6_seenAs_3 ?_
  refine z_callSi C (As := [.long (Int32.toInt64 set), .long 0, .long (1073741823)]) (rest := []) (c_X6_in l θ _ (Int32.toInt64 set) 0 (1073741823)) gX6_seenAs_X6_in rfl 3 (by decide +kernel) (by decide) (by decide) rfl rfl (Nat.le_of_ble_eq_true rfl) dX6_seenAs_6 ?_
  rintro _ _ ⟨rfl, rfl⟩
  refine z_top (v' := .int (bI (okN set 1073741824))) (by rw [m_in_lit (N := 1073741824) (by decide)]) ?_
  refine z_if_eqB C 22 dX6_seenAs_9 (by decide) (fun _ => ?_) (fun h => absurd h (by rw [hs]; decide))
  refine z_ldc C (v := (-1000000002)) (by decide +kernel) dX6_seenAs_22 ?_
  exact E _ _ _ _ (⟨rfl, rfl⟩) (rfl) dX6_seenAs_24

set_option maxHeartbeats 4000000 in
set_option maxRecDepth 100000 in
theorem c_X6_seenAs_2 (l : Launch) (θ : zH) (ad : Nat → Nat) (n : Nat → Nat) (g : Int32) (r : Nat → Nat → Int32) (set : Int32) (hS : n 1 ≤ 6) (hs : okN set 1073741824 = true) : cI l yX6_seenAs wsX6_seenAs 2 θ [.ref (ad 0), .int set] (MW θ ad n g r) (fun r0 Y => r0 = (m_ml (r 2) set (nI 1073741823) (n 1)).1 ∧ Y = MW θ ad n g r) := by
  refine z_cI (by decide) rfl rfl (Nat.le_of_ble_eq_true rfl) (lv := [(0, .ref (ad 0)), (1, .int set)]) rfl (fun κ C E => ?_)
  refine z_iload_n C dX6_seenAs_0 rfl (show zlk _ 1 = some (.int set) from rfl) ?_
  refine z_i2l C dX6_seenAs_1 ?_
  refine z_lconst C (v := 0) dX6_seenAs_2 (by decide) ?_
  refine z_ldc2 C (v := 1073741823) (by decide +kernel) dX6_seenAs_3 ?_
  refine z_callSi C (As := [.long (Int32.toInt64 set), .long 0, .long (1073741823)]) (rest := []) (c_X6_in l θ _ (Int32.toInt64 set) 0 (1073741823)) gX6_seenAs_X6_in rfl 3 (by decide +kernel) (by decide) (by decide) rfl rfl (Nat.le_of_ble_eq_true rfl) dX6_seenAs_6 ?_
  rintro _ _ ⟨rfl, rfl⟩
  refine z_top (v' := .int (bI (okN set 1073741824))) (by rw [m_in_lit (N := 1073741824) (by decide)]) ?_
  refine z_if_eqB C 22 dX6_seenAs_9 (by decide) (fun h => absurd h (by rw [hs]; decide)) (fun _ => ?_)
  refine z_aload_n C dX6_seenAs_12 rfl (show zlk _ 0 = some (.ref (ad 0)) from rfl) ?_
  refine z_iload_n C dX6_seenAs_13 rfl (show zlk _ 1 = some (.int set) from rfl) ?_
  refine z_ldc C (v := 1073741823) (by decide +kernel) dX6_seenAs_14 ?_
  refine z_top (v' := .int (nI 1073741823)) rfl ?_
  refine z_callVi C (As := [.int set, .int (nI 1073741823)]) (rest := []) (c_X6_mostLike l θ ad n g r set (nI 1073741823) (hS)) gX6_seenAs_X6_mostLike rfl 2 (by decide +kernel) (by decide) (by decide) 0 rfl rfl rfl rfl rfl (Nat.le_of_ble_eq_true rfl) dX6_seenAs_16 ?_
  rintro _ _ ⟨rfl, rfl⟩
  refine z_goto C 24 dX6_seenAs_19 (by decide) ?_
  exact E _ _ _ _ (⟨rfl, rfl⟩) (rfl) dX6_seenAs_24

def m_bi (n : Nat → Nat) (r : Nat → Nat → Int32) (j x : Nat) : Int32 := nI 30 - m_ones (r 2 j ^^^ m_drawn r (n 0) j (nI x + r 7 1)) 30
def m_bl (n : Nat → Nat) (r : Nat → Nat → Int32) (j : Nat) : Nat → Int32 × Int32
  | 0 => (nI 0, (-1))
  | x + 1 => if m_bi n r j x ≤ (m_bl n r j x).2 then m_bl n r j x else (nI x, m_bi n r j x)
set_option maxHeartbeats 4000000 in
set_option maxRecDepth 100000 in
theorem c_X6_bestLamp_1 (l : Launch) (θ : zH) (ad : Nat → Nat) (n : Nat → Nat) (g : Int32) (r : Nat → Nat → Int32) (w s x : Int32) (hW : n 3 ≤ 5) (hw : okN w (n 3) = false) : cI l yX6_bestLamp wsX6_bestLamp 3 θ [.ref (ad 0), .int w, .int s, .int x] (MW θ ad n g r) (fun r0 Y => r0 = (-1000000001) ∧ Y = MW θ ad n g r) := by
  refine z_cI (by decide) rfl rfl (Nat.le_of_ble_eq_true rfl) (lv := [(0, .ref (ad 0)), (1, .int w), (2, .int s), (3, .int x)]) rfl (fun κ C E => ?_)
  refine z_aload_n C dX6_bestLamp_0 rfl (show zlk _ 0 = some (.ref (ad 0)) from rfl) ?_
  refine z_iload_n C dX6_bestLamp_1 rfl (show zlk _ 1 = some (.int w) from rfl) ?_
  refine z_callVi C (As := [.int w]) (rest := []) (c_X6_isWindow l θ ad n g r w (by omega)) gX6_bestLamp_X6_isWindow rfl 1 (by decide +kernel) (by decide) (by decide) 0 rfl rfl rfl rfl rfl (Nat.le_of_ble_eq_true rfl) dX6_bestLamp_2 ?_
  rintro _ _ ⟨rfl, rfl⟩
  refine z_if_eqB C 16 dX6_bestLamp_5 (by decide) (fun _ => ?_) (fun h => absurd h (by rw [hw]; decide))
  refine z_ldc C (v := (-1000000001)) (by decide +kernel) dX6_bestLamp_16 ?_
  exact E _ _ _ _ (⟨rfl, rfl⟩) (rfl) dX6_bestLamp_18

set_option maxHeartbeats 4000000 in
set_option maxRecDepth 100000 in
theorem c_X6_bestLamp_2 (l : Launch) (θ : zH) (ad : Nat → Nat) (n : Nat → Nat) (g : Int32) (r : Nat → Nat → Int32) (w s x : Int32) (hW : n 3 ≤ 5) (hS : n 1 ≤ 6) (hw : okN w (n 3) = true) (hj : okN s (n 1) = false) : cI l yX6_bestLamp wsX6_bestLamp 3 θ [.ref (ad 0), .int w, .int s, .int x] (MW θ ad n g r) (fun r0 Y => r0 = (-1000000001) ∧ Y = MW θ ad n g r) := by
  refine z_cI (by decide) rfl rfl (Nat.le_of_ble_eq_true rfl) (lv := [(0, .ref (ad 0)), (1, .int w), (2, .int s), (3, .int x)]) rfl (fun κ C E => ?_)
  refine z_aload_n C dX6_bestLamp_0 rfl (show zlk _ 0 = some (.ref (ad 0)) from rfl) ?_
  refine z_iload_n C dX6_bestLamp_1 rfl (show zlk _ 1 = some (.int w) from rfl) ?_
  refine z_callVi C (As := [.int w]) (rest := []) (c_X6_isWindow l θ ad n g r w (by omega)) gX6_bestLamp_X6_isWindow rfl 1 (by decide +kernel) (by decide) (by decide) 0 rfl rfl rfl rfl rfl (Nat.le_of_ble_eq_true rfl) dX6_bestLamp_2 ?_
  rintro _ _ ⟨rfl, rfl⟩
  refine z_if_eqB C 16 dX6_bestLamp_5 (by decide) (fun h => absurd h (by rw [hw]; decide)) (fun _ => ?_)
  refine z_aload_n C dX6_bestLamp_8 rfl (show zlk _ 0 = some (.ref (ad 0)) from rfl) ?_
  refine z_iload_n C dX6_bestLamp_9 rfl (show zlk _ 2 = some (.int s) from rfl) ?_
  refine z_callVi C (As := [.int s]) (rest := []) (c_X6_isSitter l θ ad n g r s (by omega)) gX6_bestLamp_X6_isSitter rfl 1 (by decide +kernel) (by decide) (by decide) 0 rfl rfl rfl rfl rfl (Nat.le_of_ble_eq_true rfl) dX6_bestLamp_10 ?_
  rintro _ _ ⟨rfl, rfl⟩
  refine z_if_neB C 19 dX6_bestLamp_13 (by decide) (fun h => absurd h (by rw [hj]; decide)) (fun _ => ?_)
  refine z_ldc C (v := (-1000000001)) (by decide +kernel) dX6_bestLamp_16 ?_
  exact E _ _ _ _ (⟨rfl, rfl⟩) (rfl) dX6_bestLamp_18

set_option maxHeartbeats 4000000 in
set_option maxRecDepth 100000 in
theorem c_X6_bestLamp_3 (l : Launch) (θ : zH) (ad : Nat → Nat) (n : Nat → Nat) (g : Int32) (r : Nat → Nat → Int32) (w s x : Int32) (hW : n 3 ≤ 5) (hS : n 1 ≤ 6) (hw : okN w (n 3) = true) (hj : okN s (n 1) = true) (hx : okN x 2 = false) : cI l yX6_bestLamp wsX6_bestLamp 3 θ [.ref (ad 0), .int w, .int s, .int x] (MW θ ad n g r) (fun r0 Y => r0 = (-1000000002) ∧ Y = MW θ ad n g r) := by
  refine z_cI (by decide) rfl rfl (Nat.le_of_ble_eq_true rfl) (lv := [(0, .ref (ad 0)), (1, .int w), (2, .int s), (3, .int x)]) rfl (fun κ C E => ?_)
  refine z_aload_n C dX6_bestLamp_0 rfl (show zlk _ 0 = some (.ref (ad 0)) from rfl) ?_
  refine z_iload_n C dX6_bestLamp_1 rfl (show zlk _ 1 = some (.int w) from rfl) ?_
  refine z_callVi C (As := [.int w]) (rest := []) (c_X6_isWindow l θ ad n g r w (by omega)) gX6_bestLamp_X6_isWindow rfl 1 (by decide +kernel) (by decide) (by decide) 0 rfl rfl rfl rfl rfl (Nat.le_of_ble_eq_true rfl) dX6_bestLamp_2 ?_
  rintro _ _ ⟨rfl, rfl⟩
  refine z_if_eqB C 16 dX6_bestLamp_5 (by decide) (fun h => absurd h (by rw [hw]; decide)) (fun _ => ?_)
  refine z_aload_n C dX6_bestLamp_8 rfl (show zlk _ 0 = some (.ref (ad 0)) from rfl) ?_
  refine z_iload_n C dX6_bestLamp_9 rfl (show zlk _ 2 = some (.int s) from rfl) ?_
  refine z_callVi C (As := [.int s]) (rest := []) (c_X6_isSitter l θ ad n g r s (by omega)) gX6_bestLamp_X6_isSitter rfl 1 (by decide +kernel) (by decide) (by decide) 0 rfl rfl rfl rfl rfl (Nat.le_of_ble_eq_true rfl) dX6_bestLamp_10 ?_
  rintro _ _ ⟨rfl, rfl⟩
  refine z_if_neB C 19 dX6_bestLamp_13 (by decide) (fun _ => ?_) (fun h => absurd h (by rw [hj]; decide))
  refine z_iload_n C dX6_bestLamp_19 rfl (show zlk _ 3 = some (.int x) from rfl) ?_
  refine z_i2l C dX6_bestLamp_20 ?_
  refine z_lconst C (v := 0) dX6_bestLamp_21 (by decide) ?_
  refine z_lconst C (v := 1) dX6_bestLamp_22 (by decide) ?_
  refine z_callSi C (As := [.long (Int32.toInt64 x), .long 0, .long 1]) (rest := []) (c_X6_in l θ _ (Int32.toInt64 x) 0 1) gX6_bestLamp_X6_in rfl 3 (by decide +kernel) (by decide) (by decide) rfl rfl (Nat.le_of_ble_eq_true rfl) dX6_bestLamp_23 ?_
  rintro _ _ ⟨rfl, rfl⟩
  refine z_top (v' := .int (bI (okN x 2))) (by rw [m_in_lit (N := 2) (by decide)]) ?_
  refine z_if_neB C 32 dX6_bestLamp_26 (by decide) (fun h => absurd h (by rw [hx]; decide)) (fun _ => ?_)
  refine z_ldc C (v := (-1000000002)) (by decide +kernel) dX6_bestLamp_29 ?_
  exact E _ _ _ _ (⟨rfl, rfl⟩) (rfl) dX6_bestLamp_31

set_option maxHeartbeats 4000000 in
set_option maxRecDepth 100000 in
theorem c_X6_bestLamp_40 (l : Launch) (θ : zH) (ad : Nat → Nat) (n : Nat → Nat) (g : Int32) (r : Nat → Nat → Int32) (w : Int32) (j : Nat) (hW : n 3 ≤ 5) (hS : n 1 ≤ 6) (hw : okN w (n 3) = true) (hj : j < n 1) (h0 : n 0 ≤ 30) : cI l yX6_bestLamp wsX6_bestLamp 3 θ [.ref (ad 0), .int w, .int (nI j), .int (nI 0)] (MW θ ad n g r) (fun r0 Y => r0 = (m_bl n r j 6).1 ∧ Y = MW θ ad n g r) := by
  refine z_cI (by decide) rfl rfl (Nat.le_of_ble_eq_true rfl) (lv := [(0, .ref (ad 0)), (1, .int w), (2, .int (nI j)), (3, .int (nI 0))]) rfl (fun κ C E => ?_)
  have hin : ∀ w ∈ wsX60, w ∈ wsX6_bestLamp := by decide +kernel
  refine z_aload_n C dX6_bestLamp_0 rfl (show zlk _ 0 = some (.ref (ad 0)) from rfl) ?_
  refine z_iload_n C dX6_bestLamp_1 rfl (show zlk _ 1 = some (.int w) from rfl) ?_
  refine z_callVi C (As := [.int w]) (rest := []) (c_X6_isWindow l θ ad n g r w (by omega)) gX6_bestLamp_X6_isWindow rfl 1 (by decide +kernel) (by decide) (by decide) 0 rfl rfl rfl rfl rfl (Nat.le_of_ble_eq_true rfl) dX6_bestLamp_2 ?_
  rintro _ _ ⟨rfl, rfl⟩
  refine z_if_eqB C 16 dX6_bestLamp_5 (by decide) (fun h => absurd h (by rw [hw]; decide)) (fun _ => ?_)
  refine z_aload_n C dX6_bestLamp_8 rfl (show zlk _ 0 = some (.ref (ad 0)) from rfl) ?_
  refine z_iload_n C dX6_bestLamp_9 rfl (show zlk _ 2 = some (.int (nI j)) from rfl) ?_
  refine z_callVi C (As := [.int (nI j)]) (rest := []) (c_X6_isSitter l θ ad n g r (nI j) (by omega)) gX6_bestLamp_X6_isSitter rfl 1 (by decide +kernel) (by decide) (by decide) 0 rfl rfl rfl rfl rfl (Nat.le_of_ble_eq_true rfl) dX6_bestLamp_10 ?_
  rintro _ _ ⟨rfl, rfl⟩
  refine z_if_neB C 19 dX6_bestLamp_13 (by decide) (fun _ => ?_) (fun h => absurd h (by rw [okN_lt hj (by omega)]; decide))
  refine z_iload_n C dX6_bestLamp_19 rfl (show zlk _ 3 = some (.int (nI 0)) from rfl) ?_
  refine z_i2l C dX6_bestLamp_20 ?_
  refine z_lconst C (v := 0) dX6_bestLamp_21 (by decide) ?_
  refine z_lconst C (v := 1) dX6_bestLamp_22 (by decide) ?_
  refine z_callSi C (As := [.long (Int32.toInt64 (nI 0)), .long 0, .long 1]) (rest := []) (c_X6_in l θ _ (Int32.toInt64 (nI 0)) 0 1) gX6_bestLamp_X6_in rfl 3 (by decide +kernel) (by decide) (by decide) rfl rfl (Nat.le_of_ble_eq_true rfl) dX6_bestLamp_23 ?_
  rintro _ _ ⟨rfl, rfl⟩
  refine z_top (v' := .int (bI (okN (nI 0) 2))) (by rw [m_in_lit (N := 2) (by decide)]) ?_
  refine z_if_neB C 32 dX6_bestLamp_26 (by decide) (fun _ => ?_) (fun h => absurd h (by rw [okN_lt (by decide) (by decide)]; decide))
  refine z_iconst C (v := nI 0) dX6_bestLamp_32 (by decide) ?_
  refine z_istore C [(4, .int (nI 0)), (0, .ref (ad 0)), (1, .int w), (2, .int (nI j)), (3, .int (nI 0))] dX6_bestLamp_33 (by decide) rfl ?_
  refine z_iconst C (v := (-1)) dX6_bestLamp_35 (by decide) ?_
  refine z_istore C [(5, .int (-1)), (4, .int (nI 0)), (0, .ref (ad 0)), (1, .int w), (2, .int (nI j)), (3, .int (nI 0))] dX6_bestLamp_36 (by decide) rfl ?_
  refine z_iconst C (v := nI 0) dX6_bestLamp_38 (by decide) ?_
  refine z_istore C [(6, .int (nI 0)), (5, .int (-1)), (4, .int (nI 0)), (0, .ref (ad 0)), (1, .int w), (2, .int (nI j)), (3, .int (nI 0))] dX6_bestLamp_39 (by decide) rfl ?_
  refine z_lv (lv' := [(0, .ref (ad 0)), (2, .int (nI j)), (3, .int (nI 0)), (4, .int ((m_bl n r j 0).1)), (5, .int ((m_bl n r j 0).2)), (6, .int (nI 0))]) rfl ?_
  refine z_up (fun k => Z κ (MW θ ad n g r) 41 [(0, .ref (ad 0)), (2, .int (nI j)), (3, .int (nI 0)), (4, .int ((m_bl n r j k).1)), (5, .int ((m_bl n r j k).2)), (6, .int (nI k))] []) (6) ?_ ?_ 0 (by omega)
  · refine z_iload C dX6_bestLamp_41 (show zlk _ 6 = some (.int (nI 6)) from rfl) ?_
    refine z_bipush C (v := nI 6) dX6_bestLamp_43 (by decide) ?_
    refine z_icmp_geT C 107 dX6_bestLamp_45 (by decide) (by omega) (by omega) (by omega) ?_
    refine z_iload_n C dX6_bestLamp_107 rfl (show zlk _ 3 = some (.int (nI 0)) from rfl) ?_
    refine z_if_neN C 116 dX6_bestLamp_108 (by decide) (by decide) (fun h => absurd h (by decide)) (fun _ => ?_)
    refine z_iload C dX6_bestLamp_111 (show zlk _ 4 = some (.int ((m_bl n r j 6).1)) from rfl) ?_
    refine z_goto C 118 dX6_bestLamp_113 (by decide) ?_
    exact E _ _ _ _ (⟨rfl, rfl⟩) (rfl) dX6_bestLamp_118
  · intro k hk41 ih41
    refine z_iload C dX6_bestLamp_41 (show zlk _ 6 = some (.int (nI k)) from rfl) ?_
    refine z_bipush C (v := nI 6) dX6_bestLamp_43 (by decide) ?_
    refine z_icmp_geF C 107 dX6_bestLamp_45 (by decide) (by omega) (by omega) (by omega) ?_
    refine z_aload_n C dX6_bestLamp_48 rfl (show zlk _ 0 = some (.ref (ad 0)) from rfl) ?_
    refine z_iload_n C dX6_bestLamp_49 rfl (show zlk _ 2 = some (.int (nI j)) from rfl) ?_
    refine z_aload_n C dX6_bestLamp_50 rfl (show zlk _ 0 = some (.ref (ad 0)) from rfl) ?_
    refine z_iload_n C dX6_bestLamp_51 rfl (show zlk _ 2 = some (.int (nI j)) from rfl) ?_
    refine z_iload C dX6_bestLamp_52 (show zlk _ 6 = some (.int (nI k)) from rfl) ?_
    refine z_aload_n C dX6_bestLamp_54 rfl (show zlk _ 0 = some (.ref (ad 0)) from rfl) ?_
    refine z_mg C hin 7 (by decide) (by decide +kernel) (v := .ref (ad 7)) mf_7 dX6_bestLamp_55 ?_
    refine z_iconst C (v := nI 1) dX6_bestLamp_58 (by decide) ?_
    refine z_iald C (f := (r 7)) 4 mr_7 1 rfl (by omega) (by decide) dX6_bestLamp_59 ?_
    refine z_iadd C dX6_bestLamp_60 ?_
    refine z_callVi C (As := [.int (nI j), .int ((nI k) + ((r 7) 1))]) (rest := [.int (nI j), .ref (ad 0)]) (c_X6_drawnBy l θ ad n g r j ((nI k) + ((r 7) 1)) (by omega) (h0)) gX6_bestLamp_X6_drawnBy rfl 2 (by decide +kernel) (by decide) (by decide) 0 rfl rfl rfl rfl rfl (Nat.le_of_ble_eq_true rfl) dX6_bestLamp_61 ?_
    rintro _ _ ⟨rfl, rfl⟩
    refine z_callVi C (As := [.int (nI j), .int (m_drawn r (n 0) j ((nI k) + ((r 7) 1)))]) (rest := []) (c_X6_likeBy l θ ad n g r j (m_drawn r (n 0) j ((nI k) + ((r 7) 1))) (by omega)) gX6_bestLamp_X6_likeBy rfl 2 (by decide +kernel) (by decide) (by decide) 0 rfl rfl rfl rfl rfl (Nat.le_of_ble_eq_true rfl) dX6_bestLamp_64 ?_
    rintro _ _ ⟨rfl, rfl⟩
    refine z_top (v' := .int (m_bi n r j k)) (rfl) ?_
    refine z_istore C [(7, .int (m_bi n r j k)), (0, .ref (ad 0)), (2, .int (nI j)), (3, .int (nI 0)), (4, .int ((m_bl n r j k).1)), (5, .int ((m_bl n r j k).2)), (6, .int (nI k))] dX6_bestLamp_67 (by decide) rfl ?_
    refine z_iload C dX6_bestLamp_69 (show zlk _ 7 = some (.int (m_bi n r j k)) from rfl) ?_
    refine z_iload C dX6_bestLamp_71 (show zlk _ 5 = some (.int ((m_bl n r j k).2)) from rfl) ?_
    refine z_icmp_le C 81 dX6_bestLamp_73 (by decide) (fun h73t_1 => ?_) (fun h73n_1 => ?_)
    · refine z_iload C dX6_bestLamp_81 (show zlk _ 4 = some (.int ((m_bl n r j k).1)) from rfl) ?_
      refine z_istore C [(4, .int ((m_bl n r j k).1)), (7, .int (m_bi n r j k)), (0, .ref (ad 0)), (2, .int (nI j)), (3, .int (nI 0)), (5, .int ((m_bl n r j k).2)), (6, .int (nI k))] dX6_bestLamp_83 (by decide) rfl ?_
      refine z_iload C dX6_bestLamp_85 (show zlk _ 7 = some (.int (m_bi n r j k)) from rfl) ?_
      refine z_iload C dX6_bestLamp_87 (show zlk _ 5 = some (.int ((m_bl n r j k).2)) from rfl) ?_
      refine z_icmp_le C 97 dX6_bestLamp_89 (by decide) (fun h89t_2 => ?_) (fun h89t_2 => absurd h89t_2 (fun z => z h73t_1))
      refine z_iload C dX6_bestLamp_97 (show zlk _ 5 = some (.int ((m_bl n r j k).2)) from rfl) ?_
      refine z_istore C [(5, .int ((m_bl n r j k).2)), (4, .int ((m_bl n r j k).1)), (7, .int (m_bi n r j k)), (0, .ref (ad 0)), (2, .int (nI j)), (3, .int (nI 0)), (6, .int (nI k))] dX6_bestLamp_99 (by decide) rfl ?_
      refine z_iincN C [(6, .int (nI (k + 1))), (5, .int ((m_bl n r j k).2)), (4, .int ((m_bl n r j k).1)), (7, .int (m_bi n r j k)), (0, .ref (ad 0)), (2, .int (nI j)), (3, .int (nI 0))] dX6_bestLamp_101 rfl (by decide) rfl ?_
      refine z_goto C 41 dX6_bestLamp_104 (by decide) ?_
      exact z_to (ih41) (rfl) (by simp [zlk, m_bl, h73t_1, h89t_2])
    · refine z_iload C dX6_bestLamp_76 (show zlk _ 6 = some (.int (nI k)) from rfl) ?_
      refine z_goto C 83 dX6_bestLamp_78 (by decide) ?_
      refine z_istore C [(4, .int (nI k)), (7, .int (m_bi n r j k)), (0, .ref (ad 0)), (2, .int (nI j)), (3, .int (nI 0)), (5, .int ((m_bl n r j k).2)), (6, .int (nI k))] dX6_bestLamp_83 (by decide) rfl ?_
      refine z_iload C dX6_bestLamp_85 (show zlk _ 7 = some (.int (m_bi n r j k)) from rfl) ?_
      refine z_iload C dX6_bestLamp_87 (show zlk _ 5 = some (.int ((m_bl n r j k).2)) from rfl) ?_
      refine z_icmp_le C 97 dX6_bestLamp_89 (by decide) (fun h89n_3 => absurd h89n_3 (h73n_1)) (fun h89n_3 => ?_)
      refine z_iload C dX6_bestLamp_92 (show zlk _ 7 = some (.int (m_bi n r j k)) from rfl) ?_
      refine z_goto C 99 dX6_bestLamp_94 (by decide) ?_
      refine z_istore C [(5, .int (m_bi n r j k)), (4, .int (nI k)), (7, .int (m_bi n r j k)), (0, .ref (ad 0)), (2, .int (nI j)), (3, .int (nI 0)), (6, .int (nI k))] dX6_bestLamp_99 (by decide) rfl ?_
      refine z_iincN C [(6, .int (nI (k + 1))), (5, .int (m_bi n r j k)), (4, .int (nI k)), (7, .int (m_bi n r j k)), (0, .ref (ad 0)), (2, .int (nI j)), (3, .int (nI 0))] dX6_bestLamp_101 rfl (by decide) rfl ?_
      refine z_goto C 41 dX6_bestLamp_104 (by decide) ?_
      exact z_to (ih41) (rfl) (by simp [zlk, m_bl, h73n_1, h89n_3])

set_option maxHeartbeats 4000000 in
set_option maxRecDepth 100000 in
theorem c_X6_bestLamp_41 (l : Launch) (θ : zH) (ad : Nat → Nat) (n : Nat → Nat) (g : Int32) (r : Nat → Nat → Int32) (w : Int32) (j : Nat) (hW : n 3 ≤ 5) (hS : n 1 ≤ 6) (hw : okN w (n 3) = true) (hj : j < n 1) (h0 : n 0 ≤ 30) : cI l yX6_bestLamp wsX6_bestLamp 3 θ [.ref (ad 0), .int w, .int (nI j), .int (nI 1)] (MW θ ad n g r) (fun r0 Y => r0 = (m_bl n r j 6).2 ∧ Y = MW θ ad n g r) := by
  refine z_cI (by decide) rfl rfl (Nat.le_of_ble_eq_true rfl) (lv := [(0, .ref (ad 0)), (1, .int w), (2, .int (nI j)), (3, .int (nI 1))]) rfl (fun κ C E => ?_)
  have hin : ∀ w ∈ wsX60, w ∈ wsX6_bestLamp := by decide +kernel
  refine z_aload_n C dX6_bestLamp_0 rfl (show zlk _ 0 = some (.ref (ad 0)) from rfl) ?_
  refine z_iload_n C dX6_bestLamp_1 rfl (show zlk _ 1 = some (.int w) from rfl) ?_
  refine z_callVi C (As := [.int w]) (rest := []) (c_X6_isWindow l θ ad n g r w (by omega)) gX6_bestLamp_X6_isWindow rfl 1 (by decide +kernel) (by decide) (by decide) 0 rfl rfl rfl rfl rfl (Nat.le_of_ble_eq_true rfl) dX6_bestLamp_2 ?_
  rintro _ _ ⟨rfl, rfl⟩
  refine z_if_eqB C 16 dX6_bestLamp_5 (by decide) (fun h => absurd h (by rw [hw]; decide)) (fun _ => ?_)
  refine z_aload_n C dX6_bestLamp_8 rfl (show zlk _ 0 = some (.ref (ad 0)) from rfl) ?_
  refine z_iload_n C dX6_bestLamp_9 rfl (show zlk _ 2 = some (.int (nI j)) from rfl) ?_
  refine z_callVi C (As := [.int (nI j)]) (rest := []) (c_X6_isSitter l θ ad n g r (nI j) (by omega)) gX6_bestLamp_X6_isSitter rfl 1 (by decide +kernel) (by decide) (by decide) 0 rfl rfl rfl rfl rfl (Nat.le_of_ble_eq_true rfl) dX6_bestLamp_10 ?_
  rintro _ _ ⟨rfl, rfl⟩
  refine z_if_neB C 19 dX6_bestLamp_13 (by decide) (fun _ => ?_) (fun h => absurd h (by rw [okN_lt hj (by omega)]; decide))
  refine z_iload_n C dX6_bestLamp_19 rfl (show zlk _ 3 = some (.int (nI 1)) from rfl) ?_
  refine z_i2l C dX6_bestLamp_20 ?_
  refine z_lconst C (v := 0) dX6_bestLamp_21 (by decide) ?_
  refine z_lconst C (v := 1) dX6_bestLamp_22 (by decide) ?_
  refine z_callSi C (As := [.long (Int32.toInt64 (nI 1)), .long 0, .long 1]) (rest := []) (c_X6_in l θ _ (Int32.toInt64 (nI 1)) 0 1) gX6_bestLamp_X6_in rfl 3 (by decide +kernel) (by decide) (by decide) rfl rfl (Nat.le_of_ble_eq_true rfl) dX6_bestLamp_23 ?_
  rintro _ _ ⟨rfl, rfl⟩
  refine z_top (v' := .int (bI (okN (nI 1) 2))) (by rw [m_in_lit (N := 2) (by decide)]) ?_
  refine z_if_neB C 32 dX6_bestLamp_26 (by decide) (fun _ => ?_) (fun h => absurd h (by rw [okN_lt (by decide) (by decide)]; decide))
  refine z_iconst C (v := nI 0) dX6_bestLamp_32 (by decide) ?_
  refine z_istore C [(4, .int (nI 0)), (0, .ref (ad 0)), (1, .int w), (2, .int (nI j)), (3, .int (nI 1))] dX6_bestLamp_33 (by decide) rfl ?_
  refine z_iconst C (v := (-1)) dX6_bestLamp_35 (by decide) ?_
  refine z_istore C [(5, .int (-1)), (4, .int (nI 0)), (0, .ref (ad 0)), (1, .int w), (2, .int (nI j)), (3, .int (nI 1))] dX6_bestLamp_36 (by decide) rfl ?_
  refine z_iconst C (v := nI 0) dX6_bestLamp_38 (by decide) ?_
  refine z_istore C [(6, .int (nI 0)), (5, .int (-1)), (4, .int (nI 0)), (0, .ref (ad 0)), (1, .int w), (2, .int (nI j)), (3, .int (nI 1))] dX6_bestLamp_39 (by decide) rfl ?_
  refine z_lv (lv' := [(0, .ref (ad 0)), (2, .int (nI j)), (3, .int (nI 1)), (4, .int ((m_bl n r j 0).1)), (5, .int ((m_bl n r j 0).2)), (6, .int (nI 0))]) rfl ?_
  refine z_up (fun k => Z κ (MW θ ad n g r) 41 [(0, .ref (ad 0)), (2, .int (nI j)), (3, .int (nI 1)), (4, .int ((m_bl n r j k).1)), (5, .int ((m_bl n r j k).2)), (6, .int (nI k))] []) (6) ?_ ?_ 0 (by omega)
  · refine z_iload C dX6_bestLamp_41 (show zlk _ 6 = some (.int (nI 6)) from rfl) ?_
    refine z_bipush C (v := nI 6) dX6_bestLamp_43 (by decide) ?_
    refine z_icmp_geT C 107 dX6_bestLamp_45 (by decide) (by omega) (by omega) (by omega) ?_
    refine z_iload_n C dX6_bestLamp_107 rfl (show zlk _ 3 = some (.int (nI 1)) from rfl) ?_
    refine z_if_neN C 116 dX6_bestLamp_108 (by decide) (by decide) (fun _ => ?_) (fun h => absurd h (by decide))
    refine z_iload C dX6_bestLamp_116 (show zlk _ 5 = some (.int ((m_bl n r j 6).2)) from rfl) ?_
    exact E _ _ _ _ (⟨rfl, rfl⟩) (rfl) dX6_bestLamp_118
  · intro k hk41 ih41
    refine z_iload C dX6_bestLamp_41 (show zlk _ 6 = some (.int (nI k)) from rfl) ?_
    refine z_bipush C (v := nI 6) dX6_bestLamp_43 (by decide) ?_
    refine z_icmp_geF C 107 dX6_bestLamp_45 (by decide) (by omega) (by omega) (by omega) ?_
    refine z_aload_n C dX6_bestLamp_48 rfl (show zlk _ 0 = some (.ref (ad 0)) from rfl) ?_
    refine z_iload_n C dX6_bestLamp_49 rfl (show zlk _ 2 = some (.int (nI j)) from rfl) ?_
    refine z_aload_n C dX6_bestLamp_50 rfl (show zlk _ 0 = some (.ref (ad 0)) from rfl) ?_
    refine z_iload_n C dX6_bestLamp_51 rfl (show zlk _ 2 = some (.int (nI j)) from rfl) ?_
    refine z_iload C dX6_bestLamp_52 (show zlk _ 6 = some (.int (nI k)) from rfl) ?_
    refine z_aload_n C dX6_bestLamp_54 rfl (show zlk _ 0 = some (.ref (ad 0)) from rfl) ?_
    refine z_mg C hin 7 (by decide) (by decide +kernel) (v := .ref (ad 7)) mf_7 dX6_bestLamp_55 ?_
    refine z_iconst C (v := nI 1) dX6_bestLamp_58 (by decide) ?_
    refine z_iald C (f := (r 7)) 4 mr_7 1 rfl (by omega) (by decide) dX6_bestLamp_59 ?_
    refine z_iadd C dX6_bestLamp_60 ?_
    refine z_callVi C (As := [.int (nI j), .int ((nI k) + ((r 7) 1))]) (rest := [.int (nI j), .ref (ad 0)]) (c_X6_drawnBy l θ ad n g r j ((nI k) + ((r 7) 1)) (by omega) (h0)) gX6_bestLamp_X6_drawnBy rfl 2 (by decide +kernel) (by decide) (by decide) 0 rfl rfl rfl rfl rfl (Nat.le_of_ble_eq_true rfl) dX6_bestLamp_61 ?_
    rintro _ _ ⟨rfl, rfl⟩
    refine z_callVi C (As := [.int (nI j), .int (m_drawn r (n 0) j ((nI k) + ((r 7) 1)))]) (rest := []) (c_X6_likeBy l θ ad n g r j (m_drawn r (n 0) j ((nI k) + ((r 7) 1))) (by omega)) gX6_bestLamp_X6_likeBy rfl 2 (by decide +kernel) (by decide) (by decide) 0 rfl rfl rfl rfl rfl (Nat.le_of_ble_eq_true rfl) dX6_bestLamp_64 ?_
    rintro _ _ ⟨rfl, rfl⟩
    refine z_top (v' := .int (m_bi n r j k)) (rfl) ?_
    refine z_istore C [(7, .int (m_bi n r j k)), (0, .ref (ad 0)), (2, .int (nI j)), (3, .int (nI 1)), (4, .int ((m_bl n r j k).1)), (5, .int ((m_bl n r j k).2)), (6, .int (nI k))] dX6_bestLamp_67 (by decide) rfl ?_
    refine z_iload C dX6_bestLamp_69 (show zlk _ 7 = some (.int (m_bi n r j k)) from rfl) ?_
    refine z_iload C dX6_bestLamp_71 (show zlk _ 5 = some (.int ((m_bl n r j k).2)) from rfl) ?_
    refine z_icmp_le C 81 dX6_bestLamp_73 (by decide) (fun h73t_1 => ?_) (fun h73n_1 => ?_)
    · refine z_iload C dX6_bestLamp_81 (show zlk _ 4 = some (.int ((m_bl n r j k).1)) from rfl) ?_
      refine z_istore C [(4, .int ((m_bl n r j k).1)), (7, .int (m_bi n r j k)), (0, .ref (ad 0)), (2, .int (nI j)), (3, .int (nI 1)), (5, .int ((m_bl n r j k).2)), (6, .int (nI k))] dX6_bestLamp_83 (by decide) rfl ?_
      refine z_iload C dX6_bestLamp_85 (show zlk _ 7 = some (.int (m_bi n r j k)) from rfl) ?_
      refine z_iload C dX6_bestLamp_87 (show zlk _ 5 = some (.int ((m_bl n r j k).2)) from rfl) ?_
      refine z_icmp_le C 97 dX6_bestLamp_89 (by decide) (fun h89t_2 => ?_) (fun h89t_2 => absurd h89t_2 (fun z => z h73t_1))
      refine z_iload C dX6_bestLamp_97 (show zlk _ 5 = some (.int ((m_bl n r j k).2)) from rfl) ?_
      refine z_istore C [(5, .int ((m_bl n r j k).2)), (4, .int ((m_bl n r j k).1)), (7, .int (m_bi n r j k)), (0, .ref (ad 0)), (2, .int (nI j)), (3, .int (nI 1)), (6, .int (nI k))] dX6_bestLamp_99 (by decide) rfl ?_
      refine z_iincN C [(6, .int (nI (k + 1))), (5, .int ((m_bl n r j k).2)), (4, .int ((m_bl n r j k).1)), (7, .int (m_bi n r j k)), (0, .ref (ad 0)), (2, .int (nI j)), (3, .int (nI 1))] dX6_bestLamp_101 rfl (by decide) rfl ?_
      refine z_goto C 41 dX6_bestLamp_104 (by decide) ?_
      exact z_to (ih41) (rfl) (by simp [zlk, m_bl, h73t_1, h89t_2])
    · refine z_iload C dX6_bestLamp_76 (show zlk _ 6 = some (.int (nI k)) from rfl) ?_
      refine z_goto C 83 dX6_bestLamp_78 (by decide) ?_
      refine z_istore C [(4, .int (nI k)), (7, .int (m_bi n r j k)), (0, .ref (ad 0)), (2, .int (nI j)), (3, .int (nI 1)), (5, .int ((m_bl n r j k).2)), (6, .int (nI k))] dX6_bestLamp_83 (by decide) rfl ?_
      refine z_iload C dX6_bestLamp_85 (show zlk _ 7 = some (.int (m_bi n r j k)) from rfl) ?_
      refine z_iload C dX6_bestLamp_87 (show zlk _ 5 = some (.int ((m_bl n r j k).2)) from rfl) ?_
      refine z_icmp_le C 97 dX6_bestLamp_89 (by decide) (fun h89n_3 => absurd h89n_3 (h73n_1)) (fun h89n_3 => ?_)
      refine z_iload C dX6_bestLamp_92 (show zlk _ 7 = some (.int (m_bi n r j k)) from rfl) ?_
      refine z_goto C 99 dX6_bestLamp_94 (by decide) ?_
      refine z_istore C [(5, .int (m_bi n r j k)), (4, .int (nI k)), (7, .int (m_bi n r j k)), (0, .ref (ad 0)), (2, .int (nI j)), (3, .int (nI 1)), (6, .int (nI k))] dX6_bestLamp_99 (by decide) rfl ?_
      refine z_iincN C [(6, .int (nI (k + 1))), (5, .int (m_bi n r j k)), (4, .int (nI k)), (7, .int (m_bi n r j k)), (0, .ref (ad 0)), (2, .int (nI j)), (3, .int (nI 1))] dX6_bestLamp_101 rfl (by decide) rfl ?_
      refine z_goto C 41 dX6_bestLamp_104 (by decide) ?_
      exact z_to (ih41) (rfl) (by simp [zlk, m_bl, h73n_1, h89n_3])

def m_by (k : Nat) : Int32 := nI k - nI 3
theorem m_by_s (k : Nat) : m_by k + 1 = m_by (k + 1) := by
  unfold m_by
  rw [← nI_1 k]
  rw [Int32.sub_eq_add_neg, Int32.sub_eq_add_neg, Int32.add_assoc, Int32.add_comm (-nI 3) 1, ← Int32.add_assoc]
def m_whI (o : Nat → Int32) (set : Int32) (s : Nat) (a : Nat × Int32 × Int32) : Nat → Nat × Int32 × Int32
  | 0 => a
  | k + 1 => if m_sh (o s) (m_by k) 30 = set then ((m_whI o set s a k).1 + 1, (m_whI o set s a k).2.1 ||| (nI 1 <<< (nI s &&& 31)), if (m_whI o set s a k).1 = 0 then nI (100 * s) + m_by k + nI 3 else (m_whI o set s a k).2.2) else m_whI o set s a k
def m_whO (o : Nat → Int32) (set : Int32) : Nat → Nat × Int32 × Int32
  | 0 => (0, nI 0, (-1))
  | s + 1 => m_whI o set s (m_whO o set s) 12
theorem m_whI_le (o : Nat → Int32) (set : Int32) (s : Nat) (a : Nat × Int32 × Int32) : ∀ k, (m_whI o set s a k).1 ≤ a.1 + k
  | 0 => by simp [m_whI]
  | k + 1 => by
    have := m_whI_le o set s a k
    unfold m_whI
    split <;> (try dsimp only) <;> omega
theorem m_whO_le (o : Nat → Int32) (set : Int32) : ∀ s, (m_whO o set s).1 ≤ 12 * s
  | 0 => by simp [m_whO]
  | s + 1 => by
    have h1 := m_whO_le o set s
    have h2 := m_whI_le o set s (m_whO o set s) 12
    unfold m_whO
    omega
theorem m_by_lt {k : Nat} (h : k < 12) : ¬ nI 8 < m_by k := by
  have : ∀ k : Fin 12, ¬ nI 8 < m_by k.val := by decide
  exact this ⟨k, h⟩
set_option maxHeartbeats 4000000 in
set_option maxRecDepth 100000 in
theorem c_X6_who_1 (l : Launch) (θ : zH) (ad : Nat → Nat) (n : Nat → Nat) (g : Int32) (r : Nat → Nat → Int32) (set x : Int32) (hs : okN set 1073741824 = false) : cI l yX6_who wsX6_who 2 θ [.ref (ad 0), .int set, .int x] (MW θ ad n g r) (fun r0 Y => r0 = (-1000000002) ∧ Y = MW θ ad n g r) := by
  refine z_cI (by decide) rfl rfl (Nat.le_of_ble_eq_true rfl) (lv := [(0, .ref (ad 0)), (1, .int set), (2, .int x)]) rfl (fun κ C E => ?_)
  refine z_iload_n C dX6_who_0 rfl (show zlk _ 1 = some (.int set) from rfl) ?_
  refine z_i2l C dX6_who_1 ?_
  refine z_lconst C (v := 0) dX6_who_2 (by decide) ?_
  refine z_ldc2 C (v := 1073741823) (by decide +kernel) dX6_who_3 ?_
  refine z_callSi C (As := [.long (Int32.toInt64 set), .long 0, .long (1073741823)]) (rest := []) (c_X6_in l θ _ (Int32.toInt64 set) 0 (1073741823)) gX6_who_X6_in rfl 3 (by decide +kernel) (by decide) (by decide) rfl rfl (Nat.le_of_ble_eq_true rfl) dX6_who_6 ?_
  rintro _ _ ⟨rfl, rfl⟩
  refine z_top (v' := .int (bI (okN set 1073741824))) (by rw [m_in_lit (N := 1073741824) (by decide)]) ?_
  refine z_if_eqB C 24 dX6_who_9 (by decide) (fun _ => ?_) (fun h => absurd h (by rw [hs]; decide))
  refine z_ldc C (v := (-1000000002)) (by decide +kernel) dX6_who_24 ?_
  exact E _ _ _ _ (⟨rfl, rfl⟩) (rfl) dX6_who_26

set_option maxHeartbeats 4000000 in
set_option maxRecDepth 100000 in
theorem c_X6_who_2 (l : Launch) (θ : zH) (ad : Nat → Nat) (n : Nat → Nat) (g : Int32) (r : Nat → Nat → Int32) (set x : Int32) (hs : okN set 1073741824 = true) (hx : okN x 3 = false) : cI l yX6_who wsX6_who 2 θ [.ref (ad 0), .int set, .int x] (MW θ ad n g r) (fun r0 Y => r0 = (-1000000002) ∧ Y = MW θ ad n g r) := by
  refine z_cI (by decide) rfl rfl (Nat.le_of_ble_eq_true rfl) (lv := [(0, .ref (ad 0)), (1, .int set), (2, .int x)]) rfl (fun κ C E => ?_)
  refine z_iload_n C dX6_who_0 rfl (show zlk _ 1 = some (.int set) from rfl) ?_
  refine z_i2l C dX6_who_1 ?_
  refine z_lconst C (v := 0) dX6_who_2 (by decide) ?_
  refine z_ldc2 C (v := 1073741823) (by decide +kernel) dX6_who_3 ?_
  refine z_callSi C (As := [.long (Int32.toInt64 set), .long 0, .long (1073741823)]) (rest := []) (c_X6_in l θ _ (Int32.toInt64 set) 0 (1073741823)) gX6_who_X6_in rfl 3 (by decide +kernel) (by decide) (by decide) rfl rfl (Nat.le_of_ble_eq_true rfl) dX6_who_6 ?_
  rintro _ _ ⟨rfl, rfl⟩
  refine z_top (v' := .int (bI (okN set 1073741824))) (by rw [m_in_lit (N := 1073741824) (by decide)]) ?_
  refine z_if_eqB C 24 dX6_who_9 (by decide) (fun h => absurd h (by rw [hs]; decide)) (fun _ => ?_)
  refine z_iload_n C dX6_who_12 rfl (show zlk _ 2 = some (.int x) from rfl) ?_
  refine z_i2l C dX6_who_13 ?_
  refine z_lconst C (v := 0) dX6_who_14 (by decide) ?_
  refine z_ldc2 C (v := 2) (by decide +kernel) dX6_who_15 ?_
  refine z_callSi C (As := [.long (Int32.toInt64 x), .long 0, .long (2)]) (rest := []) (c_X6_in l θ _ (Int32.toInt64 x) 0 (2)) gX6_who_X6_in rfl 3 (by decide +kernel) (by decide) (by decide) rfl rfl (Nat.le_of_ble_eq_true rfl) dX6_who_18 ?_
  rintro _ _ ⟨rfl, rfl⟩
  refine z_top (v' := .int (bI (okN x 3))) (by rw [m_in_lit (N := 3) (by decide)]) ?_
  refine z_if_neB C 27 dX6_who_21 (by decide) (fun h => absurd h (by rw [hx]; decide)) (fun _ => ?_)
  refine z_ldc C (v := (-1000000002)) (by decide +kernel) dX6_who_24 ?_
  exact E _ _ _ _ (⟨rfl, rfl⟩) (rfl) dX6_who_26

set_option maxHeartbeats 4000000 in
set_option maxRecDepth 100000 in
theorem c_X6_who_30 (l : Launch) (θ : zH) (ad : Nat → Nat) (n : Nat → Nat) (g : Int32) (r : Nat → Nat → Int32) (set : Int32) (hS : n 1 ≤ 6) (hs : okN set 1073741824 = true) : cI l yX6_who wsX6_who 2 θ [.ref (ad 0), .int set, .int (nI 0)] (MW θ ad n g r) (fun r0 Y => r0 = nI (m_whO (r 2) set (n 1)).1 ∧ Y = MW θ ad n g r) := by
  refine z_cI (by decide) rfl rfl (Nat.le_of_ble_eq_true rfl) (lv := [(0, .ref (ad 0)), (1, .int set), (2, .int (nI 0))]) rfl (fun κ C E => ?_)
  have hin : ∀ w ∈ wsX60, w ∈ wsX6_who := by decide +kernel
  refine z_iload_n C dX6_who_0 rfl (show zlk _ 1 = some (.int set) from rfl) ?_
  refine z_i2l C dX6_who_1 ?_
  refine z_lconst C (v := 0) dX6_who_2 (by decide) ?_
  refine z_ldc2 C (v := 1073741823) (by decide +kernel) dX6_who_3 ?_
  refine z_callSi C (As := [.long (Int32.toInt64 set), .long 0, .long (1073741823)]) (rest := []) (c_X6_in l θ _ (Int32.toInt64 set) 0 (1073741823)) gX6_who_X6_in rfl 3 (by decide +kernel) (by decide) (by decide) rfl rfl (Nat.le_of_ble_eq_true rfl) dX6_who_6 ?_
  rintro _ _ ⟨rfl, rfl⟩
  refine z_top (v' := .int (bI (okN set 1073741824))) (by rw [m_in_lit (N := 1073741824) (by decide)]) ?_
  refine z_if_eqB C 24 dX6_who_9 (by decide) (fun h => absurd h (by rw [hs]; decide)) (fun _ => ?_)
  refine z_iload_n C dX6_who_12 rfl (show zlk _ 2 = some (.int (nI 0)) from rfl) ?_
  refine z_i2l C dX6_who_13 ?_
  refine z_lconst C (v := 0) dX6_who_14 (by decide) ?_
  refine z_ldc2 C (v := 2) (by decide +kernel) dX6_who_15 ?_
  refine z_callSi C (As := [.long (Int32.toInt64 (nI 0)), .long 0, .long (2)]) (rest := []) (c_X6_in l θ _ (Int32.toInt64 (nI 0)) 0 (2)) gX6_who_X6_in rfl 3 (by decide +kernel) (by decide) (by decide) rfl rfl (Nat.le_of_ble_eq_true rfl) dX6_who_18 ?_
  rintro _ _ ⟨rfl, rfl⟩
  refine z_top (v' := .int (bI (okN (nI 0) 3))) (by rw [m_in_lit (N := 3) (by decide)]) ?_
  refine z_if_neB C 27 dX6_who_21 (by decide) (fun _ => ?_) (fun h => absurd h (by rw [okN_lt (by decide) (by decide)]; decide))
  refine z_iconst C (v := nI 0) dX6_who_27 (by decide) ?_
  refine z_istore_n C [(3, .int (nI 0)), (0, .ref (ad 0)), (1, .int set), (2, .int (nI 0))] dX6_who_28 rfl (by decide) rfl ?_
  refine z_iconst C (v := nI 0) dX6_who_29 (by decide) ?_
  refine z_istore C [(4, .int (nI 0)), (3, .int (nI 0)), (0, .ref (ad 0)), (1, .int set), (2, .int (nI 0))] dX6_who_30 (by decide) rfl ?_
  refine z_iconst C (v := (-1)) dX6_who_32 (by decide) ?_
  refine z_istore C [(5, .int (-1)), (4, .int (nI 0)), (3, .int (nI 0)), (0, .ref (ad 0)), (1, .int set), (2, .int (nI 0))] dX6_who_33 (by decide) rfl ?_
  refine z_iconst C (v := nI 0) dX6_who_35 (by decide) ?_
  refine z_istore C [(6, .int (nI 0)), (5, .int (-1)), (4, .int (nI 0)), (3, .int (nI 0)), (0, .ref (ad 0)), (1, .int set), (2, .int (nI 0))] dX6_who_36 (by decide) rfl ?_
  refine z_lv (lv' := [(0, .ref (ad 0)), (1, .int set), (2, .int (nI 0)), (3, .int (nI ((m_whO (r 2) set 0).1))), (4, .int ((m_whO (r 2) set 0).2.1)), (5, .int ((m_whO (r 2) set 0).2.2)), (6, .int (nI 0))]) rfl ?_
  refine z_up (fun s => Z κ (MW θ ad n g r) 38 [(0, .ref (ad 0)), (1, .int set), (2, .int (nI 0)), (3, .int (nI ((m_whO (r 2) set s).1))), (4, .int ((m_whO (r 2) set s).2.1)), (5, .int ((m_whO (r 2) set s).2.2)), (6, .int (nI s))] []) (n 1) ?_ ?_ 0 (by omega)
  · refine z_iload C dX6_who_38 (show zlk _ 6 = some (.int (nI (n 1))) from rfl) ?_
    refine z_aload_n C dX6_who_40 rfl (show zlk _ 0 = some (.ref (ad 0)) from rfl) ?_
    refine z_mg C hin 1 (by decide) (by decide +kernel) (v := .int (nI (n 1))) mf_1 dX6_who_41 ?_
    refine z_icmp_geT C 119 dX6_who_44 (by decide) (by omega) (by omega) (by omega) ?_
    refine z_iload_n C dX6_who_119 rfl (show zlk _ 2 = some (.int (nI 0)) from rfl) ?_
    refine z_if_neN C 127 dX6_who_120 (by decide) (by decide) (fun h => absurd h (by decide)) (fun _ => ?_)
    refine z_iload_n C dX6_who_123 rfl (show zlk _ 3 = some (.int (nI ((m_whO (r 2) set (n 1)).1))) from rfl) ?_
    refine z_goto C 139 dX6_who_124 (by decide) ?_
    exact E _ _ _ _ (⟨rfl, rfl⟩) (rfl) dX6_who_139
  · intro s hk38 ih38
    refine z_iload C dX6_who_38 (show zlk _ 6 = some (.int (nI s)) from rfl) ?_
    refine z_aload_n C dX6_who_40 rfl (show zlk _ 0 = some (.ref (ad 0)) from rfl) ?_
    refine z_mg C hin 1 (by decide) (by decide +kernel) (v := .int (nI (n 1))) mf_1 dX6_who_41 ?_
    refine z_icmp_geF C 119 dX6_who_44 (by decide) (by omega) (by omega) (by omega) ?_
    refine z_bipush C (v := (-3)) dX6_who_47 (by decide) ?_
    refine z_istore C [(7, .int (-3)), (0, .ref (ad 0)), (1, .int set), (2, .int (nI 0)), (3, .int (nI ((m_whO (r 2) set s).1))), (4, .int ((m_whO (r 2) set s).2.1)), (5, .int ((m_whO (r 2) set s).2.2)), (6, .int (nI s))] dX6_who_49 (by decide) rfl ?_
    refine z_lv (lv' := [(0, .ref (ad 0)), (1, .int set), (2, .int (nI 0)), (3, .int (nI ((m_whI (r 2) set s (m_whO (r 2) set s) 0).1))), (4, .int ((m_whI (r 2) set s (m_whO (r 2) set s) 0).2.1)), (5, .int ((m_whI (r 2) set s (m_whO (r 2) set s) 0).2.2)), (6, .int (nI s)), (7, .int (m_by 0))]) rfl ?_
    refine z_up (fun k => Z κ (MW θ ad n g r) 51 [(0, .ref (ad 0)), (1, .int set), (2, .int (nI 0)), (3, .int (nI ((m_whI (r 2) set s (m_whO (r 2) set s) k).1))), (4, .int ((m_whI (r 2) set s (m_whO (r 2) set s) k).2.1)), (5, .int ((m_whI (r 2) set s (m_whO (r 2) set s) k).2.2)), (6, .int (nI s)), (7, .int (m_by k))] []) (12) ?_ ?_ 0 (by omega)
    · refine z_iload C dX6_who_51 (show zlk _ 7 = some (.int (m_by 12)) from rfl) ?_
      refine z_bipush C (v := nI 8) dX6_who_53 (by decide) ?_
      refine z_icmp_gt C 113 dX6_who_55 (by decide) (fun h55t_1 => ?_) (fun h55t_1 => absurd h55t_1 (fun z => z (by decide)))
      refine z_iincN C [(6, .int (nI (s + 1))), (0, .ref (ad 0)), (1, .int set), (2, .int (nI 0)), (3, .int (nI ((m_whI (r 2) set s (m_whO (r 2) set s) 12).1))), (4, .int ((m_whI (r 2) set s (m_whO (r 2) set s) 12).2.1)), (5, .int ((m_whI (r 2) set s (m_whO (r 2) set s) 12).2.2)), (7, .int (m_by 12))] dX6_who_113 rfl (by decide) rfl ?_
      refine z_goto C 38 dX6_who_116 (by decide) ?_
      exact z_to (ih38) (rfl) (rfl)
    · intro k hk51 ih51
      refine z_iload C dX6_who_51 (show zlk _ 7 = some (.int (m_by k)) from rfl) ?_
      refine z_bipush C (v := nI 8) dX6_who_53 (by decide) ?_
      refine z_icmp_gt C 113 dX6_who_55 (by decide) (fun h55n_2 => absurd h55n_2 (m_by_lt hk51)) (fun h55n_2 => ?_)
      refine z_aload_n C dX6_who_58 rfl (show zlk _ 0 = some (.ref (ad 0)) from rfl) ?_
      refine z_mg C hin 2 (by decide) (by decide +kernel) (v := .ref (ad 2)) mf_2 dX6_who_59 ?_
      refine z_iload C dX6_who_62 (show zlk _ 6 = some (.int (nI s)) from rfl) ?_
      refine z_iald C (f := (r 2)) 1 mr_2 s rfl (by omega) (by decide) dX6_who_64 ?_
      refine z_iload C dX6_who_65 (show zlk _ 7 = some (.int (m_by k)) from rfl) ?_
      refine z_callSi C (As := [.int ((r 2) s), .int (m_by k)]) (rest := []) (c_X6_shifted l θ _ ((r 2) s) (m_by k)) gX6_who_X6_shifted rfl 2 (by decide +kernel) (by decide) (by decide) rfl rfl (Nat.le_of_ble_eq_true rfl) dX6_who_67 ?_
      rintro _ _ ⟨rfl, rfl⟩
      refine z_iload_n C dX6_who_70 rfl (show zlk _ 1 = some (.int set) from rfl) ?_
      refine z_icmp_ne C 107 dX6_who_71 (by decide) (fun h71t_3 => ?_) (fun h71n_3 => ?_)
      · refine z_iinc C [(7, .int (m_by k + 1)), (0, .ref (ad 0)), (1, .int set), (2, .int (nI 0)), (3, .int (nI ((m_whI (r 2) set s (m_whO (r 2) set s) k).1))), (4, .int ((m_whI (r 2) set s (m_whO (r 2) set s) k).2.1)), (5, .int ((m_whI (r 2) set s (m_whO (r 2) set s) k).2.2)), (6, .int (nI s))] dX6_who_107 rfl rfl (by decide) rfl ?_
        refine z_goto C 51 dX6_who_110 (by decide) ?_
        exact z_to (ih51) (rfl) (by simp [zlk, m_whI, m_by_s, h55n_2, h71t_3])
      · refine z_iload_n C dX6_who_74 rfl (show zlk _ 3 = some (.int (nI ((m_whI (r 2) set s (m_whO (r 2) set s) k).1))) from rfl) ?_
        refine z_if_neN C 91 dX6_who_75 (by decide) (by have h1 := m_whI_le (r 2) set s (m_whO (r 2) set s) k; have h2 := m_whO_le (r 2) set s; omega) (fun h75t_4 => ?_) (fun h75n_4 => ?_)
        · refine z_iload C dX6_who_91 (show zlk _ 5 = some (.int ((m_whI (r 2) set s (m_whO (r 2) set s) k).2.2)) from rfl) ?_
          refine z_istore C [(5, .int ((m_whI (r 2) set s (m_whO (r 2) set s) k).2.2)), (0, .ref (ad 0)), (1, .int set), (2, .int (nI 0)), (3, .int (nI ((m_whI (r 2) set s (m_whO (r 2) set s) k).1))), (4, .int ((m_whI (r 2) set s (m_whO (r 2) set s) k).2.1)), (6, .int (nI s)), (7, .int (m_by k))] dX6_who_93 (by decide) rfl ?_
          refine z_iload C dX6_who_95 (show zlk _ 4 = some (.int ((m_whI (r 2) set s (m_whO (r 2) set s) k).2.1)) from rfl) ?_
          refine z_iconst C (v := nI 1) dX6_who_97 (by decide) ?_
          refine z_iload C dX6_who_98 (show zlk _ 6 = some (.int (nI s)) from rfl) ?_
          refine z_ishl C dX6_who_100 ?_
          refine z_ior C dX6_who_101 ?_
          refine z_istore C [(4, .int (((m_whI (r 2) set s (m_whO (r 2) set s) k).2.1) ||| ((nI 1) <<< ((nI s) &&& 31)))), (5, .int ((m_whI (r 2) set s (m_whO (r 2) set s) k).2.2)), (0, .ref (ad 0)), (1, .int set), (2, .int (nI 0)), (3, .int (nI ((m_whI (r 2) set s (m_whO (r 2) set s) k).1))), (6, .int (nI s)), (7, .int (m_by k))] dX6_who_102 (by decide) rfl ?_
          refine z_iincN C [(3, .int (nI ((m_whI (r 2) set s (m_whO (r 2) set s) k).1 + 1))), (4, .int (((m_whI (r 2) set s (m_whO (r 2) set s) k).2.1) ||| ((nI 1) <<< ((nI s) &&& 31)))), (5, .int ((m_whI (r 2) set s (m_whO (r 2) set s) k).2.2)), (0, .ref (ad 0)), (1, .int set), (2, .int (nI 0)), (6, .int (nI s)), (7, .int (m_by k))] dX6_who_104 rfl (by decide) rfl ?_
          refine z_iinc C [(7, .int (m_by k + 1)), (3, .int (nI ((m_whI (r 2) set s (m_whO (r 2) set s) k).1 + 1))), (4, .int (((m_whI (r 2) set s (m_whO (r 2) set s) k).2.1) ||| ((nI 1) <<< ((nI s) &&& 31)))), (5, .int ((m_whI (r 2) set s (m_whO (r 2) set s) k).2.2)), (0, .ref (ad 0)), (1, .int set), (2, .int (nI 0)), (6, .int (nI s))] dX6_who_107 rfl rfl (by decide) rfl ?_
          refine z_goto C 51 dX6_who_110 (by decide) ?_
          exact z_to (ih51) (rfl) (by simp [zlk, m_whI, m_by_s, h55n_2, h71n_3, h75t_4])
        · refine z_bipush C (v := nI 100) dX6_who_78 (by decide) ?_
          refine z_iload C dX6_who_80 (show zlk _ 6 = some (.int (nI s)) from rfl) ?_
          refine z_imulN C dX6_who_82 ?_
          refine z_iload C dX6_who_83 (show zlk _ 7 = some (.int (m_by k)) from rfl) ?_
          refine z_iadd C dX6_who_85 ?_
          refine z_iconst C (v := nI 3) dX6_who_86 (by decide) ?_
          refine z_iadd C dX6_who_87 ?_
          refine z_goto C 93 dX6_who_88 (by decide) ?_
          refine z_istore C [(5, .int (((nI (100 * s)) + (m_by k)) + (nI 3))), (0, .ref (ad 0)), (1, .int set), (2, .int (nI 0)), (3, .int (nI ((m_whI (r 2) set s (m_whO (r 2) set s) k).1))), (4, .int ((m_whI (r 2) set s (m_whO (r 2) set s) k).2.1)), (6, .int (nI s)), (7, .int (m_by k))] dX6_who_93 (by decide) rfl ?_
          refine z_iload C dX6_who_95 (show zlk _ 4 = some (.int ((m_whI (r 2) set s (m_whO (r 2) set s) k).2.1)) from rfl) ?_
          refine z_iconst C (v := nI 1) dX6_who_97 (by decide) ?_
          refine z_iload C dX6_who_98 (show zlk _ 6 = some (.int (nI s)) from rfl) ?_
          refine z_ishl C dX6_who_100 ?_
          refine z_ior C dX6_who_101 ?_
          refine z_istore C [(4, .int (((m_whI (r 2) set s (m_whO (r 2) set s) k).2.1) ||| ((nI 1) <<< ((nI s) &&& 31)))), (5, .int (((nI (100 * s)) + (m_by k)) + (nI 3))), (0, .ref (ad 0)), (1, .int set), (2, .int (nI 0)), (3, .int (nI ((m_whI (r 2) set s (m_whO (r 2) set s) k).1))), (6, .int (nI s)), (7, .int (m_by k))] dX6_who_102 (by decide) rfl ?_
          refine z_iincN C [(3, .int (nI ((m_whI (r 2) set s (m_whO (r 2) set s) k).1 + 1))), (4, .int (((m_whI (r 2) set s (m_whO (r 2) set s) k).2.1) ||| ((nI 1) <<< ((nI s) &&& 31)))), (5, .int (((nI (100 * s)) + (m_by k)) + (nI 3))), (0, .ref (ad 0)), (1, .int set), (2, .int (nI 0)), (6, .int (nI s)), (7, .int (m_by k))] dX6_who_104 rfl (by decide) rfl ?_
          refine z_iinc C [(7, .int (m_by k + 1)), (3, .int (nI ((m_whI (r 2) set s (m_whO (r 2) set s) k).1 + 1))), (4, .int (((m_whI (r 2) set s (m_whO (r 2) set s) k).2.1) ||| ((nI 1) <<< ((nI s) &&& 31)))), (5, .int (((nI (100 * s)) + (m_by k)) + (nI 3))), (0, .ref (ad 0)), (1, .int set), (2, .int (nI 0)), (6, .int (nI s))] dX6_who_107 rfl rfl (by decide) rfl ?_
          refine z_goto C 51 dX6_who_110 (by decide) ?_
          exact z_to (ih51) (rfl) (by simp [zlk, m_whI, m_by_s, h55n_2, h71n_3, h75n_4])

set_option maxHeartbeats 4000000 in
set_option maxRecDepth 100000 in
theorem c_X6_who_31 (l : Launch) (θ : zH) (ad : Nat → Nat) (n : Nat → Nat) (g : Int32) (r : Nat → Nat → Int32) (set : Int32) (hS : n 1 ≤ 6) (hs : okN set 1073741824 = true) : cI l yX6_who wsX6_who 2 θ [.ref (ad 0), .int set, .int (nI 1)] (MW θ ad n g r) (fun r0 Y => r0 = (m_whO (r 2) set (n 1)).2.1 ∧ Y = MW θ ad n g r) := by
  refine z_cI (by decide) rfl rfl (Nat.le_of_ble_eq_true rfl) (lv := [(0, .ref (ad 0)), (1, .int set), (2, .int (nI 1))]) rfl (fun κ C E => ?_)
  have hin : ∀ w ∈ wsX60, w ∈ wsX6_who := by decide +kernel
  refine z_iload_n C dX6_who_0 rfl (show zlk _ 1 = some (.int set) from rfl) ?_
  refine z_i2l C dX6_who_1 ?_
  refine z_lconst C (v := 0) dX6_who_2 (by decide) ?_
  refine z_ldc2 C (v := 1073741823) (by decide +kernel) dX6_who_3 ?_
  refine z_callSi C (As := [.long (Int32.toInt64 set), .long 0, .long (1073741823)]) (rest := []) (c_X6_in l θ _ (Int32.toInt64 set) 0 (1073741823)) gX6_who_X6_in rfl 3 (by decide +kernel) (by decide) (by decide) rfl rfl (Nat.le_of_ble_eq_true rfl) dX6_who_6 ?_
  rintro _ _ ⟨rfl, rfl⟩
  refine z_top (v' := .int (bI (okN set 1073741824))) (by rw [m_in_lit (N := 1073741824) (by decide)]) ?_
  refine z_if_eqB C 24 dX6_who_9 (by decide) (fun h => absurd h (by rw [hs]; decide)) (fun _ => ?_)
  refine z_iload_n C dX6_who_12 rfl (show zlk _ 2 = some (.int (nI 1)) from rfl) ?_
  refine z_i2l C dX6_who_13 ?_
  refine z_lconst C (v := 0) dX6_who_14 (by decide) ?_
  refine z_ldc2 C (v := 2) (by decide +kernel) dX6_who_15 ?_
  refine z_callSi C (As := [.long (Int32.toInt64 (nI 1)), .long 0, .long (2)]) (rest := []) (c_X6_in l θ _ (Int32.toInt64 (nI 1)) 0 (2)) gX6_who_X6_in rfl 3 (by decide +kernel) (by decide) (by decide) rfl rfl (Nat.le_of_ble_eq_true rfl) dX6_who_18 ?_
  rintro _ _ ⟨rfl, rfl⟩
  refine z_top (v' := .int (bI (okN (nI 1) 3))) (by rw [m_in_lit (N := 3) (by decide)]) ?_
  refine z_if_neB C 27 dX6_who_21 (by decide) (fun _ => ?_) (fun h => absurd h (by rw [okN_lt (by decide) (by decide)]; decide))
  refine z_iconst C (v := nI 0) dX6_who_27 (by decide) ?_
  refine z_istore_n C [(3, .int (nI 0)), (0, .ref (ad 0)), (1, .int set), (2, .int (nI 1))] dX6_who_28 rfl (by decide) rfl ?_
  refine z_iconst C (v := nI 0) dX6_who_29 (by decide) ?_
  refine z_istore C [(4, .int (nI 0)), (3, .int (nI 0)), (0, .ref (ad 0)), (1, .int set), (2, .int (nI 1))] dX6_who_30 (by decide) rfl ?_
  refine z_iconst C (v := (-1)) dX6_who_32 (by decide) ?_
  refine z_istore C [(5, .int (-1)), (4, .int (nI 0)), (3, .int (nI 0)), (0, .ref (ad 0)), (1, .int set), (2, .int (nI 1))] dX6_who_33 (by decide) rfl ?_
  refine z_iconst C (v := nI 0) dX6_who_35 (by decide) ?_
  refine z_istore C [(6, .int (nI 0)), (5, .int (-1)), (4, .int (nI 0)), (3, .int (nI 0)), (0, .ref (ad 0)), (1, .int set), (2, .int (nI 1))] dX6_who_36 (by decide) rfl ?_
  refine z_lv (lv' := [(0, .ref (ad 0)), (1, .int set), (2, .int (nI 1)), (3, .int (nI ((m_whO (r 2) set 0).1))), (4, .int ((m_whO (r 2) set 0).2.1)), (5, .int ((m_whO (r 2) set 0).2.2)), (6, .int (nI 0))]) rfl ?_
  refine z_up (fun s => Z κ (MW θ ad n g r) 38 [(0, .ref (ad 0)), (1, .int set), (2, .int (nI 1)), (3, .int (nI ((m_whO (r 2) set s).1))), (4, .int ((m_whO (r 2) set s).2.1)), (5, .int ((m_whO (r 2) set s).2.2)), (6, .int (nI s))] []) (n 1) ?_ ?_ 0 (by omega)
  · refine z_iload C dX6_who_38 (show zlk _ 6 = some (.int (nI (n 1))) from rfl) ?_
    refine z_aload_n C dX6_who_40 rfl (show zlk _ 0 = some (.ref (ad 0)) from rfl) ?_
    refine z_mg C hin 1 (by decide) (by decide +kernel) (v := .int (nI (n 1))) mf_1 dX6_who_41 ?_
    refine z_icmp_geT C 119 dX6_who_44 (by decide) (by omega) (by omega) (by omega) ?_
    refine z_iload_n C dX6_who_119 rfl (show zlk _ 2 = some (.int (nI 1)) from rfl) ?_
    refine z_if_neN C 127 dX6_who_120 (by decide) (by decide) (fun _ => ?_) (fun h => absurd h (by decide))
    refine z_iload_n C dX6_who_127 rfl (show zlk _ 2 = some (.int (nI 1)) from rfl) ?_
    refine z_iconst C (v := nI 1) dX6_who_128 (by decide) ?_
    refine z_icmp_neF C 137 dX6_who_129 (by decide) (by omega) (by omega) (by decide) ?_
    refine z_iload C dX6_who_132 (show zlk _ 4 = some (.int ((m_whO (r 2) set (n 1)).2.1)) from rfl) ?_
    refine z_goto C 139 dX6_who_134 (by decide) ?_
    exact E _ _ _ _ (⟨rfl, rfl⟩) (rfl) dX6_who_139
  · intro s hk38 ih38
    refine z_iload C dX6_who_38 (show zlk _ 6 = some (.int (nI s)) from rfl) ?_
    refine z_aload_n C dX6_who_40 rfl (show zlk _ 0 = some (.ref (ad 0)) from rfl) ?_
    refine z_mg C hin 1 (by decide) (by decide +kernel) (v := .int (nI (n 1))) mf_1 dX6_who_41 ?_
    refine z_icmp_geF C 119 dX6_who_44 (by decide) (by omega) (by omega) (by omega) ?_
    refine z_bipush C (v := (-3)) dX6_who_47 (by decide) ?_
    refine z_istore C [(7, .int (-3)), (0, .ref (ad 0)), (1, .int set), (2, .int (nI 1)), (3, .int (nI ((m_whO (r 2) set s).1))), (4, .int ((m_whO (r 2) set s).2.1)), (5, .int ((m_whO (r 2) set s).2.2)), (6, .int (nI s))] dX6_who_49 (by decide) rfl ?_
    refine z_lv (lv' := [(0, .ref (ad 0)), (1, .int set), (2, .int (nI 1)), (3, .int (nI ((m_whI (r 2) set s (m_whO (r 2) set s) 0).1))), (4, .int ((m_whI (r 2) set s (m_whO (r 2) set s) 0).2.1)), (5, .int ((m_whI (r 2) set s (m_whO (r 2) set s) 0).2.2)), (6, .int (nI s)), (7, .int (m_by 0))]) rfl ?_
    refine z_up (fun k => Z κ (MW θ ad n g r) 51 [(0, .ref (ad 0)), (1, .int set), (2, .int (nI 1)), (3, .int (nI ((m_whI (r 2) set s (m_whO (r 2) set s) k).1))), (4, .int ((m_whI (r 2) set s (m_whO (r 2) set s) k).2.1)), (5, .int ((m_whI (r 2) set s (m_whO (r 2) set s) k).2.2)), (6, .int (nI s)), (7, .int (m_by k))] []) (12) ?_ ?_ 0 (by omega)
    · refine z_iload C dX6_who_51 (show zlk _ 7 = some (.int (m_by 12)) from rfl) ?_
      refine z_bipush C (v := nI 8) dX6_who_53 (by decide) ?_
      refine z_icmp_gt C 113 dX6_who_55 (by decide) (fun h55t_1 => ?_) (fun h55t_1 => absurd h55t_1 (fun z => z (by decide)))
      refine z_iincN C [(6, .int (nI (s + 1))), (0, .ref (ad 0)), (1, .int set), (2, .int (nI 1)), (3, .int (nI ((m_whI (r 2) set s (m_whO (r 2) set s) 12).1))), (4, .int ((m_whI (r 2) set s (m_whO (r 2) set s) 12).2.1)), (5, .int ((m_whI (r 2) set s (m_whO (r 2) set s) 12).2.2)), (7, .int (m_by 12))] dX6_who_113 rfl (by decide) rfl ?_
      refine z_goto C 38 dX6_who_116 (by decide) ?_
      exact z_to (ih38) (rfl) (rfl)
    · intro k hk51 ih51
      refine z_iload C dX6_who_51 (show zlk _ 7 = some (.int (m_by k)) from rfl) ?_
      refine z_bipush C (v := nI 8) dX6_who_53 (by decide) ?_
      refine z_icmp_gt C 113 dX6_who_55 (by decide) (fun h55n_2 => absurd h55n_2 (m_by_lt hk51)) (fun h55n_2 => ?_)
      refine z_aload_n C dX6_who_58 rfl (show zlk _ 0 = some (.ref (ad 0)) from rfl) ?_
      refine z_mg C hin 2 (by decide) (by decide +kernel) (v := .ref (ad 2)) mf_2 dX6_who_59 ?_
      refine z_iload C dX6_who_62 (show zlk _ 6 = some (.int (nI s)) from rfl) ?_
      refine z_iald C (f := (r 2)) 1 mr_2 s rfl (by omega) (by decide) dX6_who_64 ?_
      refine z_iload C dX6_who_65 (show zlk _ 7 = some (.int (m_by k)) from rfl) ?_
      refine z_callSi C (As := [.int ((r 2) s), .int (m_by k)]) (rest := []) (c_X6_shifted l θ _ ((r 2) s) (m_by k)) gX6_who_X6_shifted rfl 2 (by decide +kernel) (by decide) (by decide) rfl rfl (Nat.le_of_ble_eq_true rfl) dX6_who_67 ?_
      rintro _ _ ⟨rfl, rfl⟩
      refine z_iload_n C dX6_who_70 rfl (show zlk _ 1 = some (.int set) from rfl) ?_
      refine z_icmp_ne C 107 dX6_who_71 (by decide) (fun h71t_3 => ?_) (fun h71n_3 => ?_)
      · refine z_iinc C [(7, .int (m_by k + 1)), (0, .ref (ad 0)), (1, .int set), (2, .int (nI 1)), (3, .int (nI ((m_whI (r 2) set s (m_whO (r 2) set s) k).1))), (4, .int ((m_whI (r 2) set s (m_whO (r 2) set s) k).2.1)), (5, .int ((m_whI (r 2) set s (m_whO (r 2) set s) k).2.2)), (6, .int (nI s))] dX6_who_107 rfl rfl (by decide) rfl ?_
        refine z_goto C 51 dX6_who_110 (by decide) ?_
        exact z_to (ih51) (rfl) (by simp [zlk, m_whI, m_by_s, h55n_2, h71t_3])
      · refine z_iload_n C dX6_who_74 rfl (show zlk _ 3 = some (.int (nI ((m_whI (r 2) set s (m_whO (r 2) set s) k).1))) from rfl) ?_
        refine z_if_neN C 91 dX6_who_75 (by decide) (by have h1 := m_whI_le (r 2) set s (m_whO (r 2) set s) k; have h2 := m_whO_le (r 2) set s; omega) (fun h75t_4 => ?_) (fun h75n_4 => ?_)
        · refine z_iload C dX6_who_91 (show zlk _ 5 = some (.int ((m_whI (r 2) set s (m_whO (r 2) set s) k).2.2)) from rfl) ?_
          refine z_istore C [(5, .int ((m_whI (r 2) set s (m_whO (r 2) set s) k).2.2)), (0, .ref (ad 0)), (1, .int set), (2, .int (nI 1)), (3, .int (nI ((m_whI (r 2) set s (m_whO (r 2) set s) k).1))), (4, .int ((m_whI (r 2) set s (m_whO (r 2) set s) k).2.1)), (6, .int (nI s)), (7, .int (m_by k))] dX6_who_93 (by decide) rfl ?_
          refine z_iload C dX6_who_95 (show zlk _ 4 = some (.int ((m_whI (r 2) set s (m_whO (r 2) set s) k).2.1)) from rfl) ?_
          refine z_iconst C (v := nI 1) dX6_who_97 (by decide) ?_
          refine z_iload C dX6_who_98 (show zlk _ 6 = some (.int (nI s)) from rfl) ?_
          refine z_ishl C dX6_who_100 ?_
          refine z_ior C dX6_who_101 ?_
          refine z_istore C [(4, .int (((m_whI (r 2) set s (m_whO (r 2) set s) k).2.1) ||| ((nI 1) <<< ((nI s) &&& 31)))), (5, .int ((m_whI (r 2) set s (m_whO (r 2) set s) k).2.2)), (0, .ref (ad 0)), (1, .int set), (2, .int (nI 1)), (3, .int (nI ((m_whI (r 2) set s (m_whO (r 2) set s) k).1))), (6, .int (nI s)), (7, .int (m_by k))] dX6_who_102 (by decide) rfl ?_
          refine z_iincN C [(3, .int (nI ((m_whI (r 2) set s (m_whO (r 2) set s) k).1 + 1))), (4, .int (((m_whI (r 2) set s (m_whO (r 2) set s) k).2.1) ||| ((nI 1) <<< ((nI s) &&& 31)))), (5, .int ((m_whI (r 2) set s (m_whO (r 2) set s) k).2.2)), (0, .ref (ad 0)), (1, .int set), (2, .int (nI 1)), (6, .int (nI s)), (7, .int (m_by k))] dX6_who_104 rfl (by decide) rfl ?_
          refine z_iinc C [(7, .int (m_by k + 1)), (3, .int (nI ((m_whI (r 2) set s (m_whO (r 2) set s) k).1 + 1))), (4, .int (((m_whI (r 2) set s (m_whO (r 2) set s) k).2.1) ||| ((nI 1) <<< ((nI s) &&& 31)))), (5, .int ((m_whI (r 2) set s (m_whO (r 2) set s) k).2.2)), (0, .ref (ad 0)), (1, .int set), (2, .int (nI 1)), (6, .int (nI s))] dX6_who_107 rfl rfl (by decide) rfl ?_
          refine z_goto C 51 dX6_who_110 (by decide) ?_
          exact z_to (ih51) (rfl) (by simp [zlk, m_whI, m_by_s, h55n_2, h71n_3, h75t_4])
        · refine z_bipush C (v := nI 100) dX6_who_78 (by decide) ?_
          refine z_iload C dX6_who_80 (show zlk _ 6 = some (.int (nI s)) from rfl) ?_
          refine z_imulN C dX6_who_82 ?_
          refine z_iload C dX6_who_83 (show zlk _ 7 = some (.int (m_by k)) from rfl) ?_
          refine z_iadd C dX6_who_85 ?_
          refine z_iconst C (v := nI 3) dX6_who_86 (by decide) ?_
          refine z_iadd C dX6_who_87 ?_
          refine z_goto C 93 dX6_who_88 (by decide) ?_
          refine z_istore C [(5, .int (((nI (100 * s)) + (m_by k)) + (nI 3))), (0, .ref (ad 0)), (1, .int set), (2, .int (nI 1)), (3, .int (nI ((m_whI (r 2) set s (m_whO (r 2) set s) k).1))), (4, .int ((m_whI (r 2) set s (m_whO (r 2) set s) k).2.1)), (6, .int (nI s)), (7, .int (m_by k))] dX6_who_93 (by decide) rfl ?_
          refine z_iload C dX6_who_95 (show zlk _ 4 = some (.int ((m_whI (r 2) set s (m_whO (r 2) set s) k).2.1)) from rfl) ?_
          refine z_iconst C (v := nI 1) dX6_who_97 (by decide) ?_
          refine z_iload C dX6_who_98 (show zlk _ 6 = some (.int (nI s)) from rfl) ?_
          refine z_ishl C dX6_who_100 ?_
          refine z_ior C dX6_who_101 ?_
          refine z_istore C [(4, .int (((m_whI (r 2) set s (m_whO (r 2) set s) k).2.1) ||| ((nI 1) <<< ((nI s) &&& 31)))), (5, .int (((nI (100 * s)) + (m_by k)) + (nI 3))), (0, .ref (ad 0)), (1, .int set), (2, .int (nI 1)), (3, .int (nI ((m_whI (r 2) set s (m_whO (r 2) set s) k).1))), (6, .int (nI s)), (7, .int (m_by k))] dX6_who_102 (by decide) rfl ?_
          refine z_iincN C [(3, .int (nI ((m_whI (r 2) set s (m_whO (r 2) set s) k).1 + 1))), (4, .int (((m_whI (r 2) set s (m_whO (r 2) set s) k).2.1) ||| ((nI 1) <<< ((nI s) &&& 31)))), (5, .int (((nI (100 * s)) + (m_by k)) + (nI 3))), (0, .ref (ad 0)), (1, .int set), (2, .int (nI 1)), (6, .int (nI s)), (7, .int (m_by k))] dX6_who_104 rfl (by decide) rfl ?_
          refine z_iinc C [(7, .int (m_by k + 1)), (3, .int (nI ((m_whI (r 2) set s (m_whO (r 2) set s) k).1 + 1))), (4, .int (((m_whI (r 2) set s (m_whO (r 2) set s) k).2.1) ||| ((nI 1) <<< ((nI s) &&& 31)))), (5, .int (((nI (100 * s)) + (m_by k)) + (nI 3))), (0, .ref (ad 0)), (1, .int set), (2, .int (nI 1)), (6, .int (nI s))] dX6_who_107 rfl rfl (by decide) rfl ?_
          refine z_goto C 51 dX6_who_110 (by decide) ?_
          exact z_to (ih51) (rfl) (by simp [zlk, m_whI, m_by_s, h55n_2, h71n_3, h75n_4])

set_option maxHeartbeats 4000000 in
set_option maxRecDepth 100000 in
theorem c_X6_who_32 (l : Launch) (θ : zH) (ad : Nat → Nat) (n : Nat → Nat) (g : Int32) (r : Nat → Nat → Int32) (set : Int32) (hS : n 1 ≤ 6) (hs : okN set 1073741824 = true) : cI l yX6_who wsX6_who 2 θ [.ref (ad 0), .int set, .int (nI 2)] (MW θ ad n g r) (fun r0 Y => r0 = (m_whO (r 2) set (n 1)).2.2 ∧ Y = MW θ ad n g r) := by
  refine z_cI (by decide) rfl rfl (Nat.le_of_ble_eq_true rfl) (lv := [(0, .ref (ad 0)), (1, .int set), (2, .int (nI 2))]) rfl (fun κ C E => ?_)
  have hin : ∀ w ∈ wsX60, w ∈ wsX6_who := by decide +kernel
  refine z_iload_n C dX6_who_0 rfl (show zlk _ 1 = some (.int set) from rfl) ?_
  refine z_i2l C dX6_who_1 ?_
  refine z_lconst C (v := 0) dX6_who_2 (by decide) ?_
  refine z_ldc2 C (v := 1073741823) (by decide +kernel) dX6_who_3 ?_
  refine z_callSi C (As := [.long (Int32.toInt64 set), .long 0, .long (1073741823)]) (rest := []) (c_X6_in l θ _ (Int32.toInt64 set) 0 (1073741823)) gX6_who_X6_in rfl 3 (by decide +kernel) (by decide) (by decide) rfl rfl (Nat.le_of_ble_eq_true rfl) dX6_who_6 ?_
  rintro _ _ ⟨rfl, rfl⟩
  refine z_top (v' := .int (bI (okN set 1073741824))) (by rw [m_in_lit (N := 1073741824) (by decide)]) ?_
  refine z_if_eqB C 24 dX6_who_9 (by decide) (fun h => absurd h (by rw [hs]; decide)) (fun _ => ?_)
  refine z_iload_n C dX6_who_12 rfl (show zlk _ 2 = some (.int (nI 2)) from rfl) ?_
  refine z_i2l C dX6_who_13 ?_
  refine z_lconst C (v := 0) dX6_who_14 (by decide) ?_
  refine z_ldc2 C (v := 2) (by decide +kernel) dX6_who_15 ?_
  refine z_callSi C (As := [.long (Int32.toInt64 (nI 2)), .long 0, .long (2)]) (rest := []) (c_X6_in l θ _ (Int32.toInt64 (nI 2)) 0 (2)) gX6_who_X6_in rfl 3 (by decide +kernel) (by decide) (by decide) rfl rfl (Nat.le_of_ble_eq_true rfl) dX6_who_18 ?_
  rintro _ _ ⟨rfl, rfl⟩
  refine z_top (v' := .int (bI (okN (nI 2) 3))) (by rw [m_in_lit (N := 3) (by decide)]) ?_
  refine z_if_neB C 27 dX6_who_21 (by decide) (fun _ => ?_) (fun h => absurd h (by rw [okN_lt (by decide) (by decide)]; decide))
  refine z_iconst C (v := nI 0) dX6_who_27 (by decide) ?_
  refine z_istore_n C [(3, .int (nI 0)), (0, .ref (ad 0)), (1, .int set), (2, .int (nI 2))] dX6_who_28 rfl (by decide) rfl ?_
  refine z_iconst C (v := nI 0) dX6_who_29 (by decide) ?_
  refine z_istore C [(4, .int (nI 0)), (3, .int (nI 0)), (0, .ref (ad 0)), (1, .int set), (2, .int (nI 2))] dX6_who_30 (by decide) rfl ?_
  refine z_iconst C (v := (-1)) dX6_who_32 (by decide) ?_
  refine z_istore C [(5, .int (-1)), (4, .int (nI 0)), (3, .int (nI 0)), (0, .ref (ad 0)), (1, .int set), (2, .int (nI 2))] dX6_who_33 (by decide) rfl ?_
  refine z_iconst C (v := nI 0) dX6_who_35 (by decide) ?_
  refine z_istore C [(6, .int (nI 0)), (5, .int (-1)), (4, .int (nI 0)), (3, .int (nI 0)), (0, .ref (ad 0)), (1, .int set), (2, .int (nI 2))] dX6_who_36 (by decide) rfl ?_
  refine z_lv (lv' := [(0, .ref (ad 0)), (1, .int set), (2, .int (nI 2)), (3, .int (nI ((m_whO (r 2) set 0).1))), (4, .int ((m_whO (r 2) set 0).2.1)), (5, .int ((m_whO (r 2) set 0).2.2)), (6, .int (nI 0))]) rfl ?_
  refine z_up (fun s => Z κ (MW θ ad n g r) 38 [(0, .ref (ad 0)), (1, .int set), (2, .int (nI 2)), (3, .int (nI ((m_whO (r 2) set s).1))), (4, .int ((m_whO (r 2) set s).2.1)), (5, .int ((m_whO (r 2) set s).2.2)), (6, .int (nI s))] []) (n 1) ?_ ?_ 0 (by omega)
  · refine z_iload C dX6_who_38 (show zlk _ 6 = some (.int (nI (n 1))) from rfl) ?_
    refine z_aload_n C dX6_who_40 rfl (show zlk _ 0 = some (.ref (ad 0)) from rfl) ?_
    refine z_mg C hin 1 (by decide) (by decide +kernel) (v := .int (nI (n 1))) mf_1 dX6_who_41 ?_
    refine z_icmp_geT C 119 dX6_who_44 (by decide) (by omega) (by omega) (by omega) ?_
    refine z_iload_n C dX6_who_119 rfl (show zlk _ 2 = some (.int (nI 2)) from rfl) ?_
    refine z_if_neN C 127 dX6_who_120 (by decide) (by decide) (fun _ => ?_) (fun h => absurd h (by decide))
    refine z_iload_n C dX6_who_127 rfl (show zlk _ 2 = some (.int (nI 2)) from rfl) ?_
    refine z_iconst C (v := nI 1) dX6_who_128 (by decide) ?_
    refine z_icmp_neT C 137 dX6_who_129 (by decide) (by omega) (by omega) (by decide) ?_
    refine z_iload C dX6_who_137 (show zlk _ 5 = some (.int ((m_whO (r 2) set (n 1)).2.2)) from rfl) ?_
    exact E _ _ _ _ (⟨rfl, rfl⟩) (rfl) dX6_who_139
  · intro s hk38 ih38
    refine z_iload C dX6_who_38 (show zlk _ 6 = some (.int (nI s)) from rfl) ?_
    refine z_aload_n C dX6_who_40 rfl (show zlk _ 0 = some (.ref (ad 0)) from rfl) ?_
    refine z_mg C hin 1 (by decide) (by decide +kernel) (v := .int (nI (n 1))) mf_1 dX6_who_41 ?_
    refine z_icmp_geF C 119 dX6_who_44 (by decide) (by omega) (by omega) (by omega) ?_
    refine z_bipush C (v := (-3)) dX6_who_47 (by decide) ?_
    refine z_istore C [(7, .int (-3)), (0, .ref (ad 0)), (1, .int set), (2, .int (nI 2)), (3, .int (nI ((m_whO (r 2) set s).1))), (4, .int ((m_whO (r 2) set s).2.1)), (5, .int ((m_whO (r 2) set s).2.2)), (6, .int (nI s))] dX6_who_49 (by decide) rfl ?_
    refine z_lv (lv' := [(0, .ref (ad 0)), (1, .int set), (2, .int (nI 2)), (3, .int (nI ((m_whI (r 2) set s (m_whO (r 2) set s) 0).1))), (4, .int ((m_whI (r 2) set s (m_whO (r 2) set s) 0).2.1)), (5, .int ((m_whI (r 2) set s (m_whO (r 2) set s) 0).2.2)), (6, .int (nI s)), (7, .int (m_by 0))]) rfl ?_
    refine z_up (fun k => Z κ (MW θ ad n g r) 51 [(0, .ref (ad 0)), (1, .int set), (2, .int (nI 2)), (3, .int (nI ((m_whI (r 2) set s (m_whO (r 2) set s) k).1))), (4, .int ((m_whI (r 2) set s (m_whO (r 2) set s) k).2.1)), (5, .int ((m_whI (r 2) set s (m_whO (r 2) set s) k).2.2)), (6, .int (nI s)), (7, .int (m_by k))] []) (12) ?_ ?_ 0 (by omega)
    · refine z_iload C dX6_who_51 (show zlk _ 7 = some (.int (m_by 12)) from rfl) ?_
      refine z_bipush C (v := nI 8) dX6_who_53 (by decide) ?_
      refine z_icmp_gt C 113 dX6_who_55 (by decide) (fun h55t_1 => ?_) (fun h55t_1 => absurd h55t_1 (fun z => z (by decide)))
      refine z_iincN C [(6, .int (nI (s + 1))), (0, .ref (ad 0)), (1, .int set), (2, .int (nI 2)), (3, .int (nI ((m_whI (r 2) set s (m_whO (r 2) set s) 12).1))), (4, .int ((m_whI (r 2) set s (m_whO (r 2) set s) 12).2.1)), (5, .int ((m_whI (r 2) set s (m_whO (r 2) set s) 12).2.2)), (7, .int (m_by 12))] dX6_who_113 rfl (by decide) rfl ?_
      refine z_goto C 38 dX6_who_116 (by decide) ?_
      exact z_to (ih38) (rfl) (rfl)
    · intro k hk51 ih51
      refine z_iload C dX6_who_51 (show zlk _ 7 = some (.int (m_by k)) from rfl) ?_
      refine z_bipush C (v := nI 8) dX6_who_53 (by decide) ?_
      refine z_icmp_gt C 113 dX6_who_55 (by decide) (fun h55n_2 => absurd h55n_2 (m_by_lt hk51)) (fun h55n_2 => ?_)
      refine z_aload_n C dX6_who_58 rfl (show zlk _ 0 = some (.ref (ad 0)) from rfl) ?_
      refine z_mg C hin 2 (by decide) (by decide +kernel) (v := .ref (ad 2)) mf_2 dX6_who_59 ?_
      refine z_iload C dX6_who_62 (show zlk _ 6 = some (.int (nI s)) from rfl) ?_
      refine z_iald C (f := (r 2)) 1 mr_2 s rfl (by omega) (by decide) dX6_who_64 ?_
      refine z_iload C dX6_who_65 (show zlk _ 7 = some (.int (m_by k)) from rfl) ?_
      refine z_callSi C (As := [.int ((r 2) s), .int (m_by k)]) (rest := []) (c_X6_shifted l θ _ ((r 2) s) (m_by k)) gX6_who_X6_shifted rfl 2 (by decide +kernel) (by decide) (by decide) rfl rfl (Nat.le_of_ble_eq_true rfl) dX6_who_67 ?_
      rintro _ _ ⟨rfl, rfl⟩
      refine z_iload_n C dX6_who_70 rfl (show zlk _ 1 = some (.int set) from rfl) ?_
      refine z_icmp_ne C 107 dX6_who_71 (by decide) (fun h71t_3 => ?_) (fun h71n_3 => ?_)
      · refine z_iinc C [(7, .int (m_by k + 1)), (0, .ref (ad 0)), (1, .int set), (2, .int (nI 2)), (3, .int (nI ((m_whI (r 2) set s (m_whO (r 2) set s) k).1))), (4, .int ((m_whI (r 2) set s (m_whO (r 2) set s) k).2.1)), (5, .int ((m_whI (r 2) set s (m_whO (r 2) set s) k).2.2)), (6, .int (nI s))] dX6_who_107 rfl rfl (by decide) rfl ?_
        refine z_goto C 51 dX6_who_110 (by decide) ?_
        exact z_to (ih51) (rfl) (by simp [zlk, m_whI, m_by_s, h55n_2, h71t_3])
      · refine z_iload_n C dX6_who_74 rfl (show zlk _ 3 = some (.int (nI ((m_whI (r 2) set s (m_whO (r 2) set s) k).1))) from rfl) ?_
        refine z_if_neN C 91 dX6_who_75 (by decide) (by have h1 := m_whI_le (r 2) set s (m_whO (r 2) set s) k; have h2 := m_whO_le (r 2) set s; omega) (fun h75t_4 => ?_) (fun h75n_4 => ?_)
        · refine z_iload C dX6_who_91 (show zlk _ 5 = some (.int ((m_whI (r 2) set s (m_whO (r 2) set s) k).2.2)) from rfl) ?_
          refine z_istore C [(5, .int ((m_whI (r 2) set s (m_whO (r 2) set s) k).2.2)), (0, .ref (ad 0)), (1, .int set), (2, .int (nI 2)), (3, .int (nI ((m_whI (r 2) set s (m_whO (r 2) set s) k).1))), (4, .int ((m_whI (r 2) set s (m_whO (r 2) set s) k).2.1)), (6, .int (nI s)), (7, .int (m_by k))] dX6_who_93 (by decide) rfl ?_
          refine z_iload C dX6_who_95 (show zlk _ 4 = some (.int ((m_whI (r 2) set s (m_whO (r 2) set s) k).2.1)) from rfl) ?_
          refine z_iconst C (v := nI 1) dX6_who_97 (by decide) ?_
          refine z_iload C dX6_who_98 (show zlk _ 6 = some (.int (nI s)) from rfl) ?_
          refine z_ishl C dX6_who_100 ?_
          refine z_ior C dX6_who_101 ?_
          refine z_istore C [(4, .int (((m_whI (r 2) set s (m_whO (r 2) set s) k).2.1) ||| ((nI 1) <<< ((nI s) &&& 31)))), (5, .int ((m_whI (r 2) set s (m_whO (r 2) set s) k).2.2)), (0, .ref (ad 0)), (1, .int set), (2, .int (nI 2)), (3, .int (nI ((m_whI (r 2) set s (m_whO (r 2) set s) k).1))), (6, .int (nI s)), (7, .int (m_by k))] dX6_who_102 (by decide) rfl ?_
          refine z_iincN C [(3, .int (nI ((m_whI (r 2) set s (m_whO (r 2) set s) k).1 + 1))), (4, .int (((m_whI (r 2) set s (m_whO (r 2) set s) k).2.1) ||| ((nI 1) <<< ((nI s) &&& 31)))), (5, .int ((m_whI (r 2) set s (m_whO (r 2) set s) k).2.2)), (0, .ref (ad 0)), (1, .int set), (2, .int (nI 2)), (6, .int (nI s)), (7, .int (m_by k))] dX6_who_104 rfl (by decide) rfl ?_
          refine z_iinc C [(7, .int (m_by k + 1)), (3, .int (nI ((m_whI (r 2) set s (m_whO (r 2) set s) k).1 + 1))), (4, .int (((m_whI (r 2) set s (m_whO (r 2) set s) k).2.1) ||| ((nI 1) <<< ((nI s) &&& 31)))), (5, .int ((m_whI (r 2) set s (m_whO (r 2) set s) k).2.2)), (0, .ref (ad 0)), (1, .int set), (2, .int (nI 2)), (6, .int (nI s))] dX6_who_107 rfl rfl (by decide) rfl ?_
          refine z_goto C 51 dX6_who_110 (by decide) ?_
          exact z_to (ih51) (rfl) (by simp [zlk, m_whI, m_by_s, h55n_2, h71n_3, h75t_4])
        · refine z_bipush C (v := nI 100) dX6_who_78 (by decide) ?_
          refine z_iload C dX6_who_80 (show zlk _ 6 = some (.int (nI s)) from rfl) ?_
          refine z_imulN C dX6_who_82 ?_
          refine z_iload C dX6_who_83 (show zlk _ 7 = some (.int (m_by k)) from rfl) ?_
          refine z_iadd C dX6_who_85 ?_
          refine z_iconst C (v := nI 3) dX6_who_86 (by decide) ?_
          refine z_iadd C dX6_who_87 ?_
          refine z_goto C 93 dX6_who_88 (by decide) ?_
          refine z_istore C [(5, .int (((nI (100 * s)) + (m_by k)) + (nI 3))), (0, .ref (ad 0)), (1, .int set), (2, .int (nI 2)), (3, .int (nI ((m_whI (r 2) set s (m_whO (r 2) set s) k).1))), (4, .int ((m_whI (r 2) set s (m_whO (r 2) set s) k).2.1)), (6, .int (nI s)), (7, .int (m_by k))] dX6_who_93 (by decide) rfl ?_
          refine z_iload C dX6_who_95 (show zlk _ 4 = some (.int ((m_whI (r 2) set s (m_whO (r 2) set s) k).2.1)) from rfl) ?_
          refine z_iconst C (v := nI 1) dX6_who_97 (by decide) ?_
          refine z_iload C dX6_who_98 (show zlk _ 6 = some (.int (nI s)) from rfl) ?_
          refine z_ishl C dX6_who_100 ?_
          refine z_ior C dX6_who_101 ?_
          refine z_istore C [(4, .int (((m_whI (r 2) set s (m_whO (r 2) set s) k).2.1) ||| ((nI 1) <<< ((nI s) &&& 31)))), (5, .int (((nI (100 * s)) + (m_by k)) + (nI 3))), (0, .ref (ad 0)), (1, .int set), (2, .int (nI 2)), (3, .int (nI ((m_whI (r 2) set s (m_whO (r 2) set s) k).1))), (6, .int (nI s)), (7, .int (m_by k))] dX6_who_102 (by decide) rfl ?_
          refine z_iincN C [(3, .int (nI ((m_whI (r 2) set s (m_whO (r 2) set s) k).1 + 1))), (4, .int (((m_whI (r 2) set s (m_whO (r 2) set s) k).2.1) ||| ((nI 1) <<< ((nI s) &&& 31)))), (5, .int (((nI (100 * s)) + (m_by k)) + (nI 3))), (0, .ref (ad 0)), (1, .int set), (2, .int (nI 2)), (6, .int (nI s)), (7, .int (m_by k))] dX6_who_104 rfl (by decide) rfl ?_
          refine z_iinc C [(7, .int (m_by k + 1)), (3, .int (nI ((m_whI (r 2) set s (m_whO (r 2) set s) k).1 + 1))), (4, .int (((m_whI (r 2) set s (m_whO (r 2) set s) k).2.1) ||| ((nI 1) <<< ((nI s) &&& 31)))), (5, .int (((nI (100 * s)) + (m_by k)) + (nI 3))), (0, .ref (ad 0)), (1, .int set), (2, .int (nI 2)), (6, .int (nI s))] dX6_who_107 rfl rfl (by decide) rfl ?_
          refine z_goto C 51 dX6_who_110 (by decide) ?_
          exact z_to (ih51) (rfl) (by simp [zlk, m_whI, m_by_s, h55n_2, h71n_3, h75n_4])

def m_paI (o : Nat → Int32) (set : Int32) (s q : Nat) (a : Nat × Int32) : Nat → Nat × Int32
  | 0 => a
  | k + 1 => if m_sh (o s) (nI (k / 6)) 30 ||| m_sh (o q) (nI (k % 6)) 30 = set then ((m_paI o set s q a k).1 + 1, if (m_paI o set s q a k).1 = 0 then nI (1000 * s + 100 * q + 10 * (k / 6) + k % 6) else (m_paI o set s q a k).2) else m_paI o set s q a k
def m_paQ (o : Nat → Int32) (set : Int32) (s : Nat) (a : Nat × Int32) : Nat → Nat × Int32
  | 0 => a
  | q + 1 => if q < s + 1 then a else m_paI o set s q (m_paQ o set s a q) 36
def m_paO (o : Nat → Int32) (set : Int32) (S : Nat) : Nat → Nat × Int32
  | 0 => (0, (-1))
  | s + 1 => m_paQ o set s (m_paO o set S s) S
theorem m_paI_le (o : Nat → Int32) (set : Int32) (s q : Nat) (a : Nat × Int32) : ∀ k, (m_paI o set s q a k).1 ≤ a.1 + k
  | 0 => by simp [m_paI]
  | k + 1 => by
    have := m_paI_le o set s q a k
    unfold m_paI
    split <;> (try dsimp only) <;> omega
theorem m_paQ_le (o : Nat → Int32) (set : Int32) (s : Nat) (a : Nat × Int32) : ∀ q, (m_paQ o set s a q).1 ≤ a.1 + 36 * q
  | 0 => by simp [m_paQ]
  | q + 1 => by
    have h1 := m_paQ_le o set s a q
    have h2 := m_paI_le o set s q (m_paQ o set s a q) 36
    unfold m_paQ
    split <;> omega
theorem m_paO_le (o : Nat → Int32) (set : Int32) (S : Nat) : ∀ s, (m_paO o set S s).1 ≤ 36 * S * s
  | 0 => by simp [m_paO]
  | s + 1 => by
    have h1 := m_paO_le o set S s
    have h2 := m_paQ_le o set s (m_paO o set S s) S
    unfold m_paO
    rw [Nat.mul_succ]
    omega
theorem m_paO_b (o : Nat → Int32) (set : Int32) {S s : Nat} (hS : S ≤ 6) (hs : s ≤ 6) : (m_paO o set S s).1 ≤ 1296 := by
  have h1 := m_paO_le o set S s
  have h2 : 36 * S * s ≤ 36 * 6 * 6 := Nat.mul_le_mul (Nat.mul_le_mul_left _ hS) hs
  omega
theorem m_paQ_0 (o : Nat → Int32) (set : Int32) (s : Nat) (a : Nat × Int32) : m_paQ o set s a (s + 1) = a := by unfold m_paQ; rw [if_pos (by omega)]
theorem m_paQ_s (o : Nat → Int32) (set : Int32) (s : Nat) (a : Nat × Int32) {q : Nat} (h : s + 1 ≤ q) : m_paQ o set s a (q + 1) = m_paI o set s q (m_paQ o set s a q) 36 := by rw [m_paQ, if_neg (by omega)]
set_option maxHeartbeats 4000000 in
set_option maxRecDepth 100000 in
theorem c_X6_parted_1 (l : Launch) (θ : zH) (ad : Nat → Nat) (n : Nat → Nat) (g : Int32) (r : Nat → Nat → Int32) (set x : Int32) (hs : okN set 1073741824 = false) : cI l yX6_parted wsX6_parted 2 θ [.ref (ad 0), .int set, .int x] (MW θ ad n g r) (fun r0 Y => r0 = (-1000000002) ∧ Y = MW θ ad n g r) := by
  refine z_cI (by decide) rfl rfl (Nat.le_of_ble_eq_true rfl) (lv := [(0, .ref (ad 0)), (1, .int set), (2, .int x)]) rfl (fun κ C E => ?_)
  refine z_iload_n C dX6_parted_0 rfl (show zlk _ 1 = some (.int set) from rfl) ?_
  refine z_i2l C dX6_parted_1 ?_
  refine z_lconst C (v := 0) dX6_parted_2 (by decide) ?_
  refine z_ldc2 C (v := 1073741823) (by decide +kernel) dX6_parted_3 ?_
  refine z_callSi C (As := [.long (Int32.toInt64 set), .long 0, .long (1073741823)]) (rest := []) (c_X6_in l θ _ (Int32.toInt64 set) 0 (1073741823)) gX6_parted_X6_in rfl 3 (by decide +kernel) (by decide) (by decide) rfl rfl (Nat.le_of_ble_eq_true rfl) dX6_parted_6 ?_
  rintro _ _ ⟨rfl, rfl⟩
  refine z_top (v' := .int (bI (okN set 1073741824))) (by rw [m_in_lit (N := 1073741824) (by decide)]) ?_
  refine z_if_eqB C 22 dX6_parted_9 (by decide) (fun _ => ?_) (fun h => absurd h (by rw [hs]; decide))
  refine z_ldc C (v := (-1000000002)) (by decide +kernel) dX6_parted_22 ?_
  exact E _ _ _ _ (⟨rfl, rfl⟩) (rfl) dX6_parted_24

set_option maxHeartbeats 4000000 in
set_option maxRecDepth 100000 in
theorem c_X6_parted_2 (l : Launch) (θ : zH) (ad : Nat → Nat) (n : Nat → Nat) (g : Int32) (r : Nat → Nat → Int32) (set x : Int32) (hs : okN set 1073741824 = true) (hx : okN x 2 = false) : cI l yX6_parted wsX6_parted 2 θ [.ref (ad 0), .int set, .int x] (MW θ ad n g r) (fun r0 Y => r0 = (-1000000002) ∧ Y = MW θ ad n g r) := by
  refine z_cI (by decide) rfl rfl (Nat.le_of_ble_eq_true rfl) (lv := [(0, .ref (ad 0)), (1, .int set), (2, .int x)]) rfl (fun κ C E => ?_)
  refine z_iload_n C dX6_parted_0 rfl (show zlk _ 1 = some (.int set) from rfl) ?_
  refine z_i2l C dX6_parted_1 ?_
  refine z_lconst C (v := 0) dX6_parted_2 (by decide) ?_
  refine z_ldc2 C (v := 1073741823) (by decide +kernel) dX6_parted_3 ?_
  refine z_callSi C (As := [.long (Int32.toInt64 set), .long 0, .long (1073741823)]) (rest := []) (c_X6_in l θ _ (Int32.toInt64 set) 0 (1073741823)) gX6_parted_X6_in rfl 3 (by decide +kernel) (by decide) (by decide) rfl rfl (Nat.le_of_ble_eq_true rfl) dX6_parted_6 ?_
  rintro _ _ ⟨rfl, rfl⟩
  refine z_top (v' := .int (bI (okN set 1073741824))) (by rw [m_in_lit (N := 1073741824) (by decide)]) ?_
  refine z_if_eqB C 22 dX6_parted_9 (by decide) (fun h => absurd h (by rw [hs]; decide)) (fun _ => ?_)
  refine z_iload_n C dX6_parted_12 rfl (show zlk _ 2 = some (.int x) from rfl) ?_
  refine z_i2l C dX6_parted_13 ?_
  refine z_lconst C (v := 0) dX6_parted_14 (by decide) ?_
  refine z_lconst C (v := 1) dX6_parted_15 (by decide) ?_
  refine z_callSi C (As := [.long (Int32.toInt64 x), .long 0, .long 1]) (rest := []) (c_X6_in l θ _ (Int32.toInt64 x) 0 1) gX6_parted_X6_in rfl 3 (by decide +kernel) (by decide) (by decide) rfl rfl (Nat.le_of_ble_eq_true rfl) dX6_parted_16 ?_
  rintro _ _ ⟨rfl, rfl⟩
  refine z_top (v' := .int (bI (okN x 2))) (by rw [m_in_lit (N := 2) (by decide)]) ?_
  refine z_if_neB C 25 dX6_parted_19 (by decide) (fun h => absurd h (by rw [hx]; decide)) (fun _ => ?_)
  refine z_ldc C (v := (-1000000002)) (by decide +kernel) dX6_parted_22 ?_
  exact E _ _ _ _ (⟨rfl, rfl⟩) (rfl) dX6_parted_24

set_option maxHeartbeats 4000000 in
set_option maxRecDepth 100000 in
theorem c_X6_parted_30 (l : Launch) (θ : zH) (ad : Nat → Nat) (n : Nat → Nat) (g : Int32) (r : Nat → Nat → Int32) (set : Int32) (hS : n 1 ≤ 6) (hs : okN set 1073741824 = true) : cI l yX6_parted wsX6_parted 2 θ [.ref (ad 0), .int set, .int (nI 0)] (MW θ ad n g r) (fun r0 Y => r0 = nI (m_paO (r 2) set (n 1) (n 1)).1 ∧ Y = MW θ ad n g r) := by
  refine z_cI (by decide) rfl rfl (Nat.le_of_ble_eq_true rfl) (lv := [(0, .ref (ad 0)), (1, .int set), (2, .int (nI 0))]) rfl (fun κ C E => ?_)
  have hin : ∀ w ∈ wsX60, w ∈ wsX6_parted := by decide +kernel
  refine z_iload_n C dX6_parted_0 rfl (show zlk _ 1 = some (.int set) from rfl) ?_
  refine z_i2l C dX6_parted_1 ?_
  refine z_lconst C (v := 0) dX6_parted_2 (by decide) ?_
  refine z_ldc2 C (v := 1073741823) (by decide +kernel) dX6_parted_3 ?_
  refine z_callSi C (As := [.long (Int32.toInt64 set), .long 0, .long (1073741823)]) (rest := []) (c_X6_in l θ _ (Int32.toInt64 set) 0 (1073741823)) gX6_parted_X6_in rfl 3 (by decide +kernel) (by decide) (by decide) rfl rfl (Nat.le_of_ble_eq_true rfl) dX6_parted_6 ?_
  rintro _ _ ⟨rfl, rfl⟩
  refine z_top (v' := .int (bI (okN set 1073741824))) (by rw [m_in_lit (N := 1073741824) (by decide)]) ?_
  refine z_if_eqB C 22 dX6_parted_9 (by decide) (fun h => absurd h (by rw [hs]; decide)) (fun _ => ?_)
  refine z_iload_n C dX6_parted_12 rfl (show zlk _ 2 = some (.int (nI 0)) from rfl) ?_
  refine z_i2l C dX6_parted_13 ?_
  refine z_lconst C (v := 0) dX6_parted_14 (by decide) ?_
  refine z_lconst C (v := 1) dX6_parted_15 (by decide) ?_
  refine z_callSi C (As := [.long (Int32.toInt64 (nI 0)), .long 0, .long 1]) (rest := []) (c_X6_in l θ _ (Int32.toInt64 (nI 0)) 0 1) gX6_parted_X6_in rfl 3 (by decide +kernel) (by decide) (by decide) rfl rfl (Nat.le_of_ble_eq_true rfl) dX6_parted_16 ?_
  rintro _ _ ⟨rfl, rfl⟩
  refine z_top (v' := .int (bI (okN (nI 0) 2))) (by rw [m_in_lit (N := 2) (by decide)]) ?_
  refine z_if_neB C 25 dX6_parted_19 (by decide) (fun _ => ?_) (fun h => absurd h (by rw [okN_lt (by decide) (by decide)]; decide))
  refine z_iconst C (v := nI 0) dX6_parted_25 (by decide) ?_
  refine z_istore_n C [(3, .int (nI 0)), (0, .ref (ad 0)), (1, .int set), (2, .int (nI 0))] dX6_parted_26 rfl (by decide) rfl ?_
  refine z_iconst C (v := (-1)) dX6_parted_27 (by decide) ?_
  refine z_istore C [(4, .int (-1)), (3, .int (nI 0)), (0, .ref (ad 0)), (1, .int set), (2, .int (nI 0))] dX6_parted_28 (by decide) rfl ?_
  refine z_iconst C (v := nI 0) dX6_parted_30 (by decide) ?_
  refine z_istore C [(5, .int (nI 0)), (4, .int (-1)), (3, .int (nI 0)), (0, .ref (ad 0)), (1, .int set), (2, .int (nI 0))] dX6_parted_31 (by decide) rfl ?_
  refine z_lv (lv' := [(0, .ref (ad 0)), (1, .int set), (2, .int (nI 0)), (3, .int (nI ((m_paO (r 2) set (n 1) 0).1))), (4, .int ((m_paO (r 2) set (n 1) 0).2)), (5, .int (nI 0))]) rfl ?_
  refine z_up (fun s => Z κ (MW θ ad n g r) 33 [(0, .ref (ad 0)), (1, .int set), (2, .int (nI 0)), (3, .int (nI ((m_paO (r 2) set (n 1) s).1))), (4, .int ((m_paO (r 2) set (n 1) s).2)), (5, .int (nI s))] []) (n 1) ?_ ?_ 0 (by omega)
  · refine z_iload C dX6_parted_33 (show zlk _ 5 = some (.int (nI (n 1))) from rfl) ?_
    refine z_aload_n C dX6_parted_35 rfl (show zlk _ 0 = some (.ref (ad 0)) from rfl) ?_
    refine z_mg C hin 1 (by decide) (by decide +kernel) (v := .int (nI (n 1))) mf_1 dX6_parted_36 ?_
    refine z_icmp_geT C 161 dX6_parted_39 (by decide) (by omega) (by omega) (by omega) ?_
    refine z_iload_n C dX6_parted_161 rfl (show zlk _ 2 = some (.int (nI 0)) from rfl) ?_
    refine z_if_neN C 169 dX6_parted_162 (by decide) (by decide) (fun h => absurd h (by decide)) (fun _ => ?_)
    refine z_iload_n C dX6_parted_165 rfl (show zlk _ 3 = some (.int (nI ((m_paO (r 2) set (n 1) (n 1)).1))) from rfl) ?_
    refine z_goto C 171 dX6_parted_166 (by decide) ?_
    exact E _ _ _ _ (⟨rfl, rfl⟩) (rfl) dX6_parted_171
  · intro s hk33 ih33
    refine z_iload C dX6_parted_33 (show zlk _ 5 = some (.int (nI s)) from rfl) ?_
    refine z_aload_n C dX6_parted_35 rfl (show zlk _ 0 = some (.ref (ad 0)) from rfl) ?_
    refine z_mg C hin 1 (by decide) (by decide +kernel) (v := .int (nI (n 1))) mf_1 dX6_parted_36 ?_
    refine z_icmp_geF C 161 dX6_parted_39 (by decide) (by omega) (by omega) (by omega) ?_
    refine z_iload C dX6_parted_42 (show zlk _ 5 = some (.int (nI s)) from rfl) ?_
    refine z_iconst C (v := nI 1) dX6_parted_44 (by decide) ?_
    refine z_iaddN C dX6_parted_45 ?_
    refine z_istore C [(6, .int (nI (s + 1))), (0, .ref (ad 0)), (1, .int set), (2, .int (nI 0)), (3, .int (nI ((m_paO (r 2) set (n 1) s).1))), (4, .int ((m_paO (r 2) set (n 1) s).2)), (5, .int (nI s))] dX6_parted_46 (by decide) rfl ?_
    refine z_lv (lv' := [(0, .ref (ad 0)), (1, .int set), (2, .int (nI 0)), (3, .int (nI ((m_paQ (r 2) set s (m_paO (r 2) set (n 1) s) (s + 1)).1))), (4, .int ((m_paQ (r 2) set s (m_paO (r 2) set (n 1) s) (s + 1)).2)), (5, .int (nI s)), (6, .int (nI (s + 1)))]) (by rw [m_paQ_0]; rfl) ?_
    refine z_up (fun q => s + 1 ≤ q → Z κ (MW θ ad n g r) 48 [(0, .ref (ad 0)), (1, .int set), (2, .int (nI 0)), (3, .int (nI ((m_paQ (r 2) set s (m_paO (r 2) set (n 1) s) q).1))), (4, .int ((m_paQ (r 2) set s (m_paO (r 2) set (n 1) s) q).2)), (5, .int (nI s)), (6, .int (nI q))] []) (n 1) ?_ ?_ (s + 1) (by omega) (Nat.le_refl _)
    · intro hinv48
      refine z_iload C dX6_parted_48 (show zlk _ 6 = some (.int (nI (n 1))) from rfl) ?_
      refine z_aload_n C dX6_parted_50 rfl (show zlk _ 0 = some (.ref (ad 0)) from rfl) ?_
      refine z_mg C hin 1 (by decide) (by decide +kernel) (v := .int (nI (n 1))) mf_1 dX6_parted_51 ?_
      refine z_icmp_geT C 155 dX6_parted_54 (by decide) (by omega) (by omega) (by omega) ?_
      refine z_iincN C [(5, .int (nI (s + 1))), (0, .ref (ad 0)), (1, .int set), (2, .int (nI 0)), (3, .int (nI ((m_paQ (r 2) set s (m_paO (r 2) set (n 1) s) (n 1)).1))), (4, .int ((m_paQ (r 2) set s (m_paO (r 2) set (n 1) s) (n 1)).2)), (6, .int (nI (n 1)))] dX6_parted_155 rfl (by decide) rfl ?_
      refine z_goto C 33 dX6_parted_158 (by decide) ?_
      exact z_to (ih33) (rfl) (rfl)
    · intro q hk48 ih48
      intro hinv48
      refine z_iload C dX6_parted_48 (show zlk _ 6 = some (.int (nI q)) from rfl) ?_
      refine z_aload_n C dX6_parted_50 rfl (show zlk _ 0 = some (.ref (ad 0)) from rfl) ?_
      refine z_mg C hin 1 (by decide) (by decide +kernel) (v := .int (nI (n 1))) mf_1 dX6_parted_51 ?_
      refine z_icmp_geF C 155 dX6_parted_54 (by decide) (by omega) (by omega) (by omega) ?_
      refine z_iconst C (v := nI 0) dX6_parted_57 (by decide) ?_
      refine z_istore C [(7, .int (nI 0)), (0, .ref (ad 0)), (1, .int set), (2, .int (nI 0)), (3, .int (nI ((m_paQ (r 2) set s (m_paO (r 2) set (n 1) s) q).1))), (4, .int ((m_paQ (r 2) set s (m_paO (r 2) set (n 1) s) q).2)), (5, .int (nI s)), (6, .int (nI q))] dX6_parted_58 (by decide) rfl ?_
      refine z_lv (lv' := [(0, .ref (ad 0)), (1, .int set), (2, .int (nI 0)), (3, .int (nI ((m_paI (r 2) set s q (m_paQ (r 2) set s (m_paO (r 2) set (n 1) s) q) 0).1))), (4, .int ((m_paI (r 2) set s q (m_paQ (r 2) set s (m_paO (r 2) set (n 1) s) q) 0).2)), (5, .int (nI s)), (6, .int (nI q)), (7, .int (nI 0))]) rfl ?_
      refine z_up (fun k => Z κ (MW θ ad n g r) 60 [(0, .ref (ad 0)), (1, .int set), (2, .int (nI 0)), (3, .int (nI ((m_paI (r 2) set s q (m_paQ (r 2) set s (m_paO (r 2) set (n 1) s) q) k).1))), (4, .int ((m_paI (r 2) set s q (m_paQ (r 2) set s (m_paO (r 2) set (n 1) s) q) k).2)), (5, .int (nI s)), (6, .int (nI q)), (7, .int (nI k))] []) (36) ?_ ?_ 0 (by omega)
      · refine z_iload C dX6_parted_60 (show zlk _ 7 = some (.int (nI 36)) from rfl) ?_
        refine z_bipush C (v := nI 36) dX6_parted_62 (by decide) ?_
        refine z_icmp_geT C 149 dX6_parted_64 (by decide) (by omega) (by omega) (by omega) ?_
        refine z_iincN C [(6, .int (nI (q + 1))), (0, .ref (ad 0)), (1, .int set), (2, .int (nI 0)), (3, .int (nI ((m_paI (r 2) set s q (m_paQ (r 2) set s (m_paO (r 2) set (n 1) s) q) 36).1))), (4, .int ((m_paI (r 2) set s q (m_paQ (r 2) set s (m_paO (r 2) set (n 1) s) q) 36).2)), (5, .int (nI s)), (7, .int (nI 36))] dX6_parted_149 rfl (by decide) rfl ?_
        refine z_goto C 48 dX6_parted_152 (by decide) ?_
        exact z_to (ih48 (by omega)) (rfl) (by rw [m_paQ_s _ _ _ _ hinv48]; rfl)
      · intro k hk60 ih60
        refine z_iload C dX6_parted_60 (show zlk _ 7 = some (.int (nI k)) from rfl) ?_
        refine z_bipush C (v := nI 36) dX6_parted_62 (by decide) ?_
        refine z_icmp_geF C 149 dX6_parted_64 (by decide) (by omega) (by omega) (by omega) ?_
        refine z_aload_n C dX6_parted_67 rfl (show zlk _ 0 = some (.ref (ad 0)) from rfl) ?_
        refine z_mg C hin 2 (by decide) (by decide +kernel) (v := .ref (ad 2)) mf_2 dX6_parted_68 ?_
        refine z_iload C dX6_parted_71 (show zlk _ 5 = some (.int (nI s)) from rfl) ?_
        refine z_iald C (f := (r 2)) 1 mr_2 s rfl (by omega) (by decide) dX6_parted_73 ?_
        refine z_iload C dX6_parted_74 (show zlk _ 7 = some (.int (nI k)) from rfl) ?_
        refine z_bipush C (v := nI 6) dX6_parted_76 (by decide) ?_
        refine z_idivN C dX6_parted_78 (by omega) (by omega) (by omega) ?_
        refine z_callSi C (As := [.int ((r 2) s), .int (nI (k / 6))]) (rest := []) (c_X6_shifted l θ _ ((r 2) s) (nI (k / 6))) gX6_parted_X6_shifted rfl 2 (by decide +kernel) (by decide) (by decide) rfl rfl (Nat.le_of_ble_eq_true rfl) dX6_parted_79 ?_
        rintro _ _ ⟨rfl, rfl⟩
        refine z_aload_n C dX6_parted_82 rfl (show zlk _ 0 = some (.ref (ad 0)) from rfl) ?_
        refine z_mg C hin 2 (by decide) (by decide +kernel) (v := .ref (ad 2)) mf_2 dX6_parted_83 ?_
        refine z_iload C dX6_parted_86 (show zlk _ 6 = some (.int (nI q)) from rfl) ?_
        refine z_iald C (f := (r 2)) 1 mr_2 q rfl (by omega) (by decide) dX6_parted_88 ?_
        refine z_iload C dX6_parted_89 (show zlk _ 7 = some (.int (nI k)) from rfl) ?_
        refine z_bipush C (v := nI 6) dX6_parted_91 (by decide) ?_
        refine z_iremN C dX6_parted_93 (by omega) (by omega) (by omega) ?_
        refine z_callSi C (As := [.int ((r 2) q), .int (nI (k % 6))]) (rest := [.int (m_sh ((r 2) s) (nI (k / 6)) 30)]) (c_X6_shifted l θ _ ((r 2) q) (nI (k % 6))) gX6_parted_X6_shifted rfl 2 (by decide +kernel) (by decide) (by decide) rfl rfl (Nat.le_of_ble_eq_true rfl) dX6_parted_94 ?_
        rintro _ _ ⟨rfl, rfl⟩
        refine z_ior C dX6_parted_97 ?_
        refine z_iload_n C dX6_parted_98 rfl (show zlk _ 1 = some (.int set) from rfl) ?_
        refine z_icmp_ne C 143 dX6_parted_99 (by decide) (fun h99t_1 => ?_) (fun h99n_1 => ?_)
        · refine z_iincN C [(7, .int (nI (k + 1))), (0, .ref (ad 0)), (1, .int set), (2, .int (nI 0)), (3, .int (nI ((m_paI (r 2) set s q (m_paQ (r 2) set s (m_paO (r 2) set (n 1) s) q) k).1))), (4, .int ((m_paI (r 2) set s q (m_paQ (r 2) set s (m_paO (r 2) set (n 1) s) q) k).2)), (5, .int (nI s)), (6, .int (nI q))] dX6_parted_143 rfl (by decide) rfl ?_
          refine z_goto C 60 dX6_parted_146 (by decide) ?_
          exact z_to (ih60) (rfl) (by simp [zlk, m_paI, hinv48, h99t_1])
        · refine z_iload_n C dX6_parted_102 rfl (show zlk _ 3 = some (.int (nI ((m_paI (r 2) set s q (m_paQ (r 2) set s (m_paO (r 2) set (n 1) s) q) k).1))) from rfl) ?_
          refine z_if_neN C 136 dX6_parted_103 (by decide) (by have h1 := m_paI_le (r 2) set s q (m_paQ (r 2) set s (m_paO (r 2) set (n 1) s) q) k; have h2 := m_paQ_le (r 2) set s (m_paO (r 2) set (n 1) s) q; have h3 := m_paO_b (r 2) set (S := n 1) (s := s) hS (by omega); omega) (fun h103t_2 => ?_) (fun h103n_2 => ?_)
          · refine z_iload C dX6_parted_136 (show zlk _ 4 = some (.int ((m_paI (r 2) set s q (m_paQ (r 2) set s (m_paO (r 2) set (n 1) s) q) k).2)) from rfl) ?_
            refine z_istore C [(4, .int ((m_paI (r 2) set s q (m_paQ (r 2) set s (m_paO (r 2) set (n 1) s) q) k).2)), (0, .ref (ad 0)), (1, .int set), (2, .int (nI 0)), (3, .int (nI ((m_paI (r 2) set s q (m_paQ (r 2) set s (m_paO (r 2) set (n 1) s) q) k).1))), (5, .int (nI s)), (6, .int (nI q)), (7, .int (nI k))] dX6_parted_138 (by decide) rfl ?_
            refine z_iincN C [(3, .int (nI ((m_paI (r 2) set s q (m_paQ (r 2) set s (m_paO (r 2) set (n 1) s) q) k).1 + 1))), (4, .int ((m_paI (r 2) set s q (m_paQ (r 2) set s (m_paO (r 2) set (n 1) s) q) k).2)), (0, .ref (ad 0)), (1, .int set), (2, .int (nI 0)), (5, .int (nI s)), (6, .int (nI q)), (7, .int (nI k))] dX6_parted_140 rfl (by decide) rfl ?_
            refine z_iincN C [(7, .int (nI (k + 1))), (3, .int (nI ((m_paI (r 2) set s q (m_paQ (r 2) set s (m_paO (r 2) set (n 1) s) q) k).1 + 1))), (4, .int ((m_paI (r 2) set s q (m_paQ (r 2) set s (m_paO (r 2) set (n 1) s) q) k).2)), (0, .ref (ad 0)), (1, .int set), (2, .int (nI 0)), (5, .int (nI s)), (6, .int (nI q))] dX6_parted_143 rfl (by decide) rfl ?_
            refine z_goto C 60 dX6_parted_146 (by decide) ?_
            exact z_to (ih60) (rfl) (by simp [zlk, m_paI, hinv48, h99n_1, h103t_2])
          · refine z_sipush C (v := nI 1000) dX6_parted_106 (by decide) ?_
            refine z_iload C dX6_parted_109 (show zlk _ 5 = some (.int (nI s)) from rfl) ?_
            refine z_imulN C dX6_parted_111 ?_
            refine z_bipush C (v := nI 100) dX6_parted_112 (by decide) ?_
            refine z_iload C dX6_parted_114 (show zlk _ 6 = some (.int (nI q)) from rfl) ?_
            refine z_imulN C dX6_parted_116 ?_
            refine z_iaddN C dX6_parted_117 ?_
            refine z_bipush C (v := nI 10) dX6_parted_118 (by decide) ?_
            refine z_iload C dX6_parted_120 (show zlk _ 7 = some (.int (nI k)) from rfl) ?_
            refine z_bipush C (v := nI 6) dX6_parted_122 (by decide) ?_
            refine z_idivN C dX6_parted_124 (by omega) (by omega) (by omega) ?_
            refine z_imulN C dX6_parted_125 ?_
            refine z_iaddN C dX6_parted_126 ?_
            refine z_iload C dX6_parted_127 (show zlk _ 7 = some (.int (nI k)) from rfl) ?_
            refine z_bipush C (v := nI 6) dX6_parted_129 (by decide) ?_
            refine z_iremN C dX6_parted_131 (by omega) (by omega) (by omega) ?_
            refine z_iaddN C dX6_parted_132 ?_
            refine z_goto C 138 dX6_parted_133 (by decide) ?_
            refine z_istore C [(4, .int (nI (1000 * s + (100 * q) + (10 * (k / 6)) + (k % 6)))), (0, .ref (ad 0)), (1, .int set), (2, .int (nI 0)), (3, .int (nI ((m_paI (r 2) set s q (m_paQ (r 2) set s (m_paO (r 2) set (n 1) s) q) k).1))), (5, .int (nI s)), (6, .int (nI q)), (7, .int (nI k))] dX6_parted_138 (by decide) rfl ?_
            refine z_iincN C [(3, .int (nI ((m_paI (r 2) set s q (m_paQ (r 2) set s (m_paO (r 2) set (n 1) s) q) k).1 + 1))), (4, .int (nI (1000 * s + (100 * q) + (10 * (k / 6)) + (k % 6)))), (0, .ref (ad 0)), (1, .int set), (2, .int (nI 0)), (5, .int (nI s)), (6, .int (nI q)), (7, .int (nI k))] dX6_parted_140 rfl (by decide) rfl ?_
            refine z_iincN C [(7, .int (nI (k + 1))), (3, .int (nI ((m_paI (r 2) set s q (m_paQ (r 2) set s (m_paO (r 2) set (n 1) s) q) k).1 + 1))), (4, .int (nI (1000 * s + (100 * q) + (10 * (k / 6)) + (k % 6)))), (0, .ref (ad 0)), (1, .int set), (2, .int (nI 0)), (5, .int (nI s)), (6, .int (nI q))] dX6_parted_143 rfl (by decide) rfl ?_
            refine z_goto C 60 dX6_parted_146 (by decide) ?_
            exact z_to (ih60) (rfl) (by simp [zlk, m_paI, hinv48, h99n_1, h103n_2])

set_option maxHeartbeats 4000000 in
set_option maxRecDepth 100000 in
theorem c_X6_parted_31 (l : Launch) (θ : zH) (ad : Nat → Nat) (n : Nat → Nat) (g : Int32) (r : Nat → Nat → Int32) (set : Int32) (hS : n 1 ≤ 6) (hs : okN set 1073741824 = true) : cI l yX6_parted wsX6_parted 2 θ [.ref (ad 0), .int set, .int (nI 1)] (MW θ ad n g r) (fun r0 Y => r0 = (m_paO (r 2) set (n 1) (n 1)).2 ∧ Y = MW θ ad n g r) := by
  refine z_cI (by decide) rfl rfl (Nat.le_of_ble_eq_true rfl) (lv := [(0, .ref (ad 0)), (1, .int set), (2, .int (nI 1))]) rfl (fun κ C E => ?_)
  have hin : ∀ w ∈ wsX60, w ∈ wsX6_parted := by decide +kernel
  refine z_iload_n C dX6_parted_0 rfl (show zlk _ 1 = some (.int set) from rfl) ?_
  refine z_i2l C dX6_parted_1 ?_
  refine z_lconst C (v := 0) dX6_parted_2 (by decide) ?_
  refine z_ldc2 C (v := 1073741823) (by decide +kernel) dX6_parted_3 ?_
  refine z_callSi C (As := [.long (Int32.toInt64 set), .long 0, .long (1073741823)]) (rest := []) (c_X6_in l θ _ (Int32.toInt64 set) 0 (1073741823)) gX6_parted_X6_in rfl 3 (by decide +kernel) (by decide) (by decide) rfl rfl (Nat.le_of_ble_eq_true rfl) dX6_parted_6 ?_
  rintro _ _ ⟨rfl, rfl⟩
  refine z_top (v' := .int (bI (okN set 1073741824))) (by rw [m_in_lit (N := 1073741824) (by decide)]) ?_
  refine z_if_eqB C 22 dX6_parted_9 (by decide) (fun h => absurd h (by rw [hs]; decide)) (fun _ => ?_)
  refine z_iload_n C dX6_parted_12 rfl (show zlk _ 2 = some (.int (nI 1)) from rfl) ?_
  refine z_i2l C dX6_parted_13 ?_
  refine z_lconst C (v := 0) dX6_parted_14 (by decide) ?_
  refine z_lconst C (v := 1) dX6_parted_15 (by decide) ?_
  refine z_callSi C (As := [.long (Int32.toInt64 (nI 1)), .long 0, .long 1]) (rest := []) (c_X6_in l θ _ (Int32.toInt64 (nI 1)) 0 1) gX6_parted_X6_in rfl 3 (by decide +kernel) (by decide) (by decide) rfl rfl (Nat.le_of_ble_eq_true rfl) dX6_parted_16 ?_
  rintro _ _ ⟨rfl, rfl⟩
  refine z_top (v' := .int (bI (okN (nI 1) 2))) (by rw [m_in_lit (N := 2) (by decide)]) ?_
  refine z_if_neB C 25 dX6_parted_19 (by decide) (fun _ => ?_) (fun h => absurd h (by rw [okN_lt (by decide) (by decide)]; decide))
  refine z_iconst C (v := nI 0) dX6_parted_25 (by decide) ?_
  refine z_istore_n C [(3, .int (nI 0)), (0, .ref (ad 0)), (1, .int set), (2, .int (nI 1))] dX6_parted_26 rfl (by decide) rfl ?_
  refine z_iconst C (v := (-1)) dX6_parted_27 (by decide) ?_
  refine z_istore C [(4, .int (-1)), (3, .int (nI 0)), (0, .ref (ad 0)), (1, .int set), (2, .int (nI 1))] dX6_parted_28 (by decide) rfl ?_
  refine z_iconst C (v := nI 0) dX6_parted_30 (by decide) ?_
  refine z_istore C [(5, .int (nI 0)), (4, .int (-1)), (3, .int (nI 0)), (0, .ref (ad 0)), (1, .int set), (2, .int (nI 1))] dX6_parted_31 (by decide) rfl ?_
  refine z_lv (lv' := [(0, .ref (ad 0)), (1, .int set), (2, .int (nI 1)), (3, .int (nI ((m_paO (r 2) set (n 1) 0).1))), (4, .int ((m_paO (r 2) set (n 1) 0).2)), (5, .int (nI 0))]) rfl ?_
  refine z_up (fun s => Z κ (MW θ ad n g r) 33 [(0, .ref (ad 0)), (1, .int set), (2, .int (nI 1)), (3, .int (nI ((m_paO (r 2) set (n 1) s).1))), (4, .int ((m_paO (r 2) set (n 1) s).2)), (5, .int (nI s))] []) (n 1) ?_ ?_ 0 (by omega)
  · refine z_iload C dX6_parted_33 (show zlk _ 5 = some (.int (nI (n 1))) from rfl) ?_
    refine z_aload_n C dX6_parted_35 rfl (show zlk _ 0 = some (.ref (ad 0)) from rfl) ?_
    refine z_mg C hin 1 (by decide) (by decide +kernel) (v := .int (nI (n 1))) mf_1 dX6_parted_36 ?_
    refine z_icmp_geT C 161 dX6_parted_39 (by decide) (by omega) (by omega) (by omega) ?_
    refine z_iload_n C dX6_parted_161 rfl (show zlk _ 2 = some (.int (nI 1)) from rfl) ?_
    refine z_if_neN C 169 dX6_parted_162 (by decide) (by decide) (fun _ => ?_) (fun h => absurd h (by decide))
    refine z_iload C dX6_parted_169 (show zlk _ 4 = some (.int ((m_paO (r 2) set (n 1) (n 1)).2)) from rfl) ?_
    exact E _ _ _ _ (⟨rfl, rfl⟩) (rfl) dX6_parted_171
  · intro s hk33 ih33
    refine z_iload C dX6_parted_33 (show zlk _ 5 = some (.int (nI s)) from rfl) ?_
    refine z_aload_n C dX6_parted_35 rfl (show zlk _ 0 = some (.ref (ad 0)) from rfl) ?_
    refine z_mg C hin 1 (by decide) (by decide +kernel) (v := .int (nI (n 1))) mf_1 dX6_parted_36 ?_
    refine z_icmp_geF C 161 dX6_parted_39 (by decide) (by omega) (by omega) (by omega) ?_
    refine z_iload C dX6_parted_42 (show zlk _ 5 = some (.int (nI s)) from rfl) ?_
    refine z_iconst C (v := nI 1) dX6_parted_44 (by decide) ?_
    refine z_iaddN C dX6_parted_45 ?_
    refine z_istore C [(6, .int (nI (s + 1))), (0, .ref (ad 0)), (1, .int set), (2, .int (nI 1)), (3, .int (nI ((m_paO (r 2) set (n 1) s).1))), (4, .int ((m_paO (r 2) set (n 1) s).2)), (5, .int (nI s))] dX6_parted_46 (by decide) rfl ?_
    refine z_lv (lv' := [(0, .ref (ad 0)), (1, .int set), (2, .int (nI 1)), (3, .int (nI ((m_paQ (r 2) set s (m_paO (r 2) set (n 1) s) (s + 1)).1))), (4, .int ((m_paQ (r 2) set s (m_paO (r 2) set (n 1) s) (s + 1)).2)), (5, .int (nI s)), (6, .int (nI (s + 1)))]) (by rw [m_paQ_0]; rfl) ?_
    refine z_up (fun q => s + 1 ≤ q → Z κ (MW θ ad n g r) 48 [(0, .ref (ad 0)), (1, .int set), (2, .int (nI 1)), (3, .int (nI ((m_paQ (r 2) set s (m_paO (r 2) set (n 1) s) q).1))), (4, .int ((m_paQ (r 2) set s (m_paO (r 2) set (n 1) s) q).2)), (5, .int (nI s)), (6, .int (nI q))] []) (n 1) ?_ ?_ (s + 1) (by omega) (Nat.le_refl _)
    · intro hinv48
      refine z_iload C dX6_parted_48 (show zlk _ 6 = some (.int (nI (n 1))) from rfl) ?_
      refine z_aload_n C dX6_parted_50 rfl (show zlk _ 0 = some (.ref (ad 0)) from rfl) ?_
      refine z_mg C hin 1 (by decide) (by decide +kernel) (v := .int (nI (n 1))) mf_1 dX6_parted_51 ?_
      refine z_icmp_geT C 155 dX6_parted_54 (by decide) (by omega) (by omega) (by omega) ?_
      refine z_iincN C [(5, .int (nI (s + 1))), (0, .ref (ad 0)), (1, .int set), (2, .int (nI 1)), (3, .int (nI ((m_paQ (r 2) set s (m_paO (r 2) set (n 1) s) (n 1)).1))), (4, .int ((m_paQ (r 2) set s (m_paO (r 2) set (n 1) s) (n 1)).2)), (6, .int (nI (n 1)))] dX6_parted_155 rfl (by decide) rfl ?_
      refine z_goto C 33 dX6_parted_158 (by decide) ?_
      exact z_to (ih33) (rfl) (rfl)
    · intro q hk48 ih48
      intro hinv48
      refine z_iload C dX6_parted_48 (show zlk _ 6 = some (.int (nI q)) from rfl) ?_
      refine z_aload_n C dX6_parted_50 rfl (show zlk _ 0 = some (.ref (ad 0)) from rfl) ?_
      refine z_mg C hin 1 (by decide) (by decide +kernel) (v := .int (nI (n 1))) mf_1 dX6_parted_51 ?_
      refine z_icmp_geF C 155 dX6_parted_54 (by decide) (by omega) (by omega) (by omega) ?_
      refine z_iconst C (v := nI 0) dX6_parted_57 (by decide) ?_
      refine z_istore C [(7, .int (nI 0)), (0, .ref (ad 0)), (1, .int set), (2, .int (nI 1)), (3, .int (nI ((m_paQ (r 2) set s (m_paO (r 2) set (n 1) s) q).1))), (4, .int ((m_paQ (r 2) set s (m_paO (r 2) set (n 1) s) q).2)), (5, .int (nI s)), (6, .int (nI q))] dX6_parted_58 (by decide) rfl ?_
      refine z_lv (lv' := [(0, .ref (ad 0)), (1, .int set), (2, .int (nI 1)), (3, .int (nI ((m_paI (r 2) set s q (m_paQ (r 2) set s (m_paO (r 2) set (n 1) s) q) 0).1))), (4, .int ((m_paI (r 2) set s q (m_paQ (r 2) set s (m_paO (r 2) set (n 1) s) q) 0).2)), (5, .int (nI s)), (6, .int (nI q)), (7, .int (nI 0))]) rfl ?_
      refine z_up (fun k => Z κ (MW θ ad n g r) 60 [(0, .ref (ad 0)), (1, .int set), (2, .int (nI 1)), (3, .int (nI ((m_paI (r 2) set s q (m_paQ (r 2) set s (m_paO (r 2) set (n 1) s) q) k).1))), (4, .int ((m_paI (r 2) set s q (m_paQ (r 2) set s (m_paO (r 2) set (n 1) s) q) k).2)), (5, .int (nI s)), (6, .int (nI q)), (7, .int (nI k))] []) (36) ?_ ?_ 0 (by omega)
      · refine z_iload C dX6_parted_60 (show zlk _ 7 = some (.int (nI 36)) from rfl) ?_
        refine z_bipush C (v := nI 36) dX6_parted_62 (by decide) ?_
        refine z_icmp_geT C 149 dX6_parted_64 (by decide) (by omega) (by omega) (by omega) ?_
        refine z_iincN C [(6, .int (nI (q + 1))), (0, .ref (ad 0)), (1, .int set), (2, .int (nI 1)), (3, .int (nI ((m_paI (r 2) set s q (m_paQ (r 2) set s (m_paO (r 2) set (n 1) s) q) 36).1))), (4, .int ((m_paI (r 2) set s q (m_paQ (r 2) set s (m_paO (r 2) set (n 1) s) q) 36).2)), (5, .int (nI s)), (7, .int (nI 36))] dX6_parted_149 rfl (by decide) rfl ?_
        refine z_goto C 48 dX6_parted_152 (by decide) ?_
        exact z_to (ih48 (by omega)) (rfl) (by rw [m_paQ_s _ _ _ _ hinv48]; rfl)
      · intro k hk60 ih60
        refine z_iload C dX6_parted_60 (show zlk _ 7 = some (.int (nI k)) from rfl) ?_
        refine z_bipush C (v := nI 36) dX6_parted_62 (by decide) ?_
        refine z_icmp_geF C 149 dX6_parted_64 (by decide) (by omega) (by omega) (by omega) ?_
        refine z_aload_n C dX6_parted_67 rfl (show zlk _ 0 = some (.ref (ad 0)) from rfl) ?_
        refine z_mg C hin 2 (by decide) (by decide +kernel) (v := .ref (ad 2)) mf_2 dX6_parted_68 ?_
        refine z_iload C dX6_parted_71 (show zlk _ 5 = some (.int (nI s)) from rfl) ?_
        refine z_iald C (f := (r 2)) 1 mr_2 s rfl (by omega) (by decide) dX6_parted_73 ?_
        refine z_iload C dX6_parted_74 (show zlk _ 7 = some (.int (nI k)) from rfl) ?_
        refine z_bipush C (v := nI 6) dX6_parted_76 (by decide) ?_
        refine z_idivN C dX6_parted_78 (by omega) (by omega) (by omega) ?_
        refine z_callSi C (As := [.int ((r 2) s), .int (nI (k / 6))]) (rest := []) (c_X6_shifted l θ _ ((r 2) s) (nI (k / 6))) gX6_parted_X6_shifted rfl 2 (by decide +kernel) (by decide) (by decide) rfl rfl (Nat.le_of_ble_eq_true rfl) dX6_parted_79 ?_
        rintro _ _ ⟨rfl, rfl⟩
        refine z_aload_n C dX6_parted_82 rfl (show zlk _ 0 = some (.ref (ad 0)) from rfl) ?_
        refine z_mg C hin 2 (by decide) (by decide +kernel) (v := .ref (ad 2)) mf_2 dX6_parted_83 ?_
        refine z_iload C dX6_parted_86 (show zlk _ 6 = some (.int (nI q)) from rfl) ?_
        refine z_iald C (f := (r 2)) 1 mr_2 q rfl (by omega) (by decide) dX6_parted_88 ?_
        refine z_iload C dX6_parted_89 (show zlk _ 7 = some (.int (nI k)) from rfl) ?_
        refine z_bipush C (v := nI 6) dX6_parted_91 (by decide) ?_
        refine z_iremN C dX6_parted_93 (by omega) (by omega) (by omega) ?_
        refine z_callSi C (As := [.int ((r 2) q), .int (nI (k % 6))]) (rest := [.int (m_sh ((r 2) s) (nI (k / 6)) 30)]) (c_X6_shifted l θ _ ((r 2) q) (nI (k % 6))) gX6_parted_X6_shifted rfl 2 (by decide +kernel) (by decide) (by decide) rfl rfl (Nat.le_of_ble_eq_true rfl) dX6_parted_94 ?_
        rintro _ _ ⟨rfl, rfl⟩
        refine z_ior C dX6_parted_97 ?_
        refine z_iload_n C dX6_parted_98 rfl (show zlk _ 1 = some (.int set) from rfl) ?_
        refine z_icmp_ne C 143 dX6_parted_99 (by decide) (fun h99t_1 => ?_) (fun h99n_1 => ?_)
        · refine z_iincN C [(7, .int (nI (k + 1))), (0, .ref (ad 0)), (1, .int set), (2, .int (nI 1)), (3, .int (nI ((m_paI (r 2) set s q (m_paQ (r 2) set s (m_paO (r 2) set (n 1) s) q) k).1))), (4, .int ((m_paI (r 2) set s q (m_paQ (r 2) set s (m_paO (r 2) set (n 1) s) q) k).2)), (5, .int (nI s)), (6, .int (nI q))] dX6_parted_143 rfl (by decide) rfl ?_
          refine z_goto C 60 dX6_parted_146 (by decide) ?_
          exact z_to (ih60) (rfl) (by simp [zlk, m_paI, hinv48, h99t_1])
        · refine z_iload_n C dX6_parted_102 rfl (show zlk _ 3 = some (.int (nI ((m_paI (r 2) set s q (m_paQ (r 2) set s (m_paO (r 2) set (n 1) s) q) k).1))) from rfl) ?_
          refine z_if_neN C 136 dX6_parted_103 (by decide) (by have h1 := m_paI_le (r 2) set s q (m_paQ (r 2) set s (m_paO (r 2) set (n 1) s) q) k; have h2 := m_paQ_le (r 2) set s (m_paO (r 2) set (n 1) s) q; have h3 := m_paO_b (r 2) set (S := n 1) (s := s) hS (by omega); omega) (fun h103t_2 => ?_) (fun h103n_2 => ?_)
          · refine z_iload C dX6_parted_136 (show zlk _ 4 = some (.int ((m_paI (r 2) set s q (m_paQ (r 2) set s (m_paO (r 2) set (n 1) s) q) k).2)) from rfl) ?_
            refine z_istore C [(4, .int ((m_paI (r 2) set s q (m_paQ (r 2) set s (m_paO (r 2) set (n 1) s) q) k).2)), (0, .ref (ad 0)), (1, .int set), (2, .int (nI 1)), (3, .int (nI ((m_paI (r 2) set s q (m_paQ (r 2) set s (m_paO (r 2) set (n 1) s) q) k).1))), (5, .int (nI s)), (6, .int (nI q)), (7, .int (nI k))] dX6_parted_138 (by decide) rfl ?_
            refine z_iincN C [(3, .int (nI ((m_paI (r 2) set s q (m_paQ (r 2) set s (m_paO (r 2) set (n 1) s) q) k).1 + 1))), (4, .int ((m_paI (r 2) set s q (m_paQ (r 2) set s (m_paO (r 2) set (n 1) s) q) k).2)), (0, .ref (ad 0)), (1, .int set), (2, .int (nI 1)), (5, .int (nI s)), (6, .int (nI q)), (7, .int (nI k))] dX6_parted_140 rfl (by decide) rfl ?_
            refine z_iincN C [(7, .int (nI (k + 1))), (3, .int (nI ((m_paI (r 2) set s q (m_paQ (r 2) set s (m_paO (r 2) set (n 1) s) q) k).1 + 1))), (4, .int ((m_paI (r 2) set s q (m_paQ (r 2) set s (m_paO (r 2) set (n 1) s) q) k).2)), (0, .ref (ad 0)), (1, .int set), (2, .int (nI 1)), (5, .int (nI s)), (6, .int (nI q))] dX6_parted_143 rfl (by decide) rfl ?_
            refine z_goto C 60 dX6_parted_146 (by decide) ?_
            exact z_to (ih60) (rfl) (by simp [zlk, m_paI, hinv48, h99n_1, h103t_2])
          · refine z_sipush C (v := nI 1000) dX6_parted_106 (by decide) ?_
            refine z_iload C dX6_parted_109 (show zlk _ 5 = some (.int (nI s)) from rfl) ?_
            refine z_imulN C dX6_parted_111 ?_
            refine z_bipush C (v := nI 100) dX6_parted_112 (by decide) ?_
            refine z_iload C dX6_parted_114 (show zlk _ 6 = some (.int (nI q)) from rfl) ?_
            refine z_imulN C dX6_parted_116 ?_
            refine z_iaddN C dX6_parted_117 ?_
            refine z_bipush C (v := nI 10) dX6_parted_118 (by decide) ?_
            refine z_iload C dX6_parted_120 (show zlk _ 7 = some (.int (nI k)) from rfl) ?_
            refine z_bipush C (v := nI 6) dX6_parted_122 (by decide) ?_
            refine z_idivN C dX6_parted_124 (by omega) (by omega) (by omega) ?_
            refine z_imulN C dX6_parted_125 ?_
            refine z_iaddN C dX6_parted_126 ?_
            refine z_iload C dX6_parted_127 (show zlk _ 7 = some (.int (nI k)) from rfl) ?_
            refine z_bipush C (v := nI 6) dX6_parted_129 (by decide) ?_
            refine z_iremN C dX6_parted_131 (by omega) (by omega) (by omega) ?_
            refine z_iaddN C dX6_parted_132 ?_
            refine z_goto C 138 dX6_parted_133 (by decide) ?_
            refine z_istore C [(4, .int (nI (1000 * s + (100 * q) + (10 * (k / 6)) + (k % 6)))), (0, .ref (ad 0)), (1, .int set), (2, .int (nI 1)), (3, .int (nI ((m_paI (r 2) set s q (m_paQ (r 2) set s (m_paO (r 2) set (n 1) s) q) k).1))), (5, .int (nI s)), (6, .int (nI q)), (7, .int (nI k))] dX6_parted_138 (by decide) rfl ?_
            refine z_iincN C [(3, .int (nI ((m_paI (r 2) set s q (m_paQ (r 2) set s (m_paO (r 2) set (n 1) s) q) k).1 + 1))), (4, .int (nI (1000 * s + (100 * q) + (10 * (k / 6)) + (k % 6)))), (0, .ref (ad 0)), (1, .int set), (2, .int (nI 1)), (5, .int (nI s)), (6, .int (nI q)), (7, .int (nI k))] dX6_parted_140 rfl (by decide) rfl ?_
            refine z_iincN C [(7, .int (nI (k + 1))), (3, .int (nI ((m_paI (r 2) set s q (m_paQ (r 2) set s (m_paO (r 2) set (n 1) s) q) k).1 + 1))), (4, .int (nI (1000 * s + (100 * q) + (10 * (k / 6)) + (k % 6)))), (0, .ref (ad 0)), (1, .int set), (2, .int (nI 1)), (5, .int (nI s)), (6, .int (nI q))] dX6_parted_143 rfl (by decide) rfl ?_
            refine z_goto C 60 dX6_parted_146 (by decide) ?_
            exact z_to (ih60) (rfl) (by simp [zlk, m_paI, hinv48, h99n_1, h103n_2])

set_option maxHeartbeats 4000000 in
set_option maxRecDepth 100000 in
theorem c_X6_apart_1 (l : Launch) (θ : zH) (ad : Nat → Nat) (n : Nat → Nat) (g : Int32) (r : Nat → Nat → Int32) (s q x : Int32) (hS : n 1 ≤ 6) (hj : okN s (n 1) = false) : cI l yX6_apart wsX6_apart 2 θ [.ref (ad 0), .int s, .int q, .int x] (MW θ ad n g r) (fun r0 Y => r0 = (-1000000001) ∧ Y = MW θ ad n g r) := by
  refine z_cI (by decide) rfl rfl (Nat.le_of_ble_eq_true rfl) (lv := [(0, .ref (ad 0)), (1, .int s), (2, .int q), (3, .int x)]) rfl (fun κ C E => ?_)
  refine z_aload_n C dX6_apart_0 rfl (show zlk _ 0 = some (.ref (ad 0)) from rfl) ?_
  refine z_iload_n C dX6_apart_1 rfl (show zlk _ 1 = some (.int s) from rfl) ?_
  refine z_callVi C (As := [.int s]) (rest := []) (c_X6_isSitter l θ ad n g r s (by omega)) gX6_apart_X6_isSitter rfl 1 (by decide +kernel) (by decide) (by decide) 0 rfl rfl rfl rfl rfl (Nat.le_of_ble_eq_true rfl) dX6_apart_2 ?_
  rintro _ _ ⟨rfl, rfl⟩
  refine z_if_eqB C 21 dX6_apart_5 (by decide) (fun _ => ?_) (fun h => absurd h (by rw [hj]; decide))
  refine z_ldc C (v := (-1000000001)) (by decide +kernel) dX6_apart_21 ?_
  exact E _ _ _ _ (⟨rfl, rfl⟩) (rfl) dX6_apart_23

set_option maxHeartbeats 4000000 in
set_option maxRecDepth 100000 in
theorem c_X6_apart_2 (l : Launch) (θ : zH) (ad : Nat → Nat) (n : Nat → Nat) (g : Int32) (r : Nat → Nat → Int32) (s q x : Int32) (hS : n 1 ≤ 6) (hj : okN s (n 1) = true) (hq : okN q (n 1) = false) : cI l yX6_apart wsX6_apart 2 θ [.ref (ad 0), .int s, .int q, .int x] (MW θ ad n g r) (fun r0 Y => r0 = (-1000000001) ∧ Y = MW θ ad n g r) := by
  refine z_cI (by decide) rfl rfl (Nat.le_of_ble_eq_true rfl) (lv := [(0, .ref (ad 0)), (1, .int s), (2, .int q), (3, .int x)]) rfl (fun κ C E => ?_)
  refine z_aload_n C dX6_apart_0 rfl (show zlk _ 0 = some (.ref (ad 0)) from rfl) ?_
  refine z_iload_n C dX6_apart_1 rfl (show zlk _ 1 = some (.int s) from rfl) ?_
  refine z_callVi C (As := [.int s]) (rest := []) (c_X6_isSitter l θ ad n g r s (by omega)) gX6_apart_X6_isSitter rfl 1 (by decide +kernel) (by decide) (by decide) 0 rfl rfl rfl rfl rfl (Nat.le_of_ble_eq_true rfl) dX6_apart_2 ?_
  rintro _ _ ⟨rfl, rfl⟩
  refine z_if_eqB C 21 dX6_apart_5 (by decide) (fun h => absurd h (by rw [hj]; decide)) (fun _ => ?_)
  refine z_aload_n C dX6_apart_8 rfl (show zlk _ 0 = some (.ref (ad 0)) from rfl) ?_
  refine z_iload_n C dX6_apart_9 rfl (show zlk _ 2 = some (.int q) from rfl) ?_
  refine z_callVi C (As := [.int q]) (rest := []) (c_X6_isSitter l θ ad n g r q (by omega)) gX6_apart_X6_isSitter rfl 1 (by decide +kernel) (by decide) (by decide) 0 rfl rfl rfl rfl rfl (Nat.le_of_ble_eq_true rfl) dX6_apart_10 ?_
  rintro _ _ ⟨rfl, rfl⟩
  refine z_if_eqB C 21 dX6_apart_13 (by decide) (fun _ => ?_) (fun h => absurd h (by rw [hq]; decide))
  refine z_ldc C (v := (-1000000001)) (by decide +kernel) dX6_apart_21 ?_
  exact E _ _ _ _ (⟨rfl, rfl⟩) (rfl) dX6_apart_23

set_option maxHeartbeats 4000000 in
set_option maxRecDepth 100000 in
theorem c_X6_apart_3 (l : Launch) (θ : zH) (ad : Nat → Nat) (n : Nat → Nat) (g : Int32) (r : Nat → Nat → Int32) (s x : Int32) (hS : n 1 ≤ 6) (hj : okN s (n 1) = true) : cI l yX6_apart wsX6_apart 2 θ [.ref (ad 0), .int s, .int s, .int x] (MW θ ad n g r) (fun r0 Y => r0 = (-1000000001) ∧ Y = MW θ ad n g r) := by
  refine z_cI (by decide) rfl rfl (Nat.le_of_ble_eq_true rfl) (lv := [(0, .ref (ad 0)), (1, .int s), (2, .int s), (3, .int x)]) rfl (fun κ C E => ?_)
  refine z_aload_n C dX6_apart_0 rfl (show zlk _ 0 = some (.ref (ad 0)) from rfl) ?_
  refine z_iload_n C dX6_apart_1 rfl (show zlk _ 1 = some (.int s) from rfl) ?_
  refine z_callVi C (As := [.int s]) (rest := []) (c_X6_isSitter l θ ad n g r s (by omega)) gX6_apart_X6_isSitter rfl 1 (by decide +kernel) (by decide) (by decide) 0 rfl rfl rfl rfl rfl (Nat.le_of_ble_eq_true rfl) dX6_apart_2 ?_
  rintro _ _ ⟨rfl, rfl⟩
  refine z_if_eqB C 21 dX6_apart_5 (by decide) (fun h => absurd h (by rw [hj]; decide)) (fun _ => ?_)
  refine z_aload_n C dX6_apart_8 rfl (show zlk _ 0 = some (.ref (ad 0)) from rfl) ?_
  refine z_iload_n C dX6_apart_9 rfl (show zlk _ 2 = some (.int s) from rfl) ?_
  refine z_callVi C (As := [.int s]) (rest := []) (c_X6_isSitter l θ ad n g r s (by omega)) gX6_apart_X6_isSitter rfl 1 (by decide +kernel) (by decide) (by decide) 0 rfl rfl rfl rfl rfl (Nat.le_of_ble_eq_true rfl) dX6_apart_10 ?_
  rintro _ _ ⟨rfl, rfl⟩
  refine z_if_eqB C 21 dX6_apart_13 (by decide) (fun h => absurd h (by rw [hj]; decide)) (fun _ => ?_)
  refine z_iload_n C dX6_apart_16 rfl (show zlk _ 1 = some (.int s) from rfl) ?_
  refine z_iload_n C dX6_apart_17 rfl (show zlk _ 2 = some (.int s) from rfl) ?_
  refine z_icmp_ne C 24 dX6_apart_18 (by decide) (fun h18n_1 => absurd h18n_1 (fun z => z rfl)) (fun h18n_1 => ?_)
  refine z_ldc C (v := (-1000000001)) (by decide +kernel) dX6_apart_21 ?_
  exact E _ _ _ _ (⟨rfl, rfl⟩) (rfl) dX6_apart_23

set_option maxHeartbeats 4000000 in
set_option maxRecDepth 100000 in
theorem c_X6_apart_40 (l : Launch) (θ : zH) (ad : Nat → Nat) (n : Nat → Nat) (g : Int32) (r : Nat → Nat → Int32) (j q : Nat) (hS : n 1 ≤ 6) (hj : j < n 1) (hq : q < n 1) (hne : ¬ j = q) : cI l yX6_apart wsX6_apart 2 θ [.ref (ad 0), .int (nI j), .int (nI q), .int (nI 0)] (MW θ ad n g r) (fun r0 Y => r0 = r 2 j ^^^ r 2 q ∧ Y = MW θ ad n g r) := by
  refine z_cI (by decide) rfl rfl (Nat.le_of_ble_eq_true rfl) (lv := [(0, .ref (ad 0)), (1, .int (nI j)), (2, .int (nI q)), (3, .int (nI 0))]) rfl (fun κ C E => ?_)
  have hin : ∀ w ∈ wsX60, w ∈ wsX6_apart := by decide +kernel
  refine z_aload_n C dX6_apart_0 rfl (show zlk _ 0 = some (.ref (ad 0)) from rfl) ?_
  refine z_iload_n C dX6_apart_1 rfl (show zlk _ 1 = some (.int (nI j)) from rfl) ?_
  refine z_callVi C (As := [.int (nI j)]) (rest := []) (c_X6_isSitter l θ ad n g r (nI j) (by omega)) gX6_apart_X6_isSitter rfl 1 (by decide +kernel) (by decide) (by decide) 0 rfl rfl rfl rfl rfl (Nat.le_of_ble_eq_true rfl) dX6_apart_2 ?_
  rintro _ _ ⟨rfl, rfl⟩
  refine z_if_eqB C 21 dX6_apart_5 (by decide) (fun h => absurd h (by rw [okN_lt hj (by omega)]; decide)) (fun _ => ?_)
  refine z_aload_n C dX6_apart_8 rfl (show zlk _ 0 = some (.ref (ad 0)) from rfl) ?_
  refine z_iload_n C dX6_apart_9 rfl (show zlk _ 2 = some (.int (nI q)) from rfl) ?_
  refine z_callVi C (As := [.int (nI q)]) (rest := []) (c_X6_isSitter l θ ad n g r (nI q) (by omega)) gX6_apart_X6_isSitter rfl 1 (by decide +kernel) (by decide) (by decide) 0 rfl rfl rfl rfl rfl (Nat.le_of_ble_eq_true rfl) dX6_apart_10 ?_
  rintro _ _ ⟨rfl, rfl⟩
  refine z_if_eqB C 21 dX6_apart_13 (by decide) (fun h => absurd h (by rw [okN_lt hq (by omega)]; decide)) (fun _ => ?_)
  refine z_iload_n C dX6_apart_16 rfl (show zlk _ 1 = some (.int (nI j)) from rfl) ?_
  refine z_iload_n C dX6_apart_17 rfl (show zlk _ 2 = some (.int (nI q)) from rfl) ?_
  refine z_icmp_neT C 24 dX6_apart_18 (by decide) (by omega) (by omega) (hne) ?_
  refine z_aload_n C dX6_apart_24 rfl (show zlk _ 0 = some (.ref (ad 0)) from rfl) ?_
  refine z_mg C hin 2 (by decide) (by decide +kernel) (v := .ref (ad 2)) mf_2 dX6_apart_25 ?_
  refine z_iload_n C dX6_apart_28 rfl (show zlk _ 1 = some (.int (nI j)) from rfl) ?_
  refine z_iald C (f := (r 2)) 1 mr_2 j rfl (by omega) (by decide) dX6_apart_29 ?_
  refine z_aload_n C dX6_apart_30 rfl (show zlk _ 0 = some (.ref (ad 0)) from rfl) ?_
  refine z_mg C hin 2 (by decide) (by decide +kernel) (v := .ref (ad 2)) mf_2 dX6_apart_31 ?_
  refine z_iload_n C dX6_apart_34 rfl (show zlk _ 2 = some (.int (nI q)) from rfl) ?_
  refine z_iald C (f := (r 2)) 1 mr_2 q rfl (by omega) (by decide) dX6_apart_35 ?_
  refine z_ixor C dX6_apart_36 ?_
  refine z_istore C [(4, .int (((r 2) j) ^^^ ((r 2) q))), (0, .ref (ad 0)), (1, .int (nI j)), (2, .int (nI q)), (3, .int (nI 0))] dX6_apart_37 (by decide) rfl ?_
  refine z_iload_n C dX6_apart_39 rfl (show zlk _ 3 = some (.int (nI 0)) from rfl) ?_
  refine z_if_neN C 48 dX6_apart_40 (by decide) (by decide) (fun h => absurd h (by decide)) (fun _ => ?_)
  refine z_iload C dX6_apart_43 (show zlk _ 4 = some (.int (((r 2) j) ^^^ ((r 2) q))) from rfl) ?_
  refine z_goto C 84 dX6_apart_45 (by decide) ?_
  exact E _ _ _ _ (⟨rfl, rfl⟩) (rfl) dX6_apart_84

set_option maxHeartbeats 4000000 in
set_option maxRecDepth 100000 in
theorem c_X6_apart_41 (l : Launch) (θ : zH) (ad : Nat → Nat) (n : Nat → Nat) (g : Int32) (r : Nat → Nat → Int32) (j q : Nat) (hS : n 1 ≤ 6) (hj : j < n 1) (hq : q < n 1) (hne : ¬ j = q) : cI l yX6_apart wsX6_apart 2 θ [.ref (ad 0), .int (nI j), .int (nI q), .int (nI 1)] (MW θ ad n g r) (fun r0 Y => r0 = m_ones (r 2 j ^^^ r 2 q) 30 ∧ Y = MW θ ad n g r) := by
  refine z_cI (by decide) rfl rfl (Nat.le_of_ble_eq_true rfl) (lv := [(0, .ref (ad 0)), (1, .int (nI j)), (2, .int (nI q)), (3, .int (nI 1))]) rfl (fun κ C E => ?_)
  have hin : ∀ w ∈ wsX60, w ∈ wsX6_apart := by decide +kernel
  refine z_aload_n C dX6_apart_0 rfl (show zlk _ 0 = some (.ref (ad 0)) from rfl) ?_
  refine z_iload_n C dX6_apart_1 rfl (show zlk _ 1 = some (.int (nI j)) from rfl) ?_
  refine z_callVi C (As := [.int (nI j)]) (rest := []) (c_X6_isSitter l θ ad n g r (nI j) (by omega)) gX6_apart_X6_isSitter rfl 1 (by decide +kernel) (by decide) (by decide) 0 rfl rfl rfl rfl rfl (Nat.le_of_ble_eq_true rfl) dX6_apart_2 ?_
  rintro _ _ ⟨rfl, rfl⟩
  refine z_if_eqB C 21 dX6_apart_5 (by decide) (fun h => absurd h (by rw [okN_lt hj (by omega)]; decide)) (fun _ => ?_)
  refine z_aload_n C dX6_apart_8 rfl (show zlk _ 0 = some (.ref (ad 0)) from rfl) ?_
  refine z_iload_n C dX6_apart_9 rfl (show zlk _ 2 = some (.int (nI q)) from rfl) ?_
  refine z_callVi C (As := [.int (nI q)]) (rest := []) (c_X6_isSitter l θ ad n g r (nI q) (by omega)) gX6_apart_X6_isSitter rfl 1 (by decide +kernel) (by decide) (by decide) 0 rfl rfl rfl rfl rfl (Nat.le_of_ble_eq_true rfl) dX6_apart_10 ?_
  rintro _ _ ⟨rfl, rfl⟩
  refine z_if_eqB C 21 dX6_apart_13 (by decide) (fun h => absurd h (by rw [okN_lt hq (by omega)]; decide)) (fun _ => ?_)
  refine z_iload_n C dX6_apart_16 rfl (show zlk _ 1 = some (.int (nI j)) from rfl) ?_
  refine z_iload_n C dX6_apart_17 rfl (show zlk _ 2 = some (.int (nI q)) from rfl) ?_
  refine z_icmp_neT C 24 dX6_apart_18 (by decide) (by omega) (by omega) (hne) ?_
  refine z_aload_n C dX6_apart_24 rfl (show zlk _ 0 = some (.ref (ad 0)) from rfl) ?_
  refine z_mg C hin 2 (by decide) (by decide +kernel) (v := .ref (ad 2)) mf_2 dX6_apart_25 ?_
  refine z_iload_n C dX6_apart_28 rfl (show zlk _ 1 = some (.int (nI j)) from rfl) ?_
  refine z_iald C (f := (r 2)) 1 mr_2 j rfl (by omega) (by decide) dX6_apart_29 ?_
  refine z_aload_n C dX6_apart_30 rfl (show zlk _ 0 = some (.ref (ad 0)) from rfl) ?_
  refine z_mg C hin 2 (by decide) (by decide +kernel) (v := .ref (ad 2)) mf_2 dX6_apart_31 ?_
  refine z_iload_n C dX6_apart_34 rfl (show zlk _ 2 = some (.int (nI q)) from rfl) ?_
  refine z_iald C (f := (r 2)) 1 mr_2 q rfl (by omega) (by decide) dX6_apart_35 ?_
  refine z_ixor C dX6_apart_36 ?_
  refine z_istore C [(4, .int (((r 2) j) ^^^ ((r 2) q))), (0, .ref (ad 0)), (1, .int (nI j)), (2, .int (nI q)), (3, .int (nI 1))] dX6_apart_37 (by decide) rfl ?_
  refine z_iload_n C dX6_apart_39 rfl (show zlk _ 3 = some (.int (nI 1)) from rfl) ?_
  refine z_if_neN C 48 dX6_apart_40 (by decide) (by decide) (fun _ => ?_) (fun h => absurd h (by decide))
  refine z_iload_n C dX6_apart_48 rfl (show zlk _ 3 = some (.int (nI 1)) from rfl) ?_
  refine z_iconst C (v := nI 1) dX6_apart_49 (by decide) ?_
  refine z_icmp_neF C 61 dX6_apart_50 (by decide) (by omega) (by omega) (by decide) ?_
  refine z_iload C dX6_apart_53 (show zlk _ 4 = some (.int (((r 2) j) ^^^ ((r 2) q))) from rfl) ?_
  refine z_callSi C (As := [.int (((r 2) j) ^^^ ((r 2) q))]) (rest := []) (c_X6_ones l θ _ (((r 2) j) ^^^ ((r 2) q))) gX6_apart_X6_ones rfl 1 (by decide +kernel) (by decide) (by decide) rfl rfl (Nat.le_of_ble_eq_true rfl) dX6_apart_55 ?_
  rintro _ _ ⟨rfl, rfl⟩
  refine z_goto C 84 dX6_apart_58 (by decide) ?_
  exact E _ _ _ _ (⟨rfl, rfl⟩) (rfl) dX6_apart_84

set_option maxHeartbeats 4000000 in
set_option maxRecDepth 100000 in
theorem c_X6_apart_42 (l : Launch) (θ : zH) (ad : Nat → Nat) (n : Nat → Nat) (g : Int32) (r : Nat → Nat → Int32) (j q : Nat) (hS : n 1 ≤ 6) (hj : j < n 1) (hq : q < n 1) (hne : ¬ j = q) : cI l yX6_apart wsX6_apart 2 θ [.ref (ad 0), .int (nI j), .int (nI q), .int (nI 2)] (MW θ ad n g r) (fun r0 Y => r0 = r 2 j &&& r 2 q ∧ Y = MW θ ad n g r) := by
  refine z_cI (by decide) rfl rfl (Nat.le_of_ble_eq_true rfl) (lv := [(0, .ref (ad 0)), (1, .int (nI j)), (2, .int (nI q)), (3, .int (nI 2))]) rfl (fun κ C E => ?_)
  have hin : ∀ w ∈ wsX60, w ∈ wsX6_apart := by decide +kernel
  refine z_aload_n C dX6_apart_0 rfl (show zlk _ 0 = some (.ref (ad 0)) from rfl) ?_
  refine z_iload_n C dX6_apart_1 rfl (show zlk _ 1 = some (.int (nI j)) from rfl) ?_
  refine z_callVi C (As := [.int (nI j)]) (rest := []) (c_X6_isSitter l θ ad n g r (nI j) (by omega)) gX6_apart_X6_isSitter rfl 1 (by decide +kernel) (by decide) (by decide) 0 rfl rfl rfl rfl rfl (Nat.le_of_ble_eq_true rfl) dX6_apart_2 ?_
  rintro _ _ ⟨rfl, rfl⟩
  refine z_if_eqB C 21 dX6_apart_5 (by decide) (fun h => absurd h (by rw [okN_lt hj (by omega)]; decide)) (fun _ => ?_)
  refine z_aload_n C dX6_apart_8 rfl (show zlk _ 0 = some (.ref (ad 0)) from rfl) ?_
  refine z_iload_n C dX6_apart_9 rfl (show zlk _ 2 = some (.int (nI q)) from rfl) ?_
  refine z_callVi C (As := [.int (nI q)]) (rest := []) (c_X6_isSitter l θ ad n g r (nI q) (by omega)) gX6_apart_X6_isSitter rfl 1 (by decide +kernel) (by decide) (by decide) 0 rfl rfl rfl rfl rfl (Nat.le_of_ble_eq_true rfl) dX6_apart_10 ?_
  rintro _ _ ⟨rfl, rfl⟩
  refine z_if_eqB C 21 dX6_apart_13 (by decide) (fun h => absurd h (by rw [okN_lt hq (by omega)]; decide)) (fun _ => ?_)
  refine z_iload_n C dX6_apart_16 rfl (show zlk _ 1 = some (.int (nI j)) from rfl) ?_
  refine z_iload_n C dX6_apart_17 rfl (show zlk _ 2 = some (.int (nI q)) from rfl) ?_
  refine z_icmp_neT C 24 dX6_apart_18 (by decide) (by omega) (by omega) (hne) ?_
  refine z_aload_n C dX6_apart_24 rfl (show zlk _ 0 = some (.ref (ad 0)) from rfl) ?_
  refine z_mg C hin 2 (by decide) (by decide +kernel) (v := .ref (ad 2)) mf_2 dX6_apart_25 ?_
  refine z_iload_n C dX6_apart_28 rfl (show zlk _ 1 = some (.int (nI j)) from rfl) ?_
  refine z_iald C (f := (r 2)) 1 mr_2 j rfl (by omega) (by decide) dX6_apart_29 ?_
  refine z_aload_n C dX6_apart_30 rfl (show zlk _ 0 = some (.ref (ad 0)) from rfl) ?_
  refine z_mg C hin 2 (by decide) (by decide +kernel) (v := .ref (ad 2)) mf_2 dX6_apart_31 ?_
  refine z_iload_n C dX6_apart_34 rfl (show zlk _ 2 = some (.int (nI q)) from rfl) ?_
  refine z_iald C (f := (r 2)) 1 mr_2 q rfl (by omega) (by decide) dX6_apart_35 ?_
  refine z_ixor C dX6_apart_36 ?_
  refine z_istore C [(4, .int (((r 2) j) ^^^ ((r 2) q))), (0, .ref (ad 0)), (1, .int (nI j)), (2, .int (nI q)), (3, .int (nI 2))] dX6_apart_37 (by decide) rfl ?_
  refine z_iload_n C dX6_apart_39 rfl (show zlk _ 3 = some (.int (nI 2)) from rfl) ?_
  refine z_if_neN C 48 dX6_apart_40 (by decide) (by decide) (fun _ => ?_) (fun h => absurd h (by decide))
  refine z_iload_n C dX6_apart_48 rfl (show zlk _ 3 = some (.int (nI 2)) from rfl) ?_
  refine z_iconst C (v := nI 1) dX6_apart_49 (by decide) ?_
  refine z_icmp_neT C 61 dX6_apart_50 (by decide) (by omega) (by omega) (by decide) ?_
  refine z_iload_n C dX6_apart_61 rfl (show zlk _ 3 = some (.int (nI 2)) from rfl) ?_
  refine z_iconst C (v := nI 2) dX6_apart_62 (by decide) ?_
  refine z_icmp_neF C 82 dX6_apart_63 (by decide) (by omega) (by omega) (by decide) ?_
  refine z_aload_n C dX6_apart_66 rfl (show zlk _ 0 = some (.ref (ad 0)) from rfl) ?_
  refine z_mg C hin 2 (by decide) (by decide +kernel) (v := .ref (ad 2)) mf_2 dX6_apart_67 ?_
  refine z_iload_n C dX6_apart_70 rfl (show zlk _ 1 = some (.int (nI j)) from rfl) ?_
  refine z_iald C (f := (r 2)) 1 mr_2 j rfl (by omega) (by decide) dX6_apart_71 ?_
  refine z_aload_n C dX6_apart_72 rfl (show zlk _ 0 = some (.ref (ad 0)) from rfl) ?_
  refine z_mg C hin 2 (by decide) (by decide +kernel) (v := .ref (ad 2)) mf_2 dX6_apart_73 ?_
  refine z_iload_n C dX6_apart_76 rfl (show zlk _ 2 = some (.int (nI q)) from rfl) ?_
  refine z_iald C (f := (r 2)) 1 mr_2 q rfl (by omega) (by decide) dX6_apart_77 ?_
  refine z_iand C dX6_apart_78 ?_
  refine z_goto C 84 dX6_apart_79 (by decide) ?_
  exact E _ _ _ _ (⟨rfl, rfl⟩) (rfl) dX6_apart_84

set_option maxHeartbeats 4000000 in
set_option maxRecDepth 100000 in
theorem c_X6_apart_5 (l : Launch) (θ : zH) (ad : Nat → Nat) (n : Nat → Nat) (g : Int32) (r : Nat → Nat → Int32) (j q : Nat) (x : Int32) (hS : n 1 ≤ 6) (hj : j < n 1) (hq : q < n 1) (hne : ¬ j = q) (hx : okN x 3 = false) : cI l yX6_apart wsX6_apart 2 θ [.ref (ad 0), .int (nI j), .int (nI q), .int x] (MW θ ad n g r) (fun r0 Y => r0 = (-1000000002) ∧ Y = MW θ ad n g r) := by
  refine z_cI (by decide) rfl rfl (Nat.le_of_ble_eq_true rfl) (lv := [(0, .ref (ad 0)), (1, .int (nI j)), (2, .int (nI q)), (3, .int x)]) rfl (fun κ C E => ?_)
  have hin : ∀ w ∈ wsX60, w ∈ wsX6_apart := by decide +kernel
  refine z_aload_n C dX6_apart_0 rfl (show zlk _ 0 = some (.ref (ad 0)) from rfl) ?_
  refine z_iload_n C dX6_apart_1 rfl (show zlk _ 1 = some (.int (nI j)) from rfl) ?_
  refine z_callVi C (As := [.int (nI j)]) (rest := []) (c_X6_isSitter l θ ad n g r (nI j) (by omega)) gX6_apart_X6_isSitter rfl 1 (by decide +kernel) (by decide) (by decide) 0 rfl rfl rfl rfl rfl (Nat.le_of_ble_eq_true rfl) dX6_apart_2 ?_
  rintro _ _ ⟨rfl, rfl⟩
  refine z_if_eqB C 21 dX6_apart_5 (by decide) (fun h => absurd h (by rw [okN_lt hj (by omega)]; decide)) (fun _ => ?_)
  refine z_aload_n C dX6_apart_8 rfl (show zlk _ 0 = some (.ref (ad 0)) from rfl) ?_
  refine z_iload_n C dX6_apart_9 rfl (show zlk _ 2 = some (.int (nI q)) from rfl) ?_
  refine z_callVi C (As := [.int (nI q)]) (rest := []) (c_X6_isSitter l θ ad n g r (nI q) (by omega)) gX6_apart_X6_isSitter rfl 1 (by decide +kernel) (by decide) (by decide) 0 rfl rfl rfl rfl rfl (Nat.le_of_ble_eq_true rfl) dX6_apart_10 ?_
  rintro _ _ ⟨rfl, rfl⟩
  refine z_if_eqB C 21 dX6_apart_13 (by decide) (fun h => absurd h (by rw [okN_lt hq (by omega)]; decide)) (fun _ => ?_)
  refine z_iload_n C dX6_apart_16 rfl (show zlk _ 1 = some (.int (nI j)) from rfl) ?_
  refine z_iload_n C dX6_apart_17 rfl (show zlk _ 2 = some (.int (nI q)) from rfl) ?_
  refine z_icmp_neT C 24 dX6_apart_18 (by decide) (by omega) (by omega) (hne) ?_
  refine z_aload_n C dX6_apart_24 rfl (show zlk _ 0 = some (.ref (ad 0)) from rfl) ?_
  refine z_mg C hin 2 (by decide) (by decide +kernel) (v := .ref (ad 2)) mf_2 dX6_apart_25 ?_
  refine z_iload_n C dX6_apart_28 rfl (show zlk _ 1 = some (.int (nI j)) from rfl) ?_
  refine z_iald C (f := (r 2)) 1 mr_2 j rfl (by omega) (by decide) dX6_apart_29 ?_
  refine z_aload_n C dX6_apart_30 rfl (show zlk _ 0 = some (.ref (ad 0)) from rfl) ?_
  refine z_mg C hin 2 (by decide) (by decide +kernel) (v := .ref (ad 2)) mf_2 dX6_apart_31 ?_
  refine z_iload_n C dX6_apart_34 rfl (show zlk _ 2 = some (.int (nI q)) from rfl) ?_
  refine z_iald C (f := (r 2)) 1 mr_2 q rfl (by omega) (by decide) dX6_apart_35 ?_
  refine z_ixor C dX6_apart_36 ?_
  refine z_istore C [(4, .int (((r 2) j) ^^^ ((r 2) q))), (0, .ref (ad 0)), (1, .int (nI j)), (2, .int (nI q)), (3, .int x)] dX6_apart_37 (by decide) rfl ?_
  refine z_iload_n C dX6_apart_39 rfl (show zlk _ 3 = some (.int x) from rfl) ?_
  refine z_if_ne C 48 dX6_apart_40 (by decide) (fun h40t_1 => ?_) (fun h40t_1 => absurd h40t_1 (okN_ne (k := 0) hx (by decide) (by decide)))
  refine z_iload_n C dX6_apart_48 rfl (show zlk _ 3 = some (.int x) from rfl) ?_
  refine z_iconst C (v := nI 1) dX6_apart_49 (by decide) ?_
  refine z_icmp_ne C 61 dX6_apart_50 (by decide) (fun h50t_2 => ?_) (fun h50t_2 => absurd h50t_2 (okN_ne (k := 1) hx (by decide) (by decide)))
  refine z_iload_n C dX6_apart_61 rfl (show zlk _ 3 = some (.int x) from rfl) ?_
  refine z_iconst C (v := nI 2) dX6_apart_62 (by decide) ?_
  refine z_icmp_ne C 82 dX6_apart_63 (by decide) (fun h63t_3 => ?_) (fun h63t_3 => absurd h63t_3 (okN_ne (k := 2) hx (by decide) (by decide)))
  refine z_ldc C (v := (-1000000002)) (by decide +kernel) dX6_apart_82 ?_
  exact E _ _ _ _ (⟨rfl, rfl⟩) (rfl) dX6_apart_84

def m_hole (set : Int32) (k : Nat) : Bool := !(m_has set (nI k)) && (decide (k % 6 = 0) || m_has set (nI k - nI 1)) && (decide (k % 6 = 5) || m_has set (nI (k + 1))) && (decide (k < 6) || m_has set (nI k - nI 6)) && (decide (23 < k) || m_has set (nI (k + 6)))
set_option maxHeartbeats 4000000 in
set_option maxRecDepth 100000 in
theorem c_X6_isHole (l : Launch) (θ : zH) (X : va_W) (set : Int32) (k : Nat) (hk : k < 30) : cI l yX6_isHole wsX6_isHole 1 θ [.int set, .int (nI k)] (X) (fun r Y => r = bI (m_hole set k) ∧ Y = X) := by
  refine z_cI (by decide) rfl rfl (Nat.le_of_ble_eq_true rfl) (lv := [(0, .int set), (1, .int (nI k))]) rfl (fun κ C E => ?_)
  refine z_iload_n C dX6_isHole_0 rfl (show zlk _ 1 = some (.int (nI k)) from rfl) ?_
  refine z_bipush C (v := nI 6) dX6_isHole_1 (by decide) ?_
  refine z_iremN C dX6_isHole_3 (by omega) (by omega) (by omega) ?_
  refine z_istore_n C [(2, .int (nI (k % 6))), (0, .int set), (1, .int (nI k))] dX6_isHole_4 rfl (by decide) rfl ?_
  refine z_iload_n C dX6_isHole_5 rfl (show zlk _ 0 = some (.int set) from rfl) ?_
  refine z_iload_n C dX6_isHole_6 rfl (show zlk _ 1 = some (.int (nI k)) from rfl) ?_
  refine z_callSi C (As := [.int set, .int (nI k)]) (rest := []) (c_X6_has l θ _ set (nI k)) gX6_isHole_X6_has rfl 2 (by decide +kernel) (by decide) (by decide) rfl rfl (Nat.le_of_ble_eq_true rfl) dX6_isHole_7 ?_
  rintro _ _ ⟨rfl, rfl⟩
  refine z_if_neB C 17 dX6_isHole_10 (by decide) (fun h10t_1 => ?_) (fun h10n_1 => ?_)
  · refine z_iconst C (v := nI 0) dX6_isHole_17 (by decide) ?_
    refine z_istore_n C [(3, .int (nI 0)), (2, .int (nI (k % 6))), (0, .int set), (1, .int (nI k))] dX6_isHole_18 rfl (by decide) rfl ?_
    refine z_iload_n C dX6_isHole_19 rfl (show zlk _ 3 = some (.int (nI 0)) from rfl) ?_
    refine z_if_eqN C 56 dX6_isHole_20 (by decide) (by decide) (fun _ => ?_) (fun h => absurd h (by decide))
    refine z_iconst C (v := nI 0) dX6_isHole_56 (by decide) ?_
    refine z_istore_n C [(3, .int (nI 0)), (2, .int (nI (k % 6))), (0, .int set), (1, .int (nI k))] dX6_isHole_57 rfl (by decide) rfl ?_
    refine z_iload_n C dX6_isHole_58 rfl (show zlk _ 3 = some (.int (nI 0)) from rfl) ?_
    refine z_if_eqN C 100 dX6_isHole_59 (by decide) (by decide) (fun _ => ?_) (fun h => absurd h (by decide))
    refine z_iconst C (v := nI 0) dX6_isHole_100 (by decide) ?_
    exact E _ _ _ _ (⟨bI_f (by first | (simp [m_hole, h10t_1]; done) | (exfalso; omega)), rfl⟩) (rfl) dX6_isHole_101
  · refine z_iconst C (v := nI 1) dX6_isHole_13 (by decide) ?_
    refine z_goto C 18 dX6_isHole_14 (by decide) ?_
    refine z_istore_n C [(3, .int (nI 1)), (2, .int (nI (k % 6))), (0, .int set), (1, .int (nI k))] dX6_isHole_18 rfl (by decide) rfl ?_
    refine z_iload_n C dX6_isHole_19 rfl (show zlk _ 3 = some (.int (nI 1)) from rfl) ?_
    refine z_if_eqN C 56 dX6_isHole_20 (by decide) (by decide) (fun h => absurd h (by decide)) (fun _ => ?_)
    refine z_iload_n C dX6_isHole_23 rfl (show zlk _ 2 = some (.int (nI (k % 6))) from rfl) ?_
    refine z_if_eqN C 37 dX6_isHole_24 (by decide) (by omega) (fun h24t_2 => ?_) (fun h24n_2 => ?_)
    · refine z_iload_n C dX6_isHole_37 rfl (show zlk _ 2 = some (.int (nI (k % 6))) from rfl) ?_
      refine z_iconst C (v := nI 5) dX6_isHole_38 (by decide) ?_
      refine z_icmp_eqN C 52 dX6_isHole_39 (by decide) (by omega) (by omega) (fun h39t_3 => ?_) (fun h39n_3 => ?_)
      · refine z_iconst C (v := nI 1) dX6_isHole_52 (by decide) ?_
        refine z_goto C 57 dX6_isHole_53 (by decide) ?_
        refine z_istore_n C [(3, .int (nI 1)), (2, .int (nI (k % 6))), (0, .int set), (1, .int (nI k))] dX6_isHole_57 rfl (by decide) rfl ?_
        refine z_iload_n C dX6_isHole_58 rfl (show zlk _ 3 = some (.int (nI 1)) from rfl) ?_
        refine z_if_eqN C 100 dX6_isHole_59 (by decide) (by decide) (fun h => absurd h (by decide)) (fun _ => ?_)
        refine z_iload_n C dX6_isHole_62 rfl (show zlk _ 1 = some (.int (nI k)) from rfl) ?_
        refine z_bipush C (v := nI 6) dX6_isHole_63 (by decide) ?_
        refine z_icmp_ltN C 79 dX6_isHole_65 (by decide) (by omega) (by omega) (fun h65t_4 => ?_) (fun h65n_4 => ?_)
        · refine z_iload_n C dX6_isHole_79 rfl (show zlk _ 1 = some (.int (nI k)) from rfl) ?_
          refine z_bipush C (v := nI 23) dX6_isHole_80 (by decide) ?_
          refine z_icmp_gtN C 96 dX6_isHole_82 (by decide) (by omega) (by omega) (fun h82t_5 => ?_) (fun h82n_5 => ?_)
          · refine z_iconst C (v := nI 1) dX6_isHole_96 (by decide) ?_
            refine z_goto C 101 dX6_isHole_97 (by decide) ?_
            exact E _ _ _ _ (⟨bI_t (by first | (simp [m_hole, h10n_1, h24t_2, h39t_3, h65t_4, h82t_5]; done) | (exfalso; omega)), rfl⟩) (rfl) dX6_isHole_101
          · refine z_iload_n C dX6_isHole_85 rfl (show zlk _ 0 = some (.int set) from rfl) ?_
            refine z_iload_n C dX6_isHole_86 rfl (show zlk _ 1 = some (.int (nI k)) from rfl) ?_
            refine z_bipush C (v := nI 6) dX6_isHole_87 (by decide) ?_
            refine z_iaddN C dX6_isHole_89 ?_
            refine z_callSi C (As := [.int set, .int (nI (k + 6))]) (rest := []) (c_X6_has l θ _ set (nI (k + 6))) gX6_isHole_X6_has rfl 2 (by decide +kernel) (by decide) (by decide) rfl rfl (Nat.le_of_ble_eq_true rfl) dX6_isHole_90 ?_
            rintro _ _ ⟨rfl, rfl⟩
            refine z_if_eqB C 100 dX6_isHole_93 (by decide) (fun h93t_6 => ?_) (fun h93n_6 => ?_)
            · refine z_iconst C (v := nI 0) dX6_isHole_100 (by decide) ?_
              exact E _ _ _ _ (⟨bI_f (by first | (simp [m_hole, h10n_1, h24t_2, h39t_3, h65t_4, h82n_5, h93t_6]; done) | (exfalso; omega)), rfl⟩) (rfl) dX6_isHole_101
            · refine z_iconst C (v := nI 1) dX6_isHole_96 (by decide) ?_
              refine z_goto C 101 dX6_isHole_97 (by decide) ?_
              exact E _ _ _ _ (⟨bI_t (by first | (simp [m_hole, h10n_1, h24t_2, h39t_3, h65t_4, h82n_5, h93n_6]; done) | (exfalso; omega)), rfl⟩) (rfl) dX6_isHole_101
        · refine z_iload_n C dX6_isHole_68 rfl (show zlk _ 0 = some (.int set) from rfl) ?_
          refine z_iload_n C dX6_isHole_69 rfl (show zlk _ 1 = some (.int (nI k)) from rfl) ?_
          refine z_bipush C (v := nI 6) dX6_isHole_70 (by decide) ?_
          refine z_isub C dX6_isHole_72 ?_
          refine z_callSi C (As := [.int set, .int ((nI k) - (nI 6))]) (rest := []) (c_X6_has l θ _ set ((nI k) - (nI 6))) gX6_isHole_X6_has rfl 2 (by decide +kernel) (by decide) (by decide) rfl rfl (Nat.le_of_ble_eq_true rfl) dX6_isHole_73 ?_
          rintro _ _ ⟨rfl, rfl⟩
          refine z_if_eqB C 100 dX6_isHole_76 (by decide) (fun h76t_7 => ?_) (fun h76n_7 => ?_)
          · refine z_iconst C (v := nI 0) dX6_isHole_100 (by decide) ?_
            exact E _ _ _ _ (⟨bI_f (by first | (simp [m_hole, h10n_1, h24t_2, h39t_3, h65n_4, h76t_7]; done) | (exfalso; omega)), rfl⟩) (rfl) dX6_isHole_101
          · refine z_iload_n C dX6_isHole_79 rfl (show zlk _ 1 = some (.int (nI k)) from rfl) ?_
            refine z_bipush C (v := nI 23) dX6_isHole_80 (by decide) ?_
            refine z_icmp_gtN C 96 dX6_isHole_82 (by decide) (by omega) (by omega) (fun h82t_8 => ?_) (fun h82n_8 => ?_)
            · refine z_iconst C (v := nI 1) dX6_isHole_96 (by decide) ?_
              refine z_goto C 101 dX6_isHole_97 (by decide) ?_
              exact E _ _ _ _ (⟨bI_t (by first | (simp [m_hole, h10n_1, h24t_2, h39t_3, h65n_4, h76n_7, h82t_8]; done) | (exfalso; omega)), rfl⟩) (rfl) dX6_isHole_101
            · refine z_iload_n C dX6_isHole_85 rfl (show zlk _ 0 = some (.int set) from rfl) ?_
              refine z_iload_n C dX6_isHole_86 rfl (show zlk _ 1 = some (.int (nI k)) from rfl) ?_
              refine z_bipush C (v := nI 6) dX6_isHole_87 (by decide) ?_
              refine z_iaddN C dX6_isHole_89 ?_
              refine z_callSi C (As := [.int set, .int (nI (k + 6))]) (rest := []) (c_X6_has l θ _ set (nI (k + 6))) gX6_isHole_X6_has rfl 2 (by decide +kernel) (by decide) (by decide) rfl rfl (Nat.le_of_ble_eq_true rfl) dX6_isHole_90 ?_
              rintro _ _ ⟨rfl, rfl⟩
              refine z_if_eqB C 100 dX6_isHole_93 (by decide) (fun h93t_9 => ?_) (fun h93n_9 => ?_)
              · refine z_iconst C (v := nI 0) dX6_isHole_100 (by decide) ?_
                exact E _ _ _ _ (⟨bI_f (by first | (simp [m_hole, h10n_1, h24t_2, h39t_3, h65n_4, h76n_7, h82n_8, h93t_9]; done) | (exfalso; omega)), rfl⟩) (rfl) dX6_isHole_101
              · refine z_iconst C (v := nI 1) dX6_isHole_96 (by decide) ?_
                refine z_goto C 101 dX6_isHole_97 (by decide) ?_
                exact E _ _ _ _ (⟨bI_t (by first | (simp [m_hole, h10n_1, h24t_2, h39t_3, h65n_4, h76n_7, h82n_8, h93n_9]; done) | (exfalso; omega)), rfl⟩) (rfl) dX6_isHole_101
      · refine z_iload_n C dX6_isHole_42 rfl (show zlk _ 0 = some (.int set) from rfl) ?_
        refine z_iload_n C dX6_isHole_43 rfl (show zlk _ 1 = some (.int (nI k)) from rfl) ?_
        refine z_iconst C (v := nI 1) dX6_isHole_44 (by decide) ?_
        refine z_iaddN C dX6_isHole_45 ?_
        refine z_callSi C (As := [.int set, .int (nI (k + 1))]) (rest := []) (c_X6_has l θ _ set (nI (k + 1))) gX6_isHole_X6_has rfl 2 (by decide +kernel) (by decide) (by decide) rfl rfl (Nat.le_of_ble_eq_true rfl) dX6_isHole_46 ?_
        rintro _ _ ⟨rfl, rfl⟩
        refine z_if_eqB C 56 dX6_isHole_49 (by decide) (fun h49t_10 => ?_) (fun h49n_10 => ?_)
        · refine z_iconst C (v := nI 0) dX6_isHole_56 (by decide) ?_
          refine z_istore_n C [(3, .int (nI 0)), (2, .int (nI (k % 6))), (0, .int set), (1, .int (nI k))] dX6_isHole_57 rfl (by decide) rfl ?_
          refine z_iload_n C dX6_isHole_58 rfl (show zlk _ 3 = some (.int (nI 0)) from rfl) ?_
          refine z_if_eqN C 100 dX6_isHole_59 (by decide) (by decide) (fun _ => ?_) (fun h => absurd h (by decide))
          refine z_iconst C (v := nI 0) dX6_isHole_100 (by decide) ?_
          exact E _ _ _ _ (⟨bI_f (by first | (simp [m_hole, h10n_1, h24t_2, h39n_3, h49t_10]; done) | (exfalso; omega)), rfl⟩) (rfl) dX6_isHole_101
        · refine z_iconst C (v := nI 1) dX6_isHole_52 (by decide) ?_
          refine z_goto C 57 dX6_isHole_53 (by decide) ?_
          refine z_istore_n C [(3, .int (nI 1)), (2, .int (nI (k % 6))), (0, .int set), (1, .int (nI k))] dX6_isHole_57 rfl (by decide) rfl ?_
          refine z_iload_n C dX6_isHole_58 rfl (show zlk _ 3 = some (.int (nI 1)) from rfl) ?_
          refine z_if_eqN C 100 dX6_isHole_59 (by decide) (by decide) (fun h => absurd h (by decide)) (fun _ => ?_)
          refine z_iload_n C dX6_isHole_62 rfl (show zlk _ 1 = some (.int (nI k)) from rfl) ?_
          refine z_bipush C (v := nI 6) dX6_isHole_63 (by decide) ?_
          refine z_icmp_ltN C 79 dX6_isHole_65 (by decide) (by omega) (by omega) (fun h65t_11 => ?_) (fun h65n_11 => ?_)
          · refine z_iload_n C dX6_isHole_79 rfl (show zlk _ 1 = some (.int (nI k)) from rfl) ?_
            refine z_bipush C (v := nI 23) dX6_isHole_80 (by decide) ?_
            refine z_icmp_gtN C 96 dX6_isHole_82 (by decide) (by omega) (by omega) (fun h82t_12 => ?_) (fun h82n_12 => ?_)
            · refine z_iconst C (v := nI 1) dX6_isHole_96 (by decide) ?_
              refine z_goto C 101 dX6_isHole_97 (by decide) ?_
              exact E _ _ _ _ (⟨bI_t (by first | (simp [m_hole, h10n_1, h24t_2, h39n_3, h49n_10, h65t_11, h82t_12]; done) | (exfalso; omega)), rfl⟩) (rfl) dX6_isHole_101
            · refine z_iload_n C dX6_isHole_85 rfl (show zlk _ 0 = some (.int set) from rfl) ?_
              refine z_iload_n C dX6_isHole_86 rfl (show zlk _ 1 = some (.int (nI k)) from rfl) ?_
              refine z_bipush C (v := nI 6) dX6_isHole_87 (by decide) ?_
              refine z_iaddN C dX6_isHole_89 ?_
              refine z_callSi C (As := [.int set, .int (nI (k + 6))]) (rest := []) (c_X6_has l θ _ set (nI (k + 6))) gX6_isHole_X6_has rfl 2 (by decide +kernel) (by decide) (by decide) rfl rfl (Nat.le_of_ble_eq_true rfl) dX6_isHole_90 ?_
              rintro _ _ ⟨rfl, rfl⟩
              refine z_if_eqB C 100 dX6_isHole_93 (by decide) (fun h93t_13 => ?_) (fun h93n_13 => ?_)
              · refine z_iconst C (v := nI 0) dX6_isHole_100 (by decide) ?_
                exact E _ _ _ _ (⟨bI_f (by first | (simp [m_hole, h10n_1, h24t_2, h39n_3, h49n_10, h65t_11, h82n_12, h93t_13]; done) | (exfalso; omega)), rfl⟩) (rfl) dX6_isHole_101
              · refine z_iconst C (v := nI 1) dX6_isHole_96 (by decide) ?_
                refine z_goto C 101 dX6_isHole_97 (by decide) ?_
                exact E _ _ _ _ (⟨bI_t (by first | (simp [m_hole, h10n_1, h24t_2, h39n_3, h49n_10, h65t_11, h82n_12, h93n_13]; done) | (exfalso; omega)), rfl⟩) (rfl) dX6_isHole_101
          · refine z_iload_n C dX6_isHole_68 rfl (show zlk _ 0 = some (.int set) from rfl) ?_
            refine z_iload_n C dX6_isHole_69 rfl (show zlk _ 1 = some (.int (nI k)) from rfl) ?_
            refine z_bipush C (v := nI 6) dX6_isHole_70 (by decide) ?_
            refine z_isub C dX6_isHole_72 ?_
            refine z_callSi C (As := [.int set, .int ((nI k) - (nI 6))]) (rest := []) (c_X6_has l θ _ set ((nI k) - (nI 6))) gX6_isHole_X6_has rfl 2 (by decide +kernel) (by decide) (by decide) rfl rfl (Nat.le_of_ble_eq_true rfl) dX6_isHole_73 ?_
            rintro _ _ ⟨rfl, rfl⟩
            refine z_if_eqB C 100 dX6_isHole_76 (by decide) (fun h76t_14 => ?_) (fun h76n_14 => ?_)
            · refine z_iconst C (v := nI 0) dX6_isHole_100 (by decide) ?_
              exact E _ _ _ _ (⟨bI_f (by first | (simp [m_hole, h10n_1, h24t_2, h39n_3, h49n_10, h65n_11, h76t_14]; done) | (exfalso; omega)), rfl⟩) (rfl) dX6_isHole_101
            · refine z_iload_n C dX6_isHole_79 rfl (show zlk _ 1 = some (.int (nI k)) from rfl) ?_
              refine z_bipush C (v := nI 23) dX6_isHole_80 (by decide) ?_
              refine z_icmp_gtN C 96 dX6_isHole_82 (by decide) (by omega) (by omega) (fun h82t_15 => ?_) (fun h82n_15 => ?_)
              · refine z_iconst C (v := nI 1) dX6_isHole_96 (by decide) ?_
                refine z_goto C 101 dX6_isHole_97 (by decide) ?_
                exact E _ _ _ _ (⟨bI_t (by first | (simp [m_hole, h10n_1, h24t_2, h39n_3, h49n_10, h65n_11, h76n_14, h82t_15]; done) | (exfalso; omega)), rfl⟩) (rfl) dX6_isHole_101
              · refine z_iload_n C dX6_isHole_85 rfl (show zlk _ 0 = some (.int set) from rfl) ?_
                refine z_iload_n C dX6_isHole_86 rfl (show zlk _ 1 = some (.int (nI k)) from rfl) ?_
                refine z_bipush C (v := nI 6) dX6_isHole_87 (by decide) ?_
                refine z_iaddN C dX6_isHole_89 ?_
                refine z_callSi C (As := [.int set, .int (nI (k + 6))]) (rest := []) (c_X6_has l θ _ set (nI (k + 6))) gX6_isHole_X6_has rfl 2 (by decide +kernel) (by decide) (by decide) rfl rfl (Nat.le_of_ble_eq_true rfl) dX6_isHole_90 ?_
                rintro _ _ ⟨rfl, rfl⟩
                refine z_if_eqB C 100 dX6_isHole_93 (by decide) (fun h93t_16 => ?_) (fun h93n_16 => ?_)
                · refine z_iconst C (v := nI 0) dX6_isHole_100 (by decide) ?_
                  exact E _ _ _ _ (⟨bI_f (by first | (simp [m_hole, h10n_1, h24t_2, h39n_3, h49n_10, h65n_11, h76n_14, h82n_15, h93t_16]; done) | (exfalso; omega)), rfl⟩) (rfl) dX6_isHole_101
                · refine z_iconst C (v := nI 1) dX6_isHole_96 (by decide) ?_
                  refine z_goto C 101 dX6_isHole_97 (by decide) ?_
                  exact E _ _ _ _ (⟨bI_t (by first | (simp [m_hole, h10n_1, h24t_2, h39n_3, h49n_10, h65n_11, h76n_14, h82n_15, h93n_16]; done) | (exfalso; omega)), rfl⟩) (rfl) dX6_isHole_101
    · refine z_iload_n C dX6_isHole_27 rfl (show zlk _ 0 = some (.int set) from rfl) ?_
      refine z_iload_n C dX6_isHole_28 rfl (show zlk _ 1 = some (.int (nI k)) from rfl) ?_
      refine z_iconst C (v := nI 1) dX6_isHole_29 (by decide) ?_
      refine z_isub C dX6_isHole_30 ?_
      refine z_callSi C (As := [.int set, .int ((nI k) - (nI 1))]) (rest := []) (c_X6_has l θ _ set ((nI k) - (nI 1))) gX6_isHole_X6_has rfl 2 (by decide +kernel) (by decide) (by decide) rfl rfl (Nat.le_of_ble_eq_true rfl) dX6_isHole_31 ?_
      rintro _ _ ⟨rfl, rfl⟩
      refine z_if_eqB C 56 dX6_isHole_34 (by decide) (fun h34t_17 => ?_) (fun h34n_17 => ?_)
      · refine z_iconst C (v := nI 0) dX6_isHole_56 (by decide) ?_
        refine z_istore_n C [(3, .int (nI 0)), (2, .int (nI (k % 6))), (0, .int set), (1, .int (nI k))] dX6_isHole_57 rfl (by decide) rfl ?_
        refine z_iload_n C dX6_isHole_58 rfl (show zlk _ 3 = some (.int (nI 0)) from rfl) ?_
        refine z_if_eqN C 100 dX6_isHole_59 (by decide) (by decide) (fun _ => ?_) (fun h => absurd h (by decide))
        refine z_iconst C (v := nI 0) dX6_isHole_100 (by decide) ?_
        exact E _ _ _ _ (⟨bI_f (by first | (simp [m_hole, h10n_1, h24n_2, h34t_17]; done) | (exfalso; omega)), rfl⟩) (rfl) dX6_isHole_101
      · refine z_iload_n C dX6_isHole_37 rfl (show zlk _ 2 = some (.int (nI (k % 6))) from rfl) ?_
        refine z_iconst C (v := nI 5) dX6_isHole_38 (by decide) ?_
        refine z_icmp_eqN C 52 dX6_isHole_39 (by decide) (by omega) (by omega) (fun h39t_18 => ?_) (fun h39n_18 => ?_)
        · refine z_iconst C (v := nI 1) dX6_isHole_52 (by decide) ?_
          refine z_goto C 57 dX6_isHole_53 (by decide) ?_
          refine z_istore_n C [(3, .int (nI 1)), (2, .int (nI (k % 6))), (0, .int set), (1, .int (nI k))] dX6_isHole_57 rfl (by decide) rfl ?_
          refine z_iload_n C dX6_isHole_58 rfl (show zlk _ 3 = some (.int (nI 1)) from rfl) ?_
          refine z_if_eqN C 100 dX6_isHole_59 (by decide) (by decide) (fun h => absurd h (by decide)) (fun _ => ?_)
          refine z_iload_n C dX6_isHole_62 rfl (show zlk _ 1 = some (.int (nI k)) from rfl) ?_
          refine z_bipush C (v := nI 6) dX6_isHole_63 (by decide) ?_
          refine z_icmp_ltN C 79 dX6_isHole_65 (by decide) (by omega) (by omega) (fun h65t_19 => ?_) (fun h65n_19 => ?_)
          · refine z_iload_n C dX6_isHole_79 rfl (show zlk _ 1 = some (.int (nI k)) from rfl) ?_
            refine z_bipush C (v := nI 23) dX6_isHole_80 (by decide) ?_
            refine z_icmp_gtN C 96 dX6_isHole_82 (by decide) (by omega) (by omega) (fun h82t_20 => ?_) (fun h82n_20 => ?_)
            · refine z_iconst C (v := nI 1) dX6_isHole_96 (by decide) ?_
              refine z_goto C 101 dX6_isHole_97 (by decide) ?_
              exact E _ _ _ _ (⟨bI_t (by first | (simp [m_hole, h10n_1, h24n_2, h34n_17, h39t_18, h65t_19, h82t_20]; done) | (exfalso; omega)), rfl⟩) (rfl) dX6_isHole_101
            · refine z_iload_n C dX6_isHole_85 rfl (show zlk _ 0 = some (.int set) from rfl) ?_
              refine z_iload_n C dX6_isHole_86 rfl (show zlk _ 1 = some (.int (nI k)) from rfl) ?_
              refine z_bipush C (v := nI 6) dX6_isHole_87 (by decide) ?_
              refine z_iaddN C dX6_isHole_89 ?_
              refine z_callSi C (As := [.int set, .int (nI (k + 6))]) (rest := []) (c_X6_has l θ _ set (nI (k + 6))) gX6_isHole_X6_has rfl 2 (by decide +kernel) (by decide) (by decide) rfl rfl (Nat.le_of_ble_eq_true rfl) dX6_isHole_90 ?_
              rintro _ _ ⟨rfl, rfl⟩
              refine z_if_eqB C 100 dX6_isHole_93 (by decide) (fun h93t_21 => ?_) (fun h93n_21 => ?_)
              · refine z_iconst C (v := nI 0) dX6_isHole_100 (by decide) ?_
                exact E _ _ _ _ (⟨bI_f (by first | (simp [m_hole, h10n_1, h24n_2, h34n_17, h39t_18, h65t_19, h82n_20, h93t_21]; done) | (exfalso; omega)), rfl⟩) (rfl) dX6_isHole_101
              · refine z_iconst C (v := nI 1) dX6_isHole_96 (by decide) ?_
                refine z_goto C 101 dX6_isHole_97 (by decide) ?_
                exact E _ _ _ _ (⟨bI_t (by first | (simp [m_hole, h10n_1, h24n_2, h34n_17, h39t_18, h65t_19, h82n_20, h93n_21]; done) | (exfalso; omega)), rfl⟩) (rfl) dX6_isHole_101
          · refine z_iload_n C dX6_isHole_68 rfl (show zlk _ 0 = some (.int set) from rfl) ?_
            refine z_iload_n C dX6_isHole_69 rfl (show zlk _ 1 = some (.int (nI k)) from rfl) ?_
            refine z_bipush C (v := nI 6) dX6_isHole_70 (by decide) ?_
            refine z_isub C dX6_isHole_72 ?_
            refine z_callSi C (As := [.int set, .int ((nI k) - (nI 6))]) (rest := []) (c_X6_has l θ _ set ((nI k) - (nI 6))) gX6_isHole_X6_has rfl 2 (by decide +kernel) (by decide) (by decide) rfl rfl (Nat.le_of_ble_eq_true rfl) dX6_isHole_73 ?_
            rintro _ _ ⟨rfl, rfl⟩
            refine z_if_eqB C 100 dX6_isHole_76 (by decide) (fun h76t_22 => ?_) (fun h76n_22 => ?_)
            · refine z_iconst C (v := nI 0) dX6_isHole_100 (by decide) ?_
              exact E _ _ _ _ (⟨bI_f (by first | (simp [m_hole, h10n_1, h24n_2, h34n_17, h39t_18, h65n_19, h76t_22]; done) | (exfalso; omega)), rfl⟩) (rfl) dX6_isHole_101
            · refine z_iload_n C dX6_isHole_79 rfl (show zlk _ 1 = some (.int (nI k)) from rfl) ?_
              refine z_bipush C (v := nI 23) dX6_isHole_80 (by decide) ?_
              refine z_icmp_gtN C 96 dX6_isHole_82 (by decide) (by omega) (by omega) (fun h82t_23 => ?_) (fun h82n_23 => ?_)
              · refine z_iconst C (v := nI 1) dX6_isHole_96 (by decide) ?_
                refine z_goto C 101 dX6_isHole_97 (by decide) ?_
                exact E _ _ _ _ (⟨bI_t (by first | (simp [m_hole, h10n_1, h24n_2, h34n_17, h39t_18, h65n_19, h76n_22, h82t_23]; done) | (exfalso; omega)), rfl⟩) (rfl) dX6_isHole_101
              · refine z_iload_n C dX6_isHole_85 rfl (show zlk _ 0 = some (.int set) from rfl) ?_
                refine z_iload_n C dX6_isHole_86 rfl (show zlk _ 1 = some (.int (nI k)) from rfl) ?_
                refine z_bipush C (v := nI 6) dX6_isHole_87 (by decide) ?_
                refine z_iaddN C dX6_isHole_89 ?_
                refine z_callSi C (As := [.int set, .int (nI (k + 6))]) (rest := []) (c_X6_has l θ _ set (nI (k + 6))) gX6_isHole_X6_has rfl 2 (by decide +kernel) (by decide) (by decide) rfl rfl (Nat.le_of_ble_eq_true rfl) dX6_isHole_90 ?_
                rintro _ _ ⟨rfl, rfl⟩
                refine z_if_eqB C 100 dX6_isHole_93 (by decide) (fun h93t_24 => ?_) (fun h93n_24 => ?_)
                · refine z_iconst C (v := nI 0) dX6_isHole_100 (by decide) ?_
                  exact E _ _ _ _ (⟨bI_f (by first | (simp [m_hole, h10n_1, h24n_2, h34n_17, h39t_18, h65n_19, h76n_22, h82n_23, h93t_24]; done) | (exfalso; omega)), rfl⟩) (rfl) dX6_isHole_101
                · refine z_iconst C (v := nI 1) dX6_isHole_96 (by decide) ?_
                  refine z_goto C 101 dX6_isHole_97 (by decide) ?_
                  exact E _ _ _ _ (⟨bI_t (by first | (simp [m_hole, h10n_1, h24n_2, h34n_17, h39t_18, h65n_19, h76n_22, h82n_23, h93n_24]; done) | (exfalso; omega)), rfl⟩) (rfl) dX6_isHole_101
        · refine z_iload_n C dX6_isHole_42 rfl (show zlk _ 0 = some (.int set) from rfl) ?_
          refine z_iload_n C dX6_isHole_43 rfl (show zlk _ 1 = some (.int (nI k)) from rfl) ?_
          refine z_iconst C (v := nI 1) dX6_isHole_44 (by decide) ?_
          refine z_iaddN C dX6_isHole_45 ?_
          refine z_callSi C (As := [.int set, .int (nI (k + 1))]) (rest := []) (c_X6_has l θ _ set (nI (k + 1))) gX6_isHole_X6_has rfl 2 (by decide +kernel) (by decide) (by decide) rfl rfl (Nat.le_of_ble_eq_true rfl) dX6_isHole_46 ?_
          rintro _ _ ⟨rfl, rfl⟩
          refine z_if_eqB C 56 dX6_isHole_49 (by decide) (fun h49t_25 => ?_) (fun h49n_25 => ?_)
          · refine z_iconst C (v := nI 0) dX6_isHole_56 (by decide) ?_
            refine z_istore_n C [(3, .int (nI 0)), (2, .int (nI (k % 6))), (0, .int set), (1, .int (nI k))] dX6_isHole_57 rfl (by decide) rfl ?_
            refine z_iload_n C dX6_isHole_58 rfl (show zlk _ 3 = some (.int (nI 0)) from rfl) ?_
            refine z_if_eqN C 100 dX6_isHole_59 (by decide) (by decide) (fun _ => ?_) (fun h => absurd h (by decide))
            refine z_iconst C (v := nI 0) dX6_isHole_100 (by decide) ?_
            exact E _ _ _ _ (⟨bI_f (by first | (simp [m_hole, h10n_1, h24n_2, h34n_17, h39n_18, h49t_25]; done) | (exfalso; omega)), rfl⟩) (rfl) dX6_isHole_101
          · refine z_iconst C (v := nI 1) dX6_isHole_52 (by decide) ?_
            refine z_goto C 57 dX6_isHole_53 (by decide) ?_
            refine z_istore_n C [(3, .int (nI 1)), (2, .int (nI (k % 6))), (0, .int set), (1, .int (nI k))] dX6_isHole_57 rfl (by decide) rfl ?_
            refine z_iload_n C dX6_isHole_58 rfl (show zlk _ 3 = some (.int (nI 1)) from rfl) ?_
            refine z_if_eqN C 100 dX6_isHole_59 (by decide) (by decide) (fun h => absurd h (by decide)) (fun _ => ?_)
            refine z_iload_n C dX6_isHole_62 rfl (show zlk _ 1 = some (.int (nI k)) from rfl) ?_
            refine z_bipush C (v := nI 6) dX6_isHole_63 (by decide) ?_
            refine z_icmp_ltN C 79 dX6_isHole_65 (by decide) (by omega) (by omega) (fun h65t_26 => ?_) (fun h65n_26 => ?_)
            · refine z_iload_n C dX6_isHole_79 rfl (show zlk _ 1 = some (.int (nI k)) from rfl) ?_
              refine z_bipush C (v := nI 23) dX6_isHole_80 (by decide) ?_
              refine z_icmp_gtN C 96 dX6_isHole_82 (by decide) (by omega) (by omega) (fun h82t_27 => ?_) (fun h82n_27 => ?_)
              · refine z_iconst C (v := nI 1) dX6_isHole_96 (by decide) ?_
                refine z_goto C 101 dX6_isHole_97 (by decide) ?_
                exact E _ _ _ _ (⟨bI_t (by first | (simp [m_hole, h10n_1, h24n_2, h34n_17, h39n_18, h49n_25, h65t_26, h82t_27]; done) | (exfalso; omega)), rfl⟩) (rfl) dX6_isHole_101
              · refine z_iload_n C dX6_isHole_85 rfl (show zlk _ 0 = some (.int set) from rfl) ?_
                refine z_iload_n C dX6_isHole_86 rfl (show zlk _ 1 = some (.int (nI k)) from rfl) ?_
                refine z_bipush C (v := nI 6) dX6_isHole_87 (by decide) ?_
                refine z_iaddN C dX6_isHole_89 ?_
                refine z_callSi C (As := [.int set, .int (nI (k + 6))]) (rest := []) (c_X6_has l θ _ set (nI (k + 6))) gX6_isHole_X6_has rfl 2 (by decide +kernel) (by decide) (by decide) rfl rfl (Nat.le_of_ble_eq_true rfl) dX6_isHole_90 ?_
                rintro _ _ ⟨rfl, rfl⟩
                refine z_if_eqB C 100 dX6_isHole_93 (by decide) (fun h93t_28 => ?_) (fun h93n_28 => ?_)
                · refine z_iconst C (v := nI 0) dX6_isHole_100 (by decide) ?_
                  exact E _ _ _ _ (⟨bI_f (by first | (simp [m_hole, h10n_1, h24n_2, h34n_17, h39n_18, h49n_25, h65t_26, h82n_27, h93t_28]; done) | (exfalso; omega)), rfl⟩) (rfl) dX6_isHole_101
                · refine z_iconst C (v := nI 1) dX6_isHole_96 (by decide) ?_
                  refine z_goto C 101 dX6_isHole_97 (by decide) ?_
                  exact E _ _ _ _ (⟨bI_t (by first | (simp [m_hole, h10n_1, h24n_2, h34n_17, h39n_18, h49n_25, h65t_26, h82n_27, h93n_28]; done) | (exfalso; omega)), rfl⟩) (rfl) dX6_isHole_101
            · refine z_iload_n C dX6_isHole_68 rfl (show zlk _ 0 = some (.int set) from rfl) ?_
              refine z_iload_n C dX6_isHole_69 rfl (show zlk _ 1 = some (.int (nI k)) from rfl) ?_
              refine z_bipush C (v := nI 6) dX6_isHole_70 (by decide) ?_
              refine z_isub C dX6_isHole_72 ?_
              refine z_callSi C (As := [.int set, .int ((nI k) - (nI 6))]) (rest := []) (c_X6_has l θ _ set ((nI k) - (nI 6))) gX6_isHole_X6_has rfl 2 (by decide +kernel) (by decide) (by decide) rfl rfl (Nat.le_of_ble_eq_true rfl) dX6_isHole_73 ?_
              rintro _ _ ⟨rfl, rfl⟩
              refine z_if_eqB C 100 dX6_isHole_76 (by decide) (fun h76t_29 => ?_) (fun h76n_29 => ?_)
              · refine z_iconst C (v := nI 0) dX6_isHole_100 (by decide) ?_
                exact E _ _ _ _ (⟨bI_f (by first | (simp [m_hole, h10n_1, h24n_2, h34n_17, h39n_18, h49n_25, h65n_26, h76t_29]; done) | (exfalso; omega)), rfl⟩) (rfl) dX6_isHole_101
              · refine z_iload_n C dX6_isHole_79 rfl (show zlk _ 1 = some (.int (nI k)) from rfl) ?_
                refine z_bipush C (v := nI 23) dX6_isHole_80 (by decide) ?_
                refine z_icmp_gtN C 96 dX6_isHole_82 (by decide) (by omega) (by omega) (fun h82t_30 => ?_) (fun h82n_30 => ?_)
                · refine z_iconst C (v := nI 1) dX6_isHole_96 (by decide) ?_
                  refine z_goto C 101 dX6_isHole_97 (by decide) ?_
                  exact E _ _ _ _ (⟨bI_t (by first | (simp [m_hole, h10n_1, h24n_2, h34n_17, h39n_18, h49n_25, h65n_26, h76n_29, h82t_30]; done) | (exfalso; omega)), rfl⟩) (rfl) dX6_isHole_101
                · refine z_iload_n C dX6_isHole_85 rfl (show zlk _ 0 = some (.int set) from rfl) ?_
                  refine z_iload_n C dX6_isHole_86 rfl (show zlk _ 1 = some (.int (nI k)) from rfl) ?_
                  refine z_bipush C (v := nI 6) dX6_isHole_87 (by decide) ?_
                  refine z_iaddN C dX6_isHole_89 ?_
                  refine z_callSi C (As := [.int set, .int (nI (k + 6))]) (rest := []) (c_X6_has l θ _ set (nI (k + 6))) gX6_isHole_X6_has rfl 2 (by decide +kernel) (by decide) (by decide) rfl rfl (Nat.le_of_ble_eq_true rfl) dX6_isHole_90 ?_
                  rintro _ _ ⟨rfl, rfl⟩
                  refine z_if_eqB C 100 dX6_isHole_93 (by decide) (fun h93t_31 => ?_) (fun h93n_31 => ?_)
                  · refine z_iconst C (v := nI 0) dX6_isHole_100 (by decide) ?_
                    exact E _ _ _ _ (⟨bI_f (by first | (simp [m_hole, h10n_1, h24n_2, h34n_17, h39n_18, h49n_25, h65n_26, h76n_29, h82n_30, h93t_31]; done) | (exfalso; omega)), rfl⟩) (rfl) dX6_isHole_101
                  · refine z_iconst C (v := nI 1) dX6_isHole_96 (by decide) ?_
                    refine z_goto C 101 dX6_isHole_97 (by decide) ?_
                    exact E _ _ _ _ (⟨bI_t (by first | (simp [m_hole, h10n_1, h24n_2, h34n_17, h39n_18, h49n_25, h65n_26, h76n_29, h82n_30, h93n_31]; done) | (exfalso; omega)), rfl⟩) (rfl) dX6_isHole_101

def m_tu0 (set : Int32) : Nat → Int32
  | 0 => nI 0
  | k + 1 => m_tu0 set k ||| (bif m_hole set k then nI 1 <<< (nI k &&& 31) else nI 0)
def m_tu1 (set : Int32) : Nat → Int32
  | 0 => nI 0
  | k + 1 => m_tu1 set k ||| (bif m_has set (nI (k + 5) - nI (2 * (k % 6))) then nI 1 <<< (nI k &&& 31) else nI 0)
set_option maxHeartbeats 4000000 in
set_option maxRecDepth 100000 in
theorem c_X6_turned_1 (l : Launch) (θ : zH) (ad : Nat → Nat) (n : Nat → Nat) (g : Int32) (r : Nat → Nat → Int32) (set x : Int32) (hs : okN set 1073741824 = false) : cI l yX6_turned wsX6_turned 2 θ [.ref (ad 0), .int set, .int x] (MW θ ad n g r) (fun r0 Y => r0 = (-1000000002) ∧ Y = MW θ ad n g r) := by
  refine z_cI (by decide) rfl rfl (Nat.le_of_ble_eq_true rfl) (lv := [(0, .ref (ad 0)), (1, .int set), (2, .int x)]) rfl (fun κ C E => ?_)
  refine z_iload_n C dX6_turned_0 rfl (show zlk _ 1 = some (.int set) from rfl) ?_
  refine z_i2l C dX6_turned_1 ?_
  refine z_lconst C (v := 0) dX6_turned_2 (by decide) ?_
  refine z_ldc2 C (v := 1073741823) (by decide +kernel) dX6_turned_3 ?_
  refine z_callSi C (As := [.long (Int32.toInt64 set), .long 0, .long (1073741823)]) (rest := []) (c_X6_in l θ _ (Int32.toInt64 set) 0 (1073741823)) gX6_turned_X6_in rfl 3 (by decide +kernel) (by decide) (by decide) rfl rfl (Nat.le_of_ble_eq_true rfl) dX6_turned_6 ?_
  rintro _ _ ⟨rfl, rfl⟩
  refine z_top (v' := .int (bI (okN set 1073741824))) (by rw [m_in_lit (N := 1073741824) (by decide)]) ?_
  refine z_if_eqB C 22 dX6_turned_9 (by decide) (fun _ => ?_) (fun h => absurd h (by rw [hs]; decide))
  refine z_ldc C (v := (-1000000002)) (by decide +kernel) dX6_turned_22 ?_
  exact E _ _ _ _ (⟨rfl, rfl⟩) (rfl) dX6_turned_24

set_option maxHeartbeats 4000000 in
set_option maxRecDepth 100000 in
theorem c_X6_turned_2 (l : Launch) (θ : zH) (ad : Nat → Nat) (n : Nat → Nat) (g : Int32) (r : Nat → Nat → Int32) (set x : Int32) (hs : okN set 1073741824 = true) (hx : okN x 2 = false) : cI l yX6_turned wsX6_turned 2 θ [.ref (ad 0), .int set, .int x] (MW θ ad n g r) (fun r0 Y => r0 = (-1000000002) ∧ Y = MW θ ad n g r) := by
  refine z_cI (by decide) rfl rfl (Nat.le_of_ble_eq_true rfl) (lv := [(0, .ref (ad 0)), (1, .int set), (2, .int x)]) rfl (fun κ C E => ?_)
  refine z_iload_n C dX6_turned_0 rfl (show zlk _ 1 = some (.int set) from rfl) ?_
  refine z_i2l C dX6_turned_1 ?_
  refine z_lconst C (v := 0) dX6_turned_2 (by decide) ?_
  refine z_ldc2 C (v := 1073741823) (by decide +kernel) dX6_turned_3 ?_
  refine z_callSi C (As := [.long (Int32.toInt64 set), .long 0, .long (1073741823)]) (rest := []) (c_X6_in l θ _ (Int32.toInt64 set) 0 (1073741823)) gX6_turned_X6_in rfl 3 (by decide +kernel) (by decide) (by decide) rfl rfl (Nat.le_of_ble_eq_true rfl) dX6_turned_6 ?_
  rintro _ _ ⟨rfl, rfl⟩
  refine z_top (v' := .int (bI (okN set 1073741824))) (by rw [m_in_lit (N := 1073741824) (by decide)]) ?_
  refine z_if_eqB C 22 dX6_turned_9 (by decide) (fun h => absurd h (by rw [hs]; decide)) (fun _ => ?_)
  refine z_iload_n C dX6_turned_12 rfl (show zlk _ 2 = some (.int x) from rfl) ?_
  refine z_i2l C dX6_turned_13 ?_
  refine z_lconst C (v := 0) dX6_turned_14 (by decide) ?_
  refine z_lconst C (v := 1) dX6_turned_15 (by decide) ?_
  refine z_callSi C (As := [.long (Int32.toInt64 x), .long 0, .long 1]) (rest := []) (c_X6_in l θ _ (Int32.toInt64 x) 0 1) gX6_turned_X6_in rfl 3 (by decide +kernel) (by decide) (by decide) rfl rfl (Nat.le_of_ble_eq_true rfl) dX6_turned_16 ?_
  rintro _ _ ⟨rfl, rfl⟩
  refine z_top (v' := .int (bI (okN x 2))) (by rw [m_in_lit (N := 2) (by decide)]) ?_
  refine z_if_neB C 25 dX6_turned_19 (by decide) (fun h => absurd h (by rw [hx]; decide)) (fun _ => ?_)
  refine z_ldc C (v := (-1000000002)) (by decide +kernel) dX6_turned_22 ?_
  exact E _ _ _ _ (⟨rfl, rfl⟩) (rfl) dX6_turned_24

set_option maxHeartbeats 4000000 in
set_option maxRecDepth 100000 in
theorem c_X6_turned_30 (l : Launch) (θ : zH) (ad : Nat → Nat) (n : Nat → Nat) (g : Int32) (r : Nat → Nat → Int32) (set : Int32) (hs : okN set 1073741824 = true) : cI l yX6_turned wsX6_turned 2 θ [.ref (ad 0), .int set, .int (nI 0)] (MW θ ad n g r) (fun r0 Y => r0 = m_tu0 set 30 ∧ Y = MW θ ad n g r) := by
  refine z_cI (by decide) rfl rfl (Nat.le_of_ble_eq_true rfl) (lv := [(0, .ref (ad 0)), (1, .int set), (2, .int (nI 0))]) rfl (fun κ C E => ?_)
  refine z_iload_n C dX6_turned_0 rfl (show zlk _ 1 = some (.int set) from rfl) ?_
  refine z_i2l C dX6_turned_1 ?_
  refine z_lconst C (v := 0) dX6_turned_2 (by decide) ?_
  refine z_ldc2 C (v := 1073741823) (by decide +kernel) dX6_turned_3 ?_
  refine z_callSi C (As := [.long (Int32.toInt64 set), .long 0, .long (1073741823)]) (rest := []) (c_X6_in l θ _ (Int32.toInt64 set) 0 (1073741823)) gX6_turned_X6_in rfl 3 (by decide +kernel) (by decide) (by decide) rfl rfl (Nat.le_of_ble_eq_true rfl) dX6_turned_6 ?_
  rintro _ _ ⟨rfl, rfl⟩
  refine z_top (v' := .int (bI (okN set 1073741824))) (by rw [m_in_lit (N := 1073741824) (by decide)]) ?_
  refine z_if_eqB C 22 dX6_turned_9 (by decide) (fun h => absurd h (by rw [hs]; decide)) (fun _ => ?_)
  refine z_iload_n C dX6_turned_12 rfl (show zlk _ 2 = some (.int (nI 0)) from rfl) ?_
  refine z_i2l C dX6_turned_13 ?_
  refine z_lconst C (v := 0) dX6_turned_14 (by decide) ?_
  refine z_lconst C (v := 1) dX6_turned_15 (by decide) ?_
  refine z_callSi C (As := [.long (Int32.toInt64 (nI 0)), .long 0, .long 1]) (rest := []) (c_X6_in l θ _ (Int32.toInt64 (nI 0)) 0 1) gX6_turned_X6_in rfl 3 (by decide +kernel) (by decide) (by decide) rfl rfl (Nat.le_of_ble_eq_true rfl) dX6_turned_16 ?_
  rintro _ _ ⟨rfl, rfl⟩
  refine z_top (v' := .int (bI (okN (nI 0) 2))) (by rw [m_in_lit (N := 2) (by decide)]) ?_
  refine z_if_neB C 25 dX6_turned_19 (by decide) (fun _ => ?_) (fun h => absurd h (by rw [okN_lt (by decide) (by decide)]; decide))
  refine z_iconst C (v := nI 0) dX6_turned_25 (by decide) ?_
  refine z_istore_n C [(3, .int (nI 0)), (0, .ref (ad 0)), (1, .int set), (2, .int (nI 0))] dX6_turned_26 rfl (by decide) rfl ?_
  refine z_iconst C (v := nI 0) dX6_turned_27 (by decide) ?_
  refine z_istore C [(4, .int (nI 0)), (3, .int (nI 0)), (0, .ref (ad 0)), (1, .int set), (2, .int (nI 0))] dX6_turned_28 (by decide) rfl ?_
  refine z_lv (lv' := [(0, .ref (ad 0)), (1, .int set), (2, .int (nI 0)), (3, .int (m_tu0 set 0)), (4, .int (nI 0))]) rfl ?_
  refine z_up (fun k => Z κ (MW θ ad n g r) 30 [(0, .ref (ad 0)), (1, .int set), (2, .int (nI 0)), (3, .int (m_tu0 set k)), (4, .int (nI k))] []) (30) ?_ ?_ 0 (by omega)
  · refine z_iload C dX6_turned_30 (show zlk _ 4 = some (.int (nI 30)) from rfl) ?_
    refine z_bipush C (v := nI 30) dX6_turned_32 (by decide) ?_
    refine z_icmp_geT C 90 dX6_turned_34 (by decide) (by omega) (by omega) (by omega) ?_
    refine z_iload_n C dX6_turned_90 rfl (show zlk _ 3 = some (.int (m_tu0 set 30)) from rfl) ?_
    exact E _ _ _ _ (⟨rfl, rfl⟩) (rfl) dX6_turned_91
  · intro k hk30 ih30
    refine z_iload C dX6_turned_30 (show zlk _ 4 = some (.int (nI k)) from rfl) ?_
    refine z_bipush C (v := nI 30) dX6_turned_32 (by decide) ?_
    refine z_icmp_geF C 90 dX6_turned_34 (by decide) (by omega) (by omega) (by omega) ?_
    refine z_iload_n C dX6_turned_37 rfl (show zlk _ 2 = some (.int (nI 0)) from rfl) ?_
    refine z_if_neN C 50 dX6_turned_38 (by decide) (by decide) (fun h => absurd h (by decide)) (fun _ => ?_)
    refine z_iload_n C dX6_turned_41 rfl (show zlk _ 1 = some (.int set) from rfl) ?_
    refine z_iload C dX6_turned_42 (show zlk _ 4 = some (.int (nI k)) from rfl) ?_
    refine z_callSi C (As := [.int set, .int (nI k)]) (rest := []) (c_X6_isHole l θ _ set k (by omega)) gX6_turned_X6_isHole rfl 2 (by decide +kernel) (by decide) (by decide) rfl rfl (Nat.le_of_ble_eq_true rfl) dX6_turned_44 ?_
    rintro _ _ ⟨rfl, rfl⟩
    refine z_goto C 66 dX6_turned_47 (by decide) ?_
    refine z_istore C [(5, .int (bI (m_hole set k))), (0, .ref (ad 0)), (1, .int set), (2, .int (nI 0)), (3, .int (m_tu0 set k)), (4, .int (nI k))] dX6_turned_66 (by decide) rfl ?_
    refine z_iload_n C dX6_turned_68 rfl (show zlk _ 3 = some (.int (m_tu0 set k)) from rfl) ?_
    refine z_iload C dX6_turned_69 (show zlk _ 5 = some (.int (bI (m_hole set k))) from rfl) ?_
    refine z_if_eqB C 81 dX6_turned_71 (by decide) (fun h71t_1 => ?_) (fun h71n_1 => ?_)
    · refine z_iconst C (v := nI 0) dX6_turned_81 (by decide) ?_
      refine z_ior C dX6_turned_82 ?_
      refine z_istore_n C [(3, .int ((m_tu0 set k) ||| (nI 0))), (5, .int (bI (m_hole set k))), (0, .ref (ad 0)), (1, .int set), (2, .int (nI 0)), (4, .int (nI k))] dX6_turned_83 rfl (by decide) rfl ?_
      refine z_iincN C [(4, .int (nI (k + 1))), (3, .int ((m_tu0 set k) ||| (nI 0))), (5, .int (bI (m_hole set k))), (0, .ref (ad 0)), (1, .int set), (2, .int (nI 0))] dX6_turned_84 rfl (by decide) rfl ?_
      refine z_goto C 30 dX6_turned_87 (by decide) ?_
      exact z_to (ih30) (rfl) (by simp [zlk, m_tu0, h71t_1])
    · refine z_iconst C (v := nI 1) dX6_turned_74 (by decide) ?_
      refine z_iload C dX6_turned_75 (show zlk _ 4 = some (.int (nI k)) from rfl) ?_
      refine z_ishl C dX6_turned_77 ?_
      refine z_goto C 82 dX6_turned_78 (by decide) ?_
      refine z_ior C dX6_turned_82 ?_
      refine z_istore_n C [(3, .int ((m_tu0 set k) ||| ((nI 1) <<< ((nI k) &&& 31)))), (5, .int (bI (m_hole set k))), (0, .ref (ad 0)), (1, .int set), (2, .int (nI 0)), (4, .int (nI k))] dX6_turned_83 rfl (by decide) rfl ?_
      refine z_iincN C [(4, .int (nI (k + 1))), (3, .int ((m_tu0 set k) ||| ((nI 1) <<< ((nI k) &&& 31)))), (5, .int (bI (m_hole set k))), (0, .ref (ad 0)), (1, .int set), (2, .int (nI 0))] dX6_turned_84 rfl (by decide) rfl ?_
      refine z_goto C 30 dX6_turned_87 (by decide) ?_
      exact z_to (ih30) (rfl) (by simp [zlk, m_tu0, h71n_1])

set_option maxHeartbeats 4000000 in
set_option maxRecDepth 100000 in
theorem c_X6_turned_31 (l : Launch) (θ : zH) (ad : Nat → Nat) (n : Nat → Nat) (g : Int32) (r : Nat → Nat → Int32) (set : Int32) (hs : okN set 1073741824 = true) : cI l yX6_turned wsX6_turned 2 θ [.ref (ad 0), .int set, .int (nI 1)] (MW θ ad n g r) (fun r0 Y => r0 = m_tu1 set 30 ∧ Y = MW θ ad n g r) := by
  refine z_cI (by decide) rfl rfl (Nat.le_of_ble_eq_true rfl) (lv := [(0, .ref (ad 0)), (1, .int set), (2, .int (nI 1))]) rfl (fun κ C E => ?_)
  refine z_iload_n C dX6_turned_0 rfl (show zlk _ 1 = some (.int set) from rfl) ?_
  refine z_i2l C dX6_turned_1 ?_
  refine z_lconst C (v := 0) dX6_turned_2 (by decide) ?_
  refine z_ldc2 C (v := 1073741823) (by decide +kernel) dX6_turned_3 ?_
  refine z_callSi C (As := [.long (Int32.toInt64 set), .long 0, .long (1073741823)]) (rest := []) (c_X6_in l θ _ (Int32.toInt64 set) 0 (1073741823)) gX6_turned_X6_in rfl 3 (by decide +kernel) (by decide) (by decide) rfl rfl (Nat.le_of_ble_eq_true rfl) dX6_turned_6 ?_
  rintro _ _ ⟨rfl, rfl⟩
  refine z_top (v' := .int (bI (okN set 1073741824))) (by rw [m_in_lit (N := 1073741824) (by decide)]) ?_
  refine z_if_eqB C 22 dX6_turned_9 (by decide) (fun h => absurd h (by rw [hs]; decide)) (fun _ => ?_)
  refine z_iload_n C dX6_turned_12 rfl (show zlk _ 2 = some (.int (nI 1)) from rfl) ?_
  refine z_i2l C dX6_turned_13 ?_
  refine z_lconst C (v := 0) dX6_turned_14 (by decide) ?_
  refine z_lconst C (v := 1) dX6_turned_15 (by decide) ?_
  refine z_callSi C (As := [.long (Int32.toInt64 (nI 1)), .long 0, .long 1]) (rest := []) (c_X6_in l θ _ (Int32.toInt64 (nI 1)) 0 1) gX6_turned_X6_in rfl 3 (by decide +kernel) (by decide) (by decide) rfl rfl (Nat.le_of_ble_eq_true rfl) dX6_turned_16 ?_
  rintro _ _ ⟨rfl, rfl⟩
  refine z_top (v' := .int (bI (okN (nI 1) 2))) (by rw [m_in_lit (N := 2) (by decide)]) ?_
  refine z_if_neB C 25 dX6_turned_19 (by decide) (fun _ => ?_) (fun h => absurd h (by rw [okN_lt (by decide) (by decide)]; decide))
  refine z_iconst C (v := nI 0) dX6_turned_25 (by decide) ?_
  refine z_istore_n C [(3, .int (nI 0)), (0, .ref (ad 0)), (1, .int set), (2, .int (nI 1))] dX6_turned_26 rfl (by decide) rfl ?_
  refine z_iconst C (v := nI 0) dX6_turned_27 (by decide) ?_
  refine z_istore C [(4, .int (nI 0)), (3, .int (nI 0)), (0, .ref (ad 0)), (1, .int set), (2, .int (nI 1))] dX6_turned_28 (by decide) rfl ?_
  refine z_lv (lv' := [(0, .ref (ad 0)), (1, .int set), (2, .int (nI 1)), (3, .int (m_tu1 set 0)), (4, .int (nI 0))]) rfl ?_
  refine z_up (fun k => Z κ (MW θ ad n g r) 30 [(0, .ref (ad 0)), (1, .int set), (2, .int (nI 1)), (3, .int (m_tu1 set k)), (4, .int (nI k))] []) (30) ?_ ?_ 0 (by omega)
  · refine z_iload C dX6_turned_30 (show zlk _ 4 = some (.int (nI 30)) from rfl) ?_
    refine z_bipush C (v := nI 30) dX6_turned_32 (by decide) ?_
    refine z_icmp_geT C 90 dX6_turned_34 (by decide) (by omega) (by omega) (by omega) ?_
    refine z_iload_n C dX6_turned_90 rfl (show zlk _ 3 = some (.int (m_tu1 set 30)) from rfl) ?_
    exact E _ _ _ _ (⟨rfl, rfl⟩) (rfl) dX6_turned_91
  · intro k hk30 ih30
    refine z_iload C dX6_turned_30 (show zlk _ 4 = some (.int (nI k)) from rfl) ?_
    refine z_bipush C (v := nI 30) dX6_turned_32 (by decide) ?_
    refine z_icmp_geF C 90 dX6_turned_34 (by decide) (by omega) (by omega) (by omega) ?_
    refine z_iload_n C dX6_turned_37 rfl (show zlk _ 2 = some (.int (nI 1)) from rfl) ?_
    refine z_if_neN C 50 dX6_turned_38 (by decide) (by decide) (fun _ => ?_) (fun h => absurd h (by decide))
    refine z_iload_n C dX6_turned_50 rfl (show zlk _ 1 = some (.int set) from rfl) ?_
    refine z_iload C dX6_turned_51 (show zlk _ 4 = some (.int (nI k)) from rfl) ?_
    refine z_iconst C (v := nI 5) dX6_turned_53 (by decide) ?_
    refine z_iaddN C dX6_turned_54 ?_
    refine z_iconst C (v := nI 2) dX6_turned_55 (by decide) ?_
    refine z_iload C dX6_turned_56 (show zlk _ 4 = some (.int (nI k)) from rfl) ?_
    refine z_bipush C (v := nI 6) dX6_turned_58 (by decide) ?_
    refine z_iremN C dX6_turned_60 (by omega) (by omega) (by omega) ?_
    refine z_imulN C dX6_turned_61 ?_
    refine z_isub C dX6_turned_62 ?_
    refine z_callSi C (As := [.int set, .int ((nI (k + 5)) - (nI (2 * (k % 6))))]) (rest := []) (c_X6_has l θ _ set ((nI (k + 5)) - (nI (2 * (k % 6))))) gX6_turned_X6_has rfl 2 (by decide +kernel) (by decide) (by decide) rfl rfl (Nat.le_of_ble_eq_true rfl) dX6_turned_63 ?_
    rintro _ _ ⟨rfl, rfl⟩
    refine z_istore C [(5, .int (bI (m_has set ((nI (k + 5)) - (nI (2 * (k % 6))))))), (0, .ref (ad 0)), (1, .int set), (2, .int (nI 1)), (3, .int (m_tu1 set k)), (4, .int (nI k))] dX6_turned_66 (by decide) rfl ?_
    refine z_iload_n C dX6_turned_68 rfl (show zlk _ 3 = some (.int (m_tu1 set k)) from rfl) ?_
    refine z_iload C dX6_turned_69 (show zlk _ 5 = some (.int (bI (m_has set ((nI (k + 5)) - (nI (2 * (k % 6))))))) from rfl) ?_
    refine z_if_eqB C 81 dX6_turned_71 (by decide) (fun h71t_1 => ?_) (fun h71n_1 => ?_)
    · refine z_iconst C (v := nI 0) dX6_turned_81 (by decide) ?_
      refine z_ior C dX6_turned_82 ?_
      refine z_istore_n C [(3, .int ((m_tu1 set k) ||| (nI 0))), (5, .int (bI (m_has set ((nI (k + 5)) - (nI (2 * (k % 6))))))), (0, .ref (ad 0)), (1, .int set), (2, .int (nI 1)), (4, .int (nI k))] dX6_turned_83 rfl (by decide) rfl ?_
      refine z_iincN C [(4, .int (nI (k + 1))), (3, .int ((m_tu1 set k) ||| (nI 0))), (5, .int (bI (m_has set ((nI (k + 5)) - (nI (2 * (k % 6))))))), (0, .ref (ad 0)), (1, .int set), (2, .int (nI 1))] dX6_turned_84 rfl (by decide) rfl ?_
      refine z_goto C 30 dX6_turned_87 (by decide) ?_
      exact z_to (ih30) (rfl) (by simp [zlk, m_tu1, h71t_1])
    · refine z_iconst C (v := nI 1) dX6_turned_74 (by decide) ?_
      refine z_iload C dX6_turned_75 (show zlk _ 4 = some (.int (nI k)) from rfl) ?_
      refine z_ishl C dX6_turned_77 ?_
      refine z_goto C 82 dX6_turned_78 (by decide) ?_
      refine z_ior C dX6_turned_82 ?_
      refine z_istore_n C [(3, .int ((m_tu1 set k) ||| ((nI 1) <<< ((nI k) &&& 31)))), (5, .int (bI (m_has set ((nI (k + 5)) - (nI (2 * (k % 6))))))), (0, .ref (ad 0)), (1, .int set), (2, .int (nI 1)), (4, .int (nI k))] dX6_turned_83 rfl (by decide) rfl ?_
      refine z_iincN C [(4, .int (nI (k + 1))), (3, .int ((m_tu1 set k) ||| ((nI 1) <<< ((nI k) &&& 31)))), (5, .int (bI (m_has set ((nI (k + 5)) - (nI (2 * (k % 6))))))), (0, .ref (ad 0)), (1, .int set), (2, .int (nI 1))] dX6_turned_84 rfl (by decide) rfl ?_
      refine z_goto C 30 dX6_turned_87 (by decide) ?_
      exact z_to (ih30) (rfl) (by simp [zlk, m_tu1, h71n_1])

theorem nI_nm1 {j : Nat} (h : j < 2 ^ 31) : ¬ nI j = (-1) := fun e => by
  have h1 := congrArg Int32.toInt e
  rw [nI_toInt h] at h1
  have h2 : (Int32.toInt (-1)) = -1 := by decide
  omega
def m_el (n : Nat → Nat) (r : Nat → Nat → Int32) (set : Int32) : Nat → Int32 × Int32
  | 0 => ((-1), nI 0)
  | q + 1 => if m_vf n r set (nI q) (n 5) ≤ (m_el n r set q).2 then m_el n r set q else (nI q, m_vf n r set (nI q) (n 5))
set_option maxHeartbeats 4000000 in
set_option maxRecDepth 100000 in
theorem c_X6_votes_1 (l : Launch) (θ : zH) (ad : Nat → Nat) (n : Nat → Nat) (g : Int32) (r : Nat → Nat → Int32) (set s : Int32) (hS : n 1 ≤ 6) (h1 : ¬ s = (-1)) (hj : okN s (n 1) = false) : cI l yX6_votes wsX6_votes 3 θ [.ref (ad 0), .int set, .int s] (MW θ ad n g r) (fun r0 Y => r0 = (-1000000001) ∧ Y = MW θ ad n g r) := by
  refine z_cI (by decide) rfl rfl (Nat.le_of_ble_eq_true rfl) (lv := [(0, .ref (ad 0)), (1, .int set), (2, .int s)]) rfl (fun κ C E => ?_)
  refine z_iload_n C dX6_votes_0 rfl (show zlk _ 2 = some (.int s) from rfl) ?_
  refine z_iconst C (v := (-1)) dX6_votes_1 (by decide) ?_
  refine z_icmp_eq C 16 dX6_votes_2 (by decide) (fun h2n_1 => absurd h2n_1 (h1)) (fun h2n_1 => ?_)
  refine z_aload_n C dX6_votes_5 rfl (show zlk _ 0 = some (.ref (ad 0)) from rfl) ?_
  refine z_iload_n C dX6_votes_6 rfl (show zlk _ 2 = some (.int s) from rfl) ?_
  refine z_callVi C (As := [.int s]) (rest := []) (c_X6_isSitter l θ ad n g r s (by omega)) gX6_votes_X6_isSitter rfl 1 (by decide +kernel) (by decide) (by decide) 0 rfl rfl rfl rfl rfl (Nat.le_of_ble_eq_true rfl) dX6_votes_7 ?_
  rintro _ _ ⟨rfl, rfl⟩
  refine z_if_neB C 16 dX6_votes_10 (by decide) (fun h => absurd h (by rw [hj]; decide)) (fun _ => ?_)
  refine z_ldc C (v := (-1000000001)) (by decide +kernel) dX6_votes_13 ?_
  exact E _ _ _ _ (⟨rfl, rfl⟩) (rfl) dX6_votes_15

set_option maxHeartbeats 4000000 in
set_option maxRecDepth 100000 in
theorem c_X6_votes_2 (l : Launch) (θ : zH) (ad : Nat → Nat) (n : Nat → Nat) (g : Int32) (r : Nat → Nat → Int32) (set s : Int32) (hS : n 1 ≤ 6) (h1 : ¬ s = (-1)) (hj : okN s (n 1) = true) (hs : okN set 1073741824 = false) : cI l yX6_votes wsX6_votes 3 θ [.ref (ad 0), .int set, .int s] (MW θ ad n g r) (fun r0 Y => r0 = (-1000000002) ∧ Y = MW θ ad n g r) := by
  refine z_cI (by decide) rfl rfl (Nat.le_of_ble_eq_true rfl) (lv := [(0, .ref (ad 0)), (1, .int set), (2, .int s)]) rfl (fun κ C E => ?_)
  refine z_iload_n C dX6_votes_0 rfl (show zlk _ 2 = some (.int s) from rfl) ?_
  refine z_iconst C (v := (-1)) dX6_votes_1 (by decide) ?_
  refine z_icmp_eq C 16 dX6_votes_2 (by decide) (fun h2n_1 => absurd h2n_1 (h1)) (fun h2n_1 => ?_)
  refine z_aload_n C dX6_votes_5 rfl (show zlk _ 0 = some (.ref (ad 0)) from rfl) ?_
  refine z_iload_n C dX6_votes_6 rfl (show zlk _ 2 = some (.int s) from rfl) ?_
  refine z_callVi C (As := [.int s]) (rest := []) (c_X6_isSitter l θ ad n g r s (by omega)) gX6_votes_X6_isSitter rfl 1 (by decide +kernel) (by decide) (by decide) 0 rfl rfl rfl rfl rfl (Nat.le_of_ble_eq_true rfl) dX6_votes_7 ?_
  rintro _ _ ⟨rfl, rfl⟩
  refine z_if_neB C 16 dX6_votes_10 (by decide) (fun _ => ?_) (fun h => absurd h (by rw [hj]; decide))
  refine z_iload_n C dX6_votes_16 rfl (show zlk _ 1 = some (.int set) from rfl) ?_
  refine z_i2l C dX6_votes_17 ?_
  refine z_lconst C (v := 0) dX6_votes_18 (by decide) ?_
  refine z_ldc2 C (v := 1073741823) (by decide +kernel) dX6_votes_19 ?_
  refine z_callSi C (As := [.long (Int32.toInt64 set), .long 0, .long (1073741823)]) (rest := []) (c_X6_in l θ _ (Int32.toInt64 set) 0 (1073741823)) gX6_votes_X6_in rfl 3 (by decide +kernel) (by decide) (by decide) rfl rfl (Nat.le_of_ble_eq_true rfl) dX6_votes_22 ?_
  rintro _ _ ⟨rfl, rfl⟩
  refine z_top (v' := .int (bI (okN set 1073741824))) (by rw [m_in_lit (N := 1073741824) (by decide)]) ?_
  refine z_if_neB C 31 dX6_votes_25 (by decide) (fun h => absurd h (by rw [hs]; decide)) (fun _ => ?_)
  refine z_ldc C (v := (-1000000002)) (by decide +kernel) dX6_votes_28 ?_
  exact E _ _ _ _ (⟨rfl, rfl⟩) (rfl) dX6_votes_30

set_option maxHeartbeats 4000000 in
set_option maxRecDepth 100000 in
theorem c_X6_votes_3 (l : Launch) (θ : zH) (ad : Nat → Nat) (n : Nat → Nat) (g : Int32) (r : Nat → Nat → Int32) (set : Int32) (hs : okN set 1073741824 = false) : cI l yX6_votes wsX6_votes 3 θ [.ref (ad 0), .int set, .int (-1)] (MW θ ad n g r) (fun r0 Y => r0 = (-1000000002) ∧ Y = MW θ ad n g r) := by
  refine z_cI (by decide) rfl rfl (Nat.le_of_ble_eq_true rfl) (lv := [(0, .ref (ad 0)), (1, .int set), (2, .int (-1))]) rfl (fun κ C E => ?_)
  refine z_iload_n C dX6_votes_0 rfl (show zlk _ 2 = some (.int (-1)) from rfl) ?_
  refine z_iconst C (v := (-1)) dX6_votes_1 (by decide) ?_
  refine z_icmp_eq C 16 dX6_votes_2 (by decide) (fun h2t_1 => ?_) (fun h2t_1 => absurd h2t_1 (fun z => z rfl))
  refine z_iload_n C dX6_votes_16 rfl (show zlk _ 1 = some (.int set) from rfl) ?_
  refine z_i2l C dX6_votes_17 ?_
  refine z_lconst C (v := 0) dX6_votes_18 (by decide) ?_
  refine z_ldc2 C (v := 1073741823) (by decide +kernel) dX6_votes_19 ?_
  refine z_callSi C (As := [.long (Int32.toInt64 set), .long 0, .long (1073741823)]) (rest := []) (c_X6_in l θ _ (Int32.toInt64 set) 0 (1073741823)) gX6_votes_X6_in rfl 3 (by decide +kernel) (by decide) (by decide) rfl rfl (Nat.le_of_ble_eq_true rfl) dX6_votes_22 ?_
  rintro _ _ ⟨rfl, rfl⟩
  refine z_top (v' := .int (bI (okN set 1073741824))) (by rw [m_in_lit (N := 1073741824) (by decide)]) ?_
  refine z_if_neB C 31 dX6_votes_25 (by decide) (fun h => absurd h (by rw [hs]; decide)) (fun _ => ?_)
  refine z_ldc C (v := (-1000000002)) (by decide +kernel) dX6_votes_28 ?_
  exact E _ _ _ _ (⟨rfl, rfl⟩) (rfl) dX6_votes_30

set_option maxHeartbeats 4000000 in
set_option maxRecDepth 100000 in
theorem c_X6_votes_4 (l : Launch) (θ : zH) (ad : Nat → Nat) (n : Nat → Nat) (g : Int32) (r : Nat → Nat → Int32) (set : Int32) (j : Nat) (hS : n 1 ≤ 6) (hc : n 5 ≤ 6) (hj : j < n 1) (hs : okN set 1073741824 = true) : cI l yX6_votes wsX6_votes 3 θ [.ref (ad 0), .int set, .int (nI j)] (MW θ ad n g r) (fun r0 Y => r0 = m_vf n r set (nI j) (n 5) ∧ Y = MW θ ad n g r) := by
  refine z_cI (by decide) rfl rfl (Nat.le_of_ble_eq_true rfl) (lv := [(0, .ref (ad 0)), (1, .int set), (2, .int (nI j))]) rfl (fun κ C E => ?_)
  refine z_iload_n C dX6_votes_0 rfl (show zlk _ 2 = some (.int (nI j)) from rfl) ?_
  refine z_iconst C (v := (-1)) dX6_votes_1 (by decide) ?_
  refine z_icmp_eq C 16 dX6_votes_2 (by decide) (fun h2n_1 => absurd h2n_1 (nI_nm1 (by omega))) (fun h2n_1 => ?_)
  refine z_aload_n C dX6_votes_5 rfl (show zlk _ 0 = some (.ref (ad 0)) from rfl) ?_
  refine z_iload_n C dX6_votes_6 rfl (show zlk _ 2 = some (.int (nI j)) from rfl) ?_
  refine z_callVi C (As := [.int (nI j)]) (rest := []) (c_X6_isSitter l θ ad n g r (nI j) (by omega)) gX6_votes_X6_isSitter rfl 1 (by decide +kernel) (by decide) (by decide) 0 rfl rfl rfl rfl rfl (Nat.le_of_ble_eq_true rfl) dX6_votes_7 ?_
  rintro _ _ ⟨rfl, rfl⟩
  refine z_if_neB C 16 dX6_votes_10 (by decide) (fun _ => ?_) (fun h => absurd h (by rw [okN_lt hj (by omega)]; decide))
  refine z_iload_n C dX6_votes_16 rfl (show zlk _ 1 = some (.int set) from rfl) ?_
  refine z_i2l C dX6_votes_17 ?_
  refine z_lconst C (v := 0) dX6_votes_18 (by decide) ?_
  refine z_ldc2 C (v := 1073741823) (by decide +kernel) dX6_votes_19 ?_
  refine z_callSi C (As := [.long (Int32.toInt64 set), .long 0, .long (1073741823)]) (rest := []) (c_X6_in l θ _ (Int32.toInt64 set) 0 (1073741823)) gX6_votes_X6_in rfl 3 (by decide +kernel) (by decide) (by decide) rfl rfl (Nat.le_of_ble_eq_true rfl) dX6_votes_22 ?_
  rintro _ _ ⟨rfl, rfl⟩
  refine z_top (v' := .int (bI (okN set 1073741824))) (by rw [m_in_lit (N := 1073741824) (by decide)]) ?_
  refine z_if_neB C 31 dX6_votes_25 (by decide) (fun _ => ?_) (fun h => absurd h (by rw [hs]; decide))
  refine z_iload_n C dX6_votes_31 rfl (show zlk _ 2 = some (.int (nI j)) from rfl) ?_
  refine z_iconst C (v := (-1)) dX6_votes_32 (by decide) ?_
  refine z_icmp_eq C 43 dX6_votes_33 (by decide) (fun h33n_2 => absurd h33n_2 (nI_nm1 (by omega))) (fun h33n_2 => ?_)
  refine z_aload_n C dX6_votes_36 rfl (show zlk _ 0 = some (.ref (ad 0)) from rfl) ?_
  refine z_iload_n C dX6_votes_37 rfl (show zlk _ 1 = some (.int set) from rfl) ?_
  refine z_iload_n C dX6_votes_38 rfl (show zlk _ 2 = some (.int (nI j)) from rfl) ?_
  refine z_callVi C (As := [.int set, .int (nI j)]) (rest := []) (c_X6_votesFor l θ ad n g r set (nI j) hS hc) gX6_votes_X6_votesFor rfl 2 (by decide +kernel) (by decide) (by decide) 0 rfl rfl rfl rfl rfl (Nat.le_of_ble_eq_true rfl) dX6_votes_39 ?_
  rintro _ _ ⟨rfl, rfl⟩
  exact E _ _ _ _ (⟨rfl, rfl⟩) (rfl) dX6_votes_42

set_option maxHeartbeats 4000000 in
set_option maxRecDepth 100000 in
theorem c_X6_votes_5 (l : Launch) (θ : zH) (ad : Nat → Nat) (n : Nat → Nat) (g : Int32) (r : Nat → Nat → Int32) (set : Int32) (hS : n 1 ≤ 6) (hc : n 5 ≤ 6) (hs : okN set 1073741824 = true) : cI l yX6_votes wsX6_votes 3 θ [.ref (ad 0), .int set, .int (-1)] (MW θ ad n g r) (fun r0 Y => r0 = (m_el n r set (n 1)).1 ∧ Y = MW θ ad n g r) := by
  refine z_cI (by decide) rfl rfl (Nat.le_of_ble_eq_true rfl) (lv := [(0, .ref (ad 0)), (1, .int set), (2, .int (-1))]) rfl (fun κ C E => ?_)
  have hin : ∀ w ∈ wsX60, w ∈ wsX6_votes := by decide +kernel
  refine z_iload_n C dX6_votes_0 rfl (show zlk _ 2 = some (.int (-1)) from rfl) ?_
  refine z_iconst C (v := (-1)) dX6_votes_1 (by decide) ?_
  refine z_icmp_eq C 16 dX6_votes_2 (by decide) (fun h2t_1 => ?_) (fun h2t_1 => absurd h2t_1 (fun z => z rfl))
  refine z_iload_n C dX6_votes_16 rfl (show zlk _ 1 = some (.int set) from rfl) ?_
  refine z_i2l C dX6_votes_17 ?_
  refine z_lconst C (v := 0) dX6_votes_18 (by decide) ?_
  refine z_ldc2 C (v := 1073741823) (by decide +kernel) dX6_votes_19 ?_
  refine z_callSi C (As := [.long (Int32.toInt64 set), .long 0, .long (1073741823)]) (rest := []) (c_X6_in l θ _ (Int32.toInt64 set) 0 (1073741823)) gX6_votes_X6_in rfl 3 (by decide +kernel) (by decide) (by decide) rfl rfl (Nat.le_of_ble_eq_true rfl) dX6_votes_22 ?_
  rintro _ _ ⟨rfl, rfl⟩
  refine z_top (v' := .int (bI (okN set 1073741824))) (by rw [m_in_lit (N := 1073741824) (by decide)]) ?_
  refine z_if_neB C 31 dX6_votes_25 (by decide) (fun _ => ?_) (fun h => absurd h (by rw [hs]; decide))
  refine z_iload_n C dX6_votes_31 rfl (show zlk _ 2 = some (.int (-1)) from rfl) ?_
  refine z_iconst C (v := (-1)) dX6_votes_32 (by decide) ?_
  refine z_icmp_eq C 43 dX6_votes_33 (by decide) (fun h33t_2 => ?_) (fun h33t_2 => absurd h33t_2 (fun z => z rfl))
  refine z_iconst C (v := (-1)) dX6_votes_43 (by decide) ?_
  refine z_istore_n C [(3, .int (-1)), (0, .ref (ad 0)), (1, .int set), (2, .int (-1))] dX6_votes_44 rfl (by decide) rfl ?_
  refine z_iconst C (v := nI 0) dX6_votes_45 (by decide) ?_
  refine z_istore C [(4, .int (nI 0)), (3, .int (-1)), (0, .ref (ad 0)), (1, .int set), (2, .int (-1))] dX6_votes_46 (by decide) rfl ?_
  refine z_iconst C (v := nI 0) dX6_votes_48 (by decide) ?_
  refine z_istore C [(5, .int (nI 0)), (4, .int (nI 0)), (3, .int (-1)), (0, .ref (ad 0)), (1, .int set), (2, .int (-1))] dX6_votes_49 (by decide) rfl ?_
  refine z_lv (lv' := [(0, .ref (ad 0)), (1, .int set), (3, .int ((m_el n r set 0).1)), (4, .int ((m_el n r set 0).2)), (5, .int (nI 0))]) rfl ?_
  refine z_up (fun q => Z κ (MW θ ad n g r) 51 [(0, .ref (ad 0)), (1, .int set), (3, .int ((m_el n r set q).1)), (4, .int ((m_el n r set q).2)), (5, .int (nI q))] []) (n 1) ?_ ?_ 0 (by omega)
  · refine z_iload C dX6_votes_51 (show zlk _ 5 = some (.int (nI (n 1))) from rfl) ?_
    refine z_aload_n C dX6_votes_53 rfl (show zlk _ 0 = some (.ref (ad 0)) from rfl) ?_
    refine z_mg C hin 1 (by decide) (by decide +kernel) (v := .int (nI (n 1))) mf_1 dX6_votes_54 ?_
    refine z_icmp_geT C 105 dX6_votes_57 (by decide) (by omega) (by omega) (by omega) ?_
    refine z_iload_n C dX6_votes_105 rfl (show zlk _ 3 = some (.int ((m_el n r set (n 1)).1)) from rfl) ?_
    exact E _ _ _ _ (⟨rfl, rfl⟩) (rfl) dX6_votes_106
  · intro q hk51 ih51
    refine z_iload C dX6_votes_51 (show zlk _ 5 = some (.int (nI q)) from rfl) ?_
    refine z_aload_n C dX6_votes_53 rfl (show zlk _ 0 = some (.ref (ad 0)) from rfl) ?_
    refine z_mg C hin 1 (by decide) (by decide +kernel) (v := .int (nI (n 1))) mf_1 dX6_votes_54 ?_
    refine z_icmp_geF C 105 dX6_votes_57 (by decide) (by omega) (by omega) (by omega) ?_
    refine z_aload_n C dX6_votes_60 rfl (show zlk _ 0 = some (.ref (ad 0)) from rfl) ?_
    refine z_iload_n C dX6_votes_61 rfl (show zlk _ 1 = some (.int set) from rfl) ?_
    refine z_iload C dX6_votes_62 (show zlk _ 5 = some (.int (nI q)) from rfl) ?_
    refine z_callVi C (As := [.int set, .int (nI q)]) (rest := []) (c_X6_votesFor l θ ad n g r set (nI q) hS hc) gX6_votes_X6_votesFor rfl 2 (by decide +kernel) (by decide) (by decide) 0 rfl rfl rfl rfl rfl (Nat.le_of_ble_eq_true rfl) dX6_votes_64 ?_
    rintro _ _ ⟨rfl, rfl⟩
    refine z_istore C [(6, .int (m_vf n r set (nI q) (n 5))), (0, .ref (ad 0)), (1, .int set), (3, .int ((m_el n r set q).1)), (4, .int ((m_el n r set q).2)), (5, .int (nI q))] dX6_votes_67 (by decide) rfl ?_
    refine z_iload C dX6_votes_69 (show zlk _ 6 = some (.int (m_vf n r set (nI q) (n 5))) from rfl) ?_
    refine z_iload C dX6_votes_71 (show zlk _ 4 = some (.int ((m_el n r set q).2)) from rfl) ?_
    refine z_icmp_le C 81 dX6_votes_73 (by decide) (fun h73t_3 => ?_) (fun h73n_3 => ?_)
    · refine z_iload_n C dX6_votes_81 rfl (show zlk _ 3 = some (.int ((m_el n r set q).1)) from rfl) ?_
      refine z_istore_n C [(3, .int ((m_el n r set q).1)), (6, .int (m_vf n r set (nI q) (n 5))), (0, .ref (ad 0)), (1, .int set), (4, .int ((m_el n r set q).2)), (5, .int (nI q))] dX6_votes_82 rfl (by decide) rfl ?_
      refine z_iload C dX6_votes_83 (show zlk _ 6 = some (.int (m_vf n r set (nI q) (n 5))) from rfl) ?_
      refine z_iload C dX6_votes_85 (show zlk _ 4 = some (.int ((m_el n r set q).2)) from rfl) ?_
      refine z_icmp_le C 95 dX6_votes_87 (by decide) (fun h87t_4 => ?_) (fun h87t_4 => absurd h87t_4 (fun z => z h73t_3))
      refine z_iload C dX6_votes_95 (show zlk _ 4 = some (.int ((m_el n r set q).2)) from rfl) ?_
      refine z_istore C [(4, .int ((m_el n r set q).2)), (3, .int ((m_el n r set q).1)), (6, .int (m_vf n r set (nI q) (n 5))), (0, .ref (ad 0)), (1, .int set), (5, .int (nI q))] dX6_votes_97 (by decide) rfl ?_
      refine z_iincN C [(5, .int (nI (q + 1))), (4, .int ((m_el n r set q).2)), (3, .int ((m_el n r set q).1)), (6, .int (m_vf n r set (nI q) (n 5))), (0, .ref (ad 0)), (1, .int set)] dX6_votes_99 rfl (by decide) rfl ?_
      refine z_goto C 51 dX6_votes_102 (by decide) ?_
      exact z_to (ih51) (rfl) (by simp [zlk, m_el, h2t_1, h33t_2, h73t_3, h87t_4])
    · refine z_iload C dX6_votes_76 (show zlk _ 5 = some (.int (nI q)) from rfl) ?_
      refine z_goto C 82 dX6_votes_78 (by decide) ?_
      refine z_istore_n C [(3, .int (nI q)), (6, .int (m_vf n r set (nI q) (n 5))), (0, .ref (ad 0)), (1, .int set), (4, .int ((m_el n r set q).2)), (5, .int (nI q))] dX6_votes_82 rfl (by decide) rfl ?_
      refine z_iload C dX6_votes_83 (show zlk _ 6 = some (.int (m_vf n r set (nI q) (n 5))) from rfl) ?_
      refine z_iload C dX6_votes_85 (show zlk _ 4 = some (.int ((m_el n r set q).2)) from rfl) ?_
      refine z_icmp_le C 95 dX6_votes_87 (by decide) (fun h87n_5 => absurd h87n_5 (h73n_3)) (fun h87n_5 => ?_)
      refine z_iload C dX6_votes_90 (show zlk _ 6 = some (.int (m_vf n r set (nI q) (n 5))) from rfl) ?_
      refine z_goto C 97 dX6_votes_92 (by decide) ?_
      refine z_istore C [(4, .int (m_vf n r set (nI q) (n 5))), (3, .int (nI q)), (6, .int (m_vf n r set (nI q) (n 5))), (0, .ref (ad 0)), (1, .int set), (5, .int (nI q))] dX6_votes_97 (by decide) rfl ?_
      refine z_iincN C [(5, .int (nI (q + 1))), (4, .int (m_vf n r set (nI q) (n 5))), (3, .int (nI q)), (6, .int (m_vf n r set (nI q) (n 5))), (0, .ref (ad 0)), (1, .int set)] dX6_votes_99 rfl (by decide) rfl ?_
      refine z_goto C 51 dX6_votes_102 (by decide) ?_
      exact z_to (ih51) (rfl) (by simp [zlk, m_el, h2t_1, h33t_2, h73n_3, h87n_5])

