section ZB
variable {κ : zX} {l0 : Launch} {cc : ByteArray} {n0 : Nat} {own : String} {Ts : List Cond} {kf : Nat} {θ : zH} {X : va_W} {pc : Nat} {lv : List (Nat × Value)} {st : List Value}
theorem z_zast (C : zC κ l0 cc n0 own Ts kf θ) {a n : Nat} {f : Nat → Int32} {i v : Int32} (q0 : Nat) (he : X[q0]? = some (a, .inl (θ.2.2.1, n, .inl f))) (j : Nat) (hi : i = nI j) (hj : j < n) (hn : n < 2 ^ 31) (Y : va_W) (hY : X.set q0 (a, .inl (θ.2.2.1, n, .inl (upd f j (vp_nar .boolean v)))) = Y) (hd : decode cc pc = .ok (.bastore, 1)) (kk : Z κ Y (pc + 1) lv st) : Z κ X pc lv (.int v :: .int i :: .ref a :: st) := by
  obtain ⟨p, l, e, R, s, m, args, below, meth, c, Q, A, θ', n⟩ := κ
  obtain ⟨rfl, rfl, rfl, hR, hx, hb, hml, hown, hts, hK, hN, hA⟩ := C
  subst hR
  intro H locs ls hP hD hS hl
  subst hi
  subst hY
  refine va_zast hx hb hK hP hD hS q0 1 he rfl (vp_in_nI hj hn) hd ?_
  rw [nI_clamp (Nat.lt_trans hj hn)]
  exact fun H locs hP hD hS => kk H locs ls hP hD hS hl
end ZB
theorem okN_lt {j N : Nat} (hj : j < N) (hN : N < 2 ^ 31) : okN (nI j) N = true := by rw [okN_nI (by omega)]; simpa using hj
theorem m_in_lit {x : Int32} {hi : Int64} {N : Nat} (h : hi.toInt + 1 = (N : Int)) : m_in (Int32.toInt64 x) 0 hi = okN x N := by
  unfold m_in okN
  rw [Int32.toInt_toInt64]
  have e : (Int64.toInt 0) = 0 := by decide
  rw [e]
  congr 1
  rw [Bool.eq_iff_iff]
  simp only [decide_eq_true_eq]
  omega
theorem okN_out {x : Int32} {N : Nat} (h : okN x (N + 1) = false) : x.toInt < 0 ∨ (N : Int) < x.toInt := by
  unfold okN at h
  simp only [Bool.and_eq_false_iff, decide_eq_false_iff_not] at h
  omega
theorem okN_ne {x : Int32} {N k : Nat} (h : okN x N = false) (hk : k < N) (hN : N < 2 ^ 31) : ¬ x = nI k := fun e => by rw [e, okN_lt hk hN] at h; cases h
set_option maxHeartbeats 4000000 in
set_option maxRecDepth 100000 in
theorem c_X6_feed_1 (l : Launch) (θ : zH) (ad : Nat → Nat) (n : Nat → Nat) (g : Int32) (r : Nat → Nat → Int32) (x : Int32) (hx : okN x 256 = false) : cI l yX6_feed wsX6_feed 1 θ [.ref (ad 0), .int x] (MW θ ad n g r) (fun r0 Y => r0 = (-1000000002) ∧ Y = MW θ ad n g r) := by
  refine z_cI (by decide) rfl rfl (Nat.le_of_ble_eq_true rfl) (lv := [(0, .ref (ad 0)), (1, .int x)]) rfl (fun κ C E => ?_)
  refine z_iload_n C dX6_feed_0 rfl (show zlk _ 1 = some (.int x) from rfl) ?_
  refine z_i2l C dX6_feed_1 ?_
  refine z_lconst C (v := 0) dX6_feed_2 (by decide) ?_
  refine z_ldc2 C (v := 255) (by decide +kernel) dX6_feed_3 ?_
  refine z_callSi C (As := [.long (Int32.toInt64 x), .long 0, .long (255)]) (rest := []) (c_X6_in l θ _ (Int32.toInt64 x) 0 (255)) gX6_feed_X6_in rfl 3 (by decide +kernel) (by decide) (by decide) rfl rfl (Nat.le_of_ble_eq_true rfl) dX6_feed_6 ?_
  rintro _ _ ⟨rfl, rfl⟩
  refine z_top (v' := .int (bI (okN x 256))) (by rw [m_in_lit (N := 256) (by decide)]) ?_
  refine z_if_neB C 15 dX6_feed_9 (by decide) (fun h => absurd h (by rw [hx]; decide)) (fun _ => ?_)
  refine z_ldc C (v := (-1000000002)) (by decide +kernel) dX6_feed_12 ?_
  exact E _ _ _ _ (⟨rfl, rfl⟩) (rfl) dX6_feed_14

set_option maxHeartbeats 4000000 in
set_option maxRecDepth 100000 in
theorem c_X6_feed_2 (l : Launch) (θ : zH) (ad : Nat → Nat) (n : Nat → Nat) (g : Int32) (r : Nat → Nat → Int32) (x : Int32) (hx : okN x 256 = true) (hL : n 10 = 240) : cI l yX6_feed wsX6_feed 1 θ [.ref (ad 0), .int x] (MW θ ad n g r) (fun r0 Y => r0 = (-1000000004) ∧ Y = MW θ ad n g r) := by
  refine z_cI (by decide) rfl rfl (Nat.le_of_ble_eq_true rfl) (lv := [(0, .ref (ad 0)), (1, .int x)]) rfl (fun κ C E => ?_)
  have hin : ∀ w ∈ wsX60, w ∈ wsX6_feed := by decide +kernel
  refine z_iload_n C dX6_feed_0 rfl (show zlk _ 1 = some (.int x) from rfl) ?_
  refine z_i2l C dX6_feed_1 ?_
  refine z_lconst C (v := 0) dX6_feed_2 (by decide) ?_
  refine z_ldc2 C (v := 255) (by decide +kernel) dX6_feed_3 ?_
  refine z_callSi C (As := [.long (Int32.toInt64 x), .long 0, .long (255)]) (rest := []) (c_X6_in l θ _ (Int32.toInt64 x) 0 (255)) gX6_feed_X6_in rfl 3 (by decide +kernel) (by decide) (by decide) rfl rfl (Nat.le_of_ble_eq_true rfl) dX6_feed_6 ?_
  rintro _ _ ⟨rfl, rfl⟩
  refine z_top (v' := .int (bI (okN x 256))) (by rw [m_in_lit (N := 256) (by decide)]) ?_
  refine z_if_neB C 15 dX6_feed_9 (by decide) (fun _ => ?_) (fun h => absurd h (by rw [hx]; decide))
  refine z_aload_n C dX6_feed_15 rfl (show zlk _ 0 = some (.ref (ad 0)) from rfl) ?_
  refine z_mg C hin 10 (by decide) (by decide +kernel) (v := .int (nI (n 10))) mf_10 dX6_feed_16 ?_
  refine z_sipush C (v := nI 240) dX6_feed_19 (by decide) ?_
  refine z_icmp_neF C 28 dX6_feed_22 (by decide) (by omega) (by omega) (hL) ?_
  refine z_ldc C (v := (-1000000004)) (by decide +kernel) dX6_feed_25 ?_
  exact E _ _ _ _ (⟨rfl, rfl⟩) (rfl) dX6_feed_27

set_option maxHeartbeats 4000000 in
set_option maxRecDepth 100000 in
theorem c_X6_feed_3 (l : Launch) (θ : zH) (ad : Nat → Nat) (n : Nat → Nat) (g : Int32) (r : Nat → Nat → Int32) (x : Int32) (hx : okN x 256 = true) (hL : n 10 < 240) : cI l yX6_feed wsX6_feed 1 θ [.ref (ad 0), .int x] (MW θ ad n g r) (fun r0 Y => r0 = nI (n 10 + 1) ∧ Y = MW θ ad (nv (n 0) (n 1) (n 3) (n 5) (n 8) (n 10 + 1) (n 12) (n 13) (n 14) (n 15) (n 16) (n 18) (n 20) (n 22) (n 27)) g (rv (r 2) (r 4) (r 6) (r 7) (upd (r 9) (n 10) x) (r 17) (r 19) (r 21) (r 23) (r 24) (r 25) (r 26) (r 28) (r 29) (r 30) (r 31) (r 32))) := by
  refine z_cI (by decide) rfl rfl (Nat.le_of_ble_eq_true rfl) (lv := [(0, .ref (ad 0)), (1, .int x)]) rfl (fun κ C E => ?_)
  have hin : ∀ w ∈ wsX60, w ∈ wsX6_feed := by decide +kernel
  refine z_iload_n C dX6_feed_0 rfl (show zlk _ 1 = some (.int x) from rfl) ?_
  refine z_i2l C dX6_feed_1 ?_
  refine z_lconst C (v := 0) dX6_feed_2 (by decide) ?_
  refine z_ldc2 C (v := 255) (by decide +kernel) dX6_feed_3 ?_
  refine z_callSi C (As := [.long (Int32.toInt64 x), .long 0, .long (255)]) (rest := []) (c_X6_in l θ _ (Int32.toInt64 x) 0 (255)) gX6_feed_X6_in rfl 3 (by decide +kernel) (by decide) (by decide) rfl rfl (Nat.le_of_ble_eq_true rfl) dX6_feed_6 ?_
  rintro _ _ ⟨rfl, rfl⟩
  refine z_top (v' := .int (bI (okN x 256))) (by rw [m_in_lit (N := 256) (by decide)]) ?_
  refine z_if_neB C 15 dX6_feed_9 (by decide) (fun _ => ?_) (fun h => absurd h (by rw [hx]; decide))
  refine z_aload_n C dX6_feed_15 rfl (show zlk _ 0 = some (.ref (ad 0)) from rfl) ?_
  refine z_mg C hin 10 (by decide) (by decide +kernel) (v := .int (nI (n 10))) mf_10 dX6_feed_16 ?_
  refine z_sipush C (v := nI 240) dX6_feed_19 (by decide) ?_
  refine z_icmp_neT C 28 dX6_feed_22 (by decide) (by omega) (by omega) (by omega) ?_
  refine z_aload_n C dX6_feed_28 rfl (show zlk _ 0 = some (.ref (ad 0)) from rfl) ?_
  refine z_mg C hin 9 (by decide) (by decide +kernel) (v := .ref (ad 9)) mf_9 dX6_feed_29 ?_
  refine z_aload_n C dX6_feed_32 rfl (show zlk _ 0 = some (.ref (ad 0)) from rfl) ?_
  refine z_mg C hin 10 (by decide) (by decide +kernel) (v := .int (nI (n 10))) mf_10 dX6_feed_33 ?_
  refine z_iload_n C dX6_feed_36 rfl (show zlk _ 1 = some (.int x) from rfl) ?_
  refine z_iast C (f := (r 9)) 5 mr_9 (n 10) rfl (by omega) (by decide) _ msn_9 dX6_feed_37 ?_
  refine z_aload_n C dX6_feed_38 rfl (show zlk _ 0 = some (.ref (ad 0)) from rfl) ?_
  refine z_dup C dX6_feed_39 rfl ?_
  refine z_mg C hin 10 (by decide) (by decide +kernel) (v := .int (nI (n 10))) mf_10 dX6_feed_40 ?_
  refine z_iconst C (v := nI 1) dX6_feed_43 (by decide) ?_
  refine z_iaddN C dX6_feed_44 ?_
  refine z_mp C hin 10 (by decide) (by decide +kernel) rfl rfl mpn_10 dX6_feed_45 ?_
  refine z_aload_n C dX6_feed_48 rfl (show zlk _ 0 = some (.ref (ad 0)) from rfl) ?_
  refine z_mg C hin 10 (by decide) (by decide +kernel) (v := .int (nI (n 10 + 1))) mfv_10 dX6_feed_49 ?_
  exact E _ _ _ _ (⟨rfl, (mw_eq rfl rfl rfl rfl rfl rfl rfl rfl rfl rfl rfl rfl rfl rfl rfl rfl rfl rfl rfl rfl rfl rfl rfl rfl rfl rfl rfl rfl rfl rfl rfl rfl)⟩) (rfl) dX6_feed_52

set_option maxHeartbeats 4000000 in
set_option maxRecDepth 100000 in
theorem c_X6_fault (l : Launch) (θ : zH) (ad : Nat → Nat) (n : Nat → Nat) (g : Int32) (r : Nat → Nat → Int32)  : cI l yX6_fault wsX6_fault 0 θ [.ref (ad 0)] (MW θ ad n g r) (fun r0 Y => r0 = g ∧ Y = MW θ ad n g r) := by
  refine z_cI (by decide) rfl rfl (Nat.le_of_ble_eq_true rfl) (lv := [(0, .ref (ad 0))]) rfl (fun κ C E => ?_)
  have hin : ∀ w ∈ wsX60, w ∈ wsX6_fault := by decide +kernel
  refine z_aload_n C dX6_fault_0 rfl (show zlk _ 0 = some (.ref (ad 0)) from rfl) ?_
  refine z_mg C hin 11 (by decide) (by decide +kernel) (v := .int g) mf_11 dX6_fault_1 ?_
  exact E _ _ _ _ (⟨rfl, rfl⟩) (rfl) dX6_fault_4

def m_shf (p : Nat → Int32) : Nat → Nat → Int32
  | 0 => p
  | k + 1 => upd (m_shf p k) k (m_shf p k (82 + k))
def m_cp (p nw : Nat → Int32) (b : Nat) : Nat → Nat → Int32
  | 0 => p
  | k + 1 => upd (m_cp p nw b k) (b + k) (nw k)
def m_u (u : Nat) : Nat := if u = 16 then 16 else u + 1
def m_pst (p nw : Nat → Int32) (u : Nat) : Nat → Int32 := if u = 16 then m_cp (m_shf p 1230) nw (82 * 15) 82 else m_cp p nw (82 * u) 82
set_option maxHeartbeats 4000000 in
set_option maxRecDepth 100000 in
theorem c_X6_remember_a (l : Launch) (θ : zH) (ad : Nat → Nat) (n : Nat → Nat) (g : Int32) (r : Nat → Nat → Int32)  (hu : n 22 = 16) : cV l yX6_remember wsX6_remember 0 θ [.ref (ad 0)] (MW θ ad n g r) (fun Y => Y = MW θ ad (nv (n 0) (n 1) (n 3) (n 5) (n 8) (n 10) (n 12) (n 13) (n 14) (n 15) (n 16) (n 18) (n 20) (m_u (n 22)) (n 27)) g (rv (r 2) (r 4) (r 6) (r 7) (r 9) (r 17) (r 19) (r 21) (m_pst (r 23) (r 7) (n 22)) (r 24) (r 25) (r 26) (r 28) (r 29) (r 30) (r 31) (r 32))) := by
  refine z_cV (by decide) rfl rfl (Nat.le_of_ble_eq_true rfl) (lv := [(0, .ref (ad 0))]) rfl (fun κ C E => ?_)
  have hin : ∀ w ∈ wsX60, w ∈ wsX6_remember := by decide +kernel
  refine z_aload_n C dX6_remember_0 rfl (show zlk _ 0 = some (.ref (ad 0)) from rfl) ?_
  refine z_mg C hin 22 (by decide) (by decide +kernel) (v := .int (nI (n 22))) mf_22 dX6_remember_1 ?_
  refine z_bipush C (v := nI 16) dX6_remember_4 (by decide) ?_
  refine z_icmp_neF C 50 dX6_remember_6 (by decide) (by omega) (by omega) (hu) ?_
  refine z_bipush C (v := nI 82) dX6_remember_9 (by decide) ?_
  refine z_istore_n C [(1, .int (nI 82)), (0, .ref (ad 0))] dX6_remember_11 rfl (by decide) rfl ?_
  refine z_lv (lv' := [(0, .ref (ad 0)), (1, .int (nI (82 + 0)))]) rfl ?_
  refine z_X (Y := MW θ ad n g (rv (r 2) (r 4) (r 6) (r 7) (r 9) (r 17) (r 19) (r 21) (m_shf (r 23) 0) (r 24) (r 25) (r 26) (r 28) (r 29) (r 30) (r 31) (r 32))) (mw_eq rfl rfl rfl rfl rfl rfl rfl rfl rfl rfl rfl rfl rfl rfl rfl rfl rfl rfl rfl rfl rfl rfl rfl rfl rfl rfl rfl rfl rfl rfl rfl rfl) ?_
  refine z_up (fun k => Z κ (MW θ ad n g (rv (r 2) (r 4) (r 6) (r 7) (r 9) (r 17) (r 19) (r 21) (m_shf (r 23) k) (r 24) (r 25) (r 26) (r 28) (r 29) (r 30) (r 31) (r 32))) 12 [(0, .ref (ad 0)), (1, .int (nI (82 + k)))] []) (1230) ?_ ?_ 0 (by omega)
  · refine z_iload_n C dX6_remember_12 rfl (show zlk _ 1 = some (.int (nI (82 + 1230))) from rfl) ?_
    refine z_sipush C (v := nI 1312) dX6_remember_13 (by decide) ?_
    refine z_icmp_geT C 40 dX6_remember_16 (by decide) (by omega) (by omega) (by omega) ?_
    refine z_aload_n C dX6_remember_40 rfl (show zlk _ 0 = some (.ref (ad 0)) from rfl) ?_
    refine z_dup C dX6_remember_41 rfl ?_
    refine z_mg C hin 22 (by decide) (by decide +kernel) (v := .int (nI (n 22))) mf_22 dX6_remember_42 ?_
    refine z_iconst C (v := nI 1) dX6_remember_45 (by decide) ?_
    refine z_isubN C dX6_remember_46 (by omega) ?_
    refine z_top (v' := .int (nI 15)) (congrArg (fun z => Value.int (nI z)) (by omega)) ?_
    refine z_mp C hin 22 (by decide) (by decide +kernel) rfl rfl mpn_22 dX6_remember_47 ?_
    refine z_iconst C (v := nI 0) dX6_remember_50 (by decide) ?_
    refine z_istore_n C [(1, .int (nI 0)), (0, .ref (ad 0))] dX6_remember_51 rfl (by decide) rfl ?_
    refine z_lv (lv' := [(0, .ref (ad 0)), (1, .int (nI 0))]) rfl ?_
    refine z_X (Y := MW θ ad (nv (n 0) (n 1) (n 3) (n 5) (n 8) (n 10) (n 12) (n 13) (n 14) (n 15) (n 16) (n 18) (n 20) 15 (n 27)) g (rv (r 2) (r 4) (r 6) (r 7) (r 9) (r 17) (r 19) (r 21) (m_cp (m_shf (r 23) 1230) (r 7) (82 * 15) 0) (r 24) (r 25) (r 26) (r 28) (r 29) (r 30) (r 31) (r 32))) (mw_eq rfl rfl rfl rfl rfl rfl rfl rfl rfl rfl rfl rfl rfl rfl rfl rfl rfl rfl rfl rfl rfl rfl rfl rfl rfl rfl rfl rfl rfl rfl rfl rfl) ?_
    refine z_up (fun k => Z κ (MW θ ad (nv (n 0) (n 1) (n 3) (n 5) (n 8) (n 10) (n 12) (n 13) (n 14) (n 15) (n 16) (n 18) (n 20) 15 (n 27)) g (rv (r 2) (r 4) (r 6) (r 7) (r 9) (r 17) (r 19) (r 21) (m_cp (m_shf (r 23) 1230) (r 7) (82 * 15) k) (r 24) (r 25) (r 26) (r 28) (r 29) (r 30) (r 31) (r 32))) 52 [(0, .ref (ad 0)), (1, .int (nI k))] []) (82) ?_ ?_ 0 (by omega)
    · refine z_iload_n C dX6_remember_52 rfl (show zlk _ 1 = some (.int (nI 82)) from rfl) ?_
      refine z_bipush C (v := nI 82) dX6_remember_53 (by decide) ?_
      refine z_icmp_geT C 84 dX6_remember_55 (by decide) (by omega) (by omega) (by omega) ?_
      refine z_aload_n C dX6_remember_84 rfl (show zlk _ 0 = some (.ref (ad 0)) from rfl) ?_
      refine z_dup C dX6_remember_85 rfl ?_
      refine z_mg C hin 22 (by decide) (by decide +kernel) (v := .int (nI 15)) mfv_22 dX6_remember_86 ?_
      refine z_iconst C (v := nI 1) dX6_remember_89 (by decide) ?_
      refine z_iaddN C dX6_remember_90 ?_
      refine z_top (v' := .int (nI 16)) rfl ?_
      refine z_mp C hin 22 (by decide) (by decide +kernel) rfl rfl mpv_22 dX6_remember_91 ?_
      exact E _ _ _ (by unfold m_u m_pst; rw [if_pos hu, if_pos hu]) dX6_remember_94
    · intro k hk52 ih52
      refine z_iload_n C dX6_remember_52 rfl (show zlk _ 1 = some (.int (nI k)) from rfl) ?_
      refine z_bipush C (v := nI 82) dX6_remember_53 (by decide) ?_
      refine z_icmp_geF C 84 dX6_remember_55 (by decide) (by omega) (by omega) (by omega) ?_
      refine z_aload_n C dX6_remember_58 rfl (show zlk _ 0 = some (.ref (ad 0)) from rfl) ?_
      refine z_mg C hin 23 (by decide) (by decide +kernel) (v := .ref (ad 23)) mf_23 dX6_remember_59 ?_
      refine z_bipush C (v := nI 82) dX6_remember_62 (by decide) ?_
      refine z_aload_n C dX6_remember_64 rfl (show zlk _ 0 = some (.ref (ad 0)) from rfl) ?_
      refine z_mg C hin 22 (by decide) (by decide +kernel) (v := .int (nI 15)) mfv_22 dX6_remember_65 ?_
      refine z_imulN C dX6_remember_68 ?_
      refine z_top (v' := .int (nI 1230)) rfl ?_
      refine z_iload_n C dX6_remember_69 rfl (show zlk _ 1 = some (.int (nI k)) from rfl) ?_
      refine z_iaddN C dX6_remember_70 ?_
      refine z_aload_n C dX6_remember_71 rfl (show zlk _ 0 = some (.ref (ad 0)) from rfl) ?_
      refine z_mg C hin 7 (by decide) (by decide +kernel) (v := .ref (ad 7)) mf_7 dX6_remember_72 ?_
      refine z_iload_n C dX6_remember_75 rfl (show zlk _ 1 = some (.int (nI k)) from rfl) ?_
      refine z_iald C (f := (r 7)) 4 mrv_7 k rfl (by omega) (by decide) dX6_remember_76 ?_
      refine z_iast C (f := (m_cp (m_shf (r 23) 1230) (r 7) (82 * 15) k)) 9 mrv_23 (1230 + k) rfl (by omega) (by decide) _ msv_23 dX6_remember_77 ?_
      refine z_iincN C [(1, .int (nI (k + 1))), (0, .ref (ad 0))] dX6_remember_78 rfl (by decide) rfl ?_
      refine z_goto C 52 dX6_remember_81 (by decide) ?_
      exact z_to (ih52) ((mw_eq rfl rfl rfl rfl rfl rfl rfl rfl rfl rfl rfl rfl rfl rfl rfl rfl rfl rfl rfl rfl rfl rfl rfl rfl rfl rfl rfl rfl rfl rfl rfl rfl)) (rfl)
  · intro k hk12 ih12
    refine z_iload_n C dX6_remember_12 rfl (show zlk _ 1 = some (.int (nI (82 + k))) from rfl) ?_
    refine z_sipush C (v := nI 1312) dX6_remember_13 (by decide) ?_
    refine z_icmp_geF C 40 dX6_remember_16 (by decide) (by omega) (by omega) (by omega) ?_
    refine z_aload_n C dX6_remember_19 rfl (show zlk _ 0 = some (.ref (ad 0)) from rfl) ?_
    refine z_mg C hin 23 (by decide) (by decide +kernel) (v := .ref (ad 23)) mf_23 dX6_remember_20 ?_
    refine z_iload_n C dX6_remember_23 rfl (show zlk _ 1 = some (.int (nI (82 + k))) from rfl) ?_
    refine z_bipush C (v := nI 82) dX6_remember_24 (by decide) ?_
    refine z_isubN C dX6_remember_26 (by omega) ?_
    refine z_aload_n C dX6_remember_27 rfl (show zlk _ 0 = some (.ref (ad 0)) from rfl) ?_
    refine z_mg C hin 23 (by decide) (by decide +kernel) (v := .ref (ad 23)) mf_23 dX6_remember_28 ?_
    refine z_iload_n C dX6_remember_31 rfl (show zlk _ 1 = some (.int (nI (82 + k))) from rfl) ?_
    refine z_iald C (f := (m_shf (r 23) k)) 9 mrv_23 (82 + k) rfl (by omega) (by decide) dX6_remember_32 ?_
    refine z_iast C (f := (m_shf (r 23) k)) 9 mrv_23 k (congrArg nI (by omega)) (by omega) (by decide) _ msv_23 dX6_remember_33 ?_
    refine z_iincN C [(1, .int (nI (82 + k + 1))), (0, .ref (ad 0))] dX6_remember_34 rfl (by decide) rfl ?_
    refine z_goto C 12 dX6_remember_37 (by decide) ?_
    exact z_to (ih12) ((mw_eq rfl rfl rfl rfl rfl rfl rfl rfl rfl rfl rfl rfl rfl rfl rfl rfl rfl rfl rfl rfl rfl rfl rfl rfl rfl rfl rfl rfl rfl rfl rfl rfl)) (rfl)

set_option maxHeartbeats 4000000 in
set_option maxRecDepth 100000 in
theorem c_X6_remember_b (l : Launch) (θ : zH) (ad : Nat → Nat) (n : Nat → Nat) (g : Int32) (r : Nat → Nat → Int32)  (hu : n 22 < 16) : cV l yX6_remember wsX6_remember 0 θ [.ref (ad 0)] (MW θ ad n g r) (fun Y => Y = MW θ ad (nv (n 0) (n 1) (n 3) (n 5) (n 8) (n 10) (n 12) (n 13) (n 14) (n 15) (n 16) (n 18) (n 20) (m_u (n 22)) (n 27)) g (rv (r 2) (r 4) (r 6) (r 7) (r 9) (r 17) (r 19) (r 21) (m_pst (r 23) (r 7) (n 22)) (r 24) (r 25) (r 26) (r 28) (r 29) (r 30) (r 31) (r 32))) := by
  refine z_cV (by decide) rfl rfl (Nat.le_of_ble_eq_true rfl) (lv := [(0, .ref (ad 0))]) rfl (fun κ C E => ?_)
  have hin : ∀ w ∈ wsX60, w ∈ wsX6_remember := by decide +kernel
  refine z_aload_n C dX6_remember_0 rfl (show zlk _ 0 = some (.ref (ad 0)) from rfl) ?_
  refine z_mg C hin 22 (by decide) (by decide +kernel) (v := .int (nI (n 22))) mf_22 dX6_remember_1 ?_
  refine z_bipush C (v := nI 16) dX6_remember_4 (by decide) ?_
  refine z_icmp_neT C 50 dX6_remember_6 (by decide) (by omega) (by omega) (by omega) ?_
  refine z_iconst C (v := nI 0) dX6_remember_50 (by decide) ?_
  refine z_istore_n C [(1, .int (nI 0)), (0, .ref (ad 0))] dX6_remember_51 rfl (by decide) rfl ?_
  refine z_lv (lv' := [(0, .ref (ad 0)), (1, .int (nI 0))]) rfl ?_
  refine z_X (Y := MW θ ad n g (rv (r 2) (r 4) (r 6) (r 7) (r 9) (r 17) (r 19) (r 21) (m_cp (r 23) (r 7) (82 * (n 22)) 0) (r 24) (r 25) (r 26) (r 28) (r 29) (r 30) (r 31) (r 32))) (mw_eq rfl rfl rfl rfl rfl rfl rfl rfl rfl rfl rfl rfl rfl rfl rfl rfl rfl rfl rfl rfl rfl rfl rfl rfl rfl rfl rfl rfl rfl rfl rfl rfl) ?_
  refine z_up (fun k => Z κ (MW θ ad n g (rv (r 2) (r 4) (r 6) (r 7) (r 9) (r 17) (r 19) (r 21) (m_cp (r 23) (r 7) (82 * (n 22)) k) (r 24) (r 25) (r 26) (r 28) (r 29) (r 30) (r 31) (r 32))) 52 [(0, .ref (ad 0)), (1, .int (nI k))] []) (82) ?_ ?_ 0 (by omega)
  · refine z_iload_n C dX6_remember_52 rfl (show zlk _ 1 = some (.int (nI 82)) from rfl) ?_
    refine z_bipush C (v := nI 82) dX6_remember_53 (by decide) ?_
    refine z_icmp_geT C 84 dX6_remember_55 (by decide) (by omega) (by omega) (by omega) ?_
    refine z_aload_n C dX6_remember_84 rfl (show zlk _ 0 = some (.ref (ad 0)) from rfl) ?_
    refine z_dup C dX6_remember_85 rfl ?_
    refine z_mg C hin 22 (by decide) (by decide +kernel) (v := .int (nI (n 22))) mf_22 dX6_remember_86 ?_
    refine z_iconst C (v := nI 1) dX6_remember_89 (by decide) ?_
    refine z_iaddN C dX6_remember_90 ?_
    refine z_mp C hin 22 (by decide) (by decide +kernel) rfl rfl mpn_22 dX6_remember_91 ?_
    exact E _ _ _ (by unfold m_u m_pst; rw [if_neg (by omega), if_neg (by omega)]) dX6_remember_94
  · intro k hk52 ih52
    refine z_iload_n C dX6_remember_52 rfl (show zlk _ 1 = some (.int (nI k)) from rfl) ?_
    refine z_bipush C (v := nI 82) dX6_remember_53 (by decide) ?_
    refine z_icmp_geF C 84 dX6_remember_55 (by decide) (by omega) (by omega) (by omega) ?_
    refine z_aload_n C dX6_remember_58 rfl (show zlk _ 0 = some (.ref (ad 0)) from rfl) ?_
    refine z_mg C hin 23 (by decide) (by decide +kernel) (v := .ref (ad 23)) mf_23 dX6_remember_59 ?_
    refine z_bipush C (v := nI 82) dX6_remember_62 (by decide) ?_
    refine z_aload_n C dX6_remember_64 rfl (show zlk _ 0 = some (.ref (ad 0)) from rfl) ?_
    refine z_mg C hin 22 (by decide) (by decide +kernel) (v := .int (nI (n 22))) mf_22 dX6_remember_65 ?_
    refine z_imulN C dX6_remember_68 ?_
    refine z_iload_n C dX6_remember_69 rfl (show zlk _ 1 = some (.int (nI k)) from rfl) ?_
    refine z_iaddN C dX6_remember_70 ?_
    refine z_aload_n C dX6_remember_71 rfl (show zlk _ 0 = some (.ref (ad 0)) from rfl) ?_
    refine z_mg C hin 7 (by decide) (by decide +kernel) (v := .ref (ad 7)) mf_7 dX6_remember_72 ?_
    refine z_iload_n C dX6_remember_75 rfl (show zlk _ 1 = some (.int (nI k)) from rfl) ?_
    refine z_iald C (f := (r 7)) 4 mrv_7 k rfl (by omega) (by decide) dX6_remember_76 ?_
    refine z_iast C (f := (m_cp (r 23) (r 7) (82 * (n 22)) k)) 9 mrv_23 (82 * (n 22) + k) rfl (by omega) (by decide) _ msv_23 dX6_remember_77 ?_
    refine z_iincN C [(1, .int (nI (k + 1))), (0, .ref (ad 0))] dX6_remember_78 rfl (by decide) rfl ?_
    refine z_goto C 52 dX6_remember_81 (by decide) ?_
    exact z_to (ih52) ((mw_eq rfl rfl rfl rfl rfl rfl rfl rfl rfl rfl rfl rfl rfl rfl rfl rfl rfl rfl rfl rfl rfl rfl rfl rfl rfl rfl rfl rfl rfl rfl rfl rfl)) (rfl)

theorem c_X6_remember (l : Launch) (θ : zH) (ad : Nat → Nat) (n : Nat → Nat) (g : Int32) (r : Nat → Nat → Int32) (hu : n 22 ≤ 16) : cV l yX6_remember wsX6_remember 0 θ [.ref (ad 0)] (MW θ ad n g r) (fun Y => Y = MW θ ad (nv (n 0) (n 1) (n 3) (n 5) (n 8) (n 10) (n 12) (n 13) (n 14) (n 15) (n 16) (n 18) (n 20) (m_u (n 22)) (n 27)) g (rv (r 2) (r 4) (r 6) (r 7) (r 9) (r 17) (r 19) (r 21) (m_pst (r 23) (r 7) (n 22)) (r 24) (r 25) (r 26) (r 28) (r 29) (r 30) (r 31) (r 32))) := by
  by_cases e : n 22 = 16
  · exact c_X6_remember_a l θ ad n g r e
  · exact c_X6_remember_b l θ ad n g r (by omega)
set_option maxHeartbeats 4000000 in
set_option maxRecDepth 100000 in
theorem c_X6_lamp_1 (l : Launch) (θ : zH) (ad : Nat → Nat) (n : Nat → Nat) (g : Int32) (r : Nat → Nat → Int32) (w x : Int32) (hW : n 3 ≤ 5) (hw : okN w (n 3) = false) : cI l yX6_lamp wsX6_lamp 2 θ [.ref (ad 0), .int w, .int x] (MW θ ad n g r) (fun r0 Y => r0 = (-1000000001) ∧ Y = MW θ ad n g r) := by
  refine z_cI (by decide) rfl rfl (Nat.le_of_ble_eq_true rfl) (lv := [(0, .ref (ad 0)), (1, .int w), (2, .int x)]) rfl (fun κ C E => ?_)
  refine z_aload_n C dX6_lamp_0 rfl (show zlk _ 0 = some (.ref (ad 0)) from rfl) ?_
  refine z_iload_n C dX6_lamp_1 rfl (show zlk _ 1 = some (.int w) from rfl) ?_
  refine z_callVi C (As := [.int w]) (rest := []) (c_X6_isWindow l θ ad n g r w (by omega)) gX6_lamp_X6_isWindow rfl 1 (by decide +kernel) (by decide) (by decide) 0 rfl rfl rfl rfl rfl (Nat.le_of_ble_eq_true rfl) dX6_lamp_2 ?_
  rintro _ _ ⟨rfl, rfl⟩
  refine z_if_neB C 11 dX6_lamp_5 (by decide) (fun h => absurd h (by rw [hw]; decide)) (fun _ => ?_)
  refine z_ldc C (v := (-1000000001)) (by decide +kernel) dX6_lamp_8 ?_
  exact E _ _ _ _ (⟨rfl, rfl⟩) (rfl) dX6_lamp_10

set_option maxHeartbeats 4000000 in
set_option maxRecDepth 100000 in
theorem c_X6_lamp_2 (l : Launch) (θ : zH) (ad : Nat → Nat) (n : Nat → Nat) (g : Int32) (r : Nat → Nat → Int32) (w x : Int32) (hW : n 3 ≤ 5) (hw : okN w (n 3) = true) (hx : okN x 6 = false) : cI l yX6_lamp wsX6_lamp 2 θ [.ref (ad 0), .int w, .int x] (MW θ ad n g r) (fun r0 Y => r0 = (-1000000002) ∧ Y = MW θ ad n g r) := by
  refine z_cI (by decide) rfl rfl (Nat.le_of_ble_eq_true rfl) (lv := [(0, .ref (ad 0)), (1, .int w), (2, .int x)]) rfl (fun κ C E => ?_)
  refine z_aload_n C dX6_lamp_0 rfl (show zlk _ 0 = some (.ref (ad 0)) from rfl) ?_
  refine z_iload_n C dX6_lamp_1 rfl (show zlk _ 1 = some (.int w) from rfl) ?_
  refine z_callVi C (As := [.int w]) (rest := []) (c_X6_isWindow l θ ad n g r w (by omega)) gX6_lamp_X6_isWindow rfl 1 (by decide +kernel) (by decide) (by decide) 0 rfl rfl rfl rfl rfl (Nat.le_of_ble_eq_true rfl) dX6_lamp_2 ?_
  rintro _ _ ⟨rfl, rfl⟩
  refine z_if_neB C 11 dX6_lamp_5 (by decide) (fun _ => ?_) (fun h => absurd h (by rw [hw]; decide))
  refine z_iload_n C dX6_lamp_11 rfl (show zlk _ 2 = some (.int x) from rfl) ?_
  refine z_i2l C dX6_lamp_12 ?_
  refine z_lconst C (v := 0) dX6_lamp_13 (by decide) ?_
  refine z_ldc2 C (v := 5) (by decide +kernel) dX6_lamp_14 ?_
  refine z_callSi C (As := [.long (Int32.toInt64 x), .long 0, .long (5)]) (rest := []) (c_X6_in l θ _ (Int32.toInt64 x) 0 (5)) gX6_lamp_X6_in rfl 3 (by decide +kernel) (by decide) (by decide) rfl rfl (Nat.le_of_ble_eq_true rfl) dX6_lamp_17 ?_
  rintro _ _ ⟨rfl, rfl⟩
  refine z_top (v' := .int (bI (okN x 6))) (by rw [m_in_lit (N := 6) (by decide)]) ?_
  refine z_if_neB C 26 dX6_lamp_20 (by decide) (fun h => absurd h (by rw [hx]; decide)) (fun _ => ?_)
  refine z_ldc C (v := (-1000000002)) (by decide +kernel) dX6_lamp_23 ?_
  exact E _ _ _ _ (⟨rfl, rfl⟩) (rfl) dX6_lamp_25

set_option maxHeartbeats 4000000 in
set_option maxRecDepth 100000 in
theorem c_X6_lamp_3 (l : Launch) (θ : zH) (ad : Nat → Nat) (n : Nat → Nat) (g : Int32) (r : Nat → Nat → Int32) (w : Nat) (x : Int32) (hW : n 3 ≤ 5) (hw : w < n 3) (hx : okN x 6 = true) (hu : n 22 ≤ 16) : cI l yX6_lamp wsX6_lamp 2 θ [.ref (ad 0), .int (nI w), .int x] (MW θ ad n g r) (fun r0 Y => r0 = r 7 (12 + w) ∧ Y = MW θ ad (nv (n 0) (n 1) (n 3) (n 5) (n 8) (n 10) (n 12) (n 13) (n 14) (n 15) (n 16) (n 18) (n 20) (m_u (n 22)) (n 27)) g (rv (r 2) (r 4) (r 6) (upd (r 7) (12 + w) x) (r 9) (r 17) (r 19) (r 21) (m_pst (r 23) (r 7) (n 22)) (r 24) (r 25) (r 26) (r 28) (r 29) (r 30) (r 31) (r 32))) := by
  refine z_cI (by decide) rfl rfl (Nat.le_of_ble_eq_true rfl) (lv := [(0, .ref (ad 0)), (1, .int (nI w)), (2, .int x)]) rfl (fun κ C E => ?_)
  have hin : ∀ w ∈ wsX60, w ∈ wsX6_lamp := by decide +kernel
  refine z_aload_n C dX6_lamp_0 rfl (show zlk _ 0 = some (.ref (ad 0)) from rfl) ?_
  refine z_iload_n C dX6_lamp_1 rfl (show zlk _ 1 = some (.int (nI w)) from rfl) ?_
  refine z_callVi C (As := [.int (nI w)]) (rest := []) (c_X6_isWindow l θ ad n g r (nI w) (by omega)) gX6_lamp_X6_isWindow rfl 1 (by decide +kernel) (by decide) (by decide) 0 rfl rfl rfl rfl rfl (Nat.le_of_ble_eq_true rfl) dX6_lamp_2 ?_
  rintro _ _ ⟨rfl, rfl⟩
  refine z_if_neB C 11 dX6_lamp_5 (by decide) (fun _ => ?_) (fun h => absurd h (by rw [okN_lt hw (by omega)]; decide))
  refine z_iload_n C dX6_lamp_11 rfl (show zlk _ 2 = some (.int x) from rfl) ?_
  refine z_i2l C dX6_lamp_12 ?_
  refine z_lconst C (v := 0) dX6_lamp_13 (by decide) ?_
  refine z_ldc2 C (v := 5) (by decide +kernel) dX6_lamp_14 ?_
  refine z_callSi C (As := [.long (Int32.toInt64 x), .long 0, .long (5)]) (rest := []) (c_X6_in l θ _ (Int32.toInt64 x) 0 (5)) gX6_lamp_X6_in rfl 3 (by decide +kernel) (by decide) (by decide) rfl rfl (Nat.le_of_ble_eq_true rfl) dX6_lamp_17 ?_
  rintro _ _ ⟨rfl, rfl⟩
  refine z_top (v' := .int (bI (okN x 6))) (by rw [m_in_lit (N := 6) (by decide)]) ?_
  refine z_if_neB C 26 dX6_lamp_20 (by decide) (fun _ => ?_) (fun h => absurd h (by rw [hx]; decide))
  refine z_aload_n C dX6_lamp_26 rfl (show zlk _ 0 = some (.ref (ad 0)) from rfl) ?_
  refine z_callVv C (As := []) (rest := []) (c_X6_remember l θ ad n g r hu) gX6_lamp_X6_remember rfl 0 (by decide +kernel) (by decide) (by decide) 0 rfl rfl rfl rfl rfl (Nat.le_of_ble_eq_true rfl) dX6_lamp_27 ?_
  rintro _ rfl
  refine z_X (Y := MW θ ad (nv (n 0) (n 1) (n 3) (n 5) (n 8) (n 10) (n 12) (n 13) (n 14) (n 15) (n 16) (n 18) (n 20) (m_u (n 22)) (n 27)) g (rv (r 2) (r 4) (r 6) (r 7) (r 9) (r 17) (r 19) (r 21) (m_pst (r 23) (r 7) (n 22)) (r 24) (r 25) (r 26) (r 28) (r 29) (r 30) (r 31) (r 32))) (mw_eq rfl rfl rfl rfl rfl rfl rfl rfl rfl rfl rfl rfl rfl rfl rfl rfl rfl rfl rfl rfl rfl rfl rfl rfl rfl rfl rfl rfl rfl rfl rfl rfl) ?_
  refine z_aload_n C dX6_lamp_30 rfl (show zlk _ 0 = some (.ref (ad 0)) from rfl) ?_
  refine z_mg C hin 7 (by decide) (by decide +kernel) (v := .ref (ad 7)) mf_7 dX6_lamp_31 ?_
  refine z_bipush C (v := nI 12) dX6_lamp_34 (by decide) ?_
  refine z_iload_n C dX6_lamp_36 rfl (show zlk _ 1 = some (.int (nI w)) from rfl) ?_
  refine z_iaddN C dX6_lamp_37 ?_
  refine z_iald C (f := (r 7)) 4 mrv_7 (12 + w) rfl (by omega) (by decide) dX6_lamp_38 ?_
  refine z_istore_n C [(3, .int ((r 7) (12 + w))), (0, .ref (ad 0)), (1, .int (nI w)), (2, .int x)] dX6_lamp_39 rfl (by decide) rfl ?_
  refine z_aload_n C dX6_lamp_40 rfl (show zlk _ 0 = some (.ref (ad 0)) from rfl) ?_
  refine z_mg C hin 7 (by decide) (by decide +kernel) (v := .ref (ad 7)) mf_7 dX6_lamp_41 ?_
  refine z_bipush C (v := nI 12) dX6_lamp_44 (by decide) ?_
  refine z_iload_n C dX6_lamp_46 rfl (show zlk _ 1 = some (.int (nI w)) from rfl) ?_
  refine z_iaddN C dX6_lamp_47 ?_
  refine z_iload_n C dX6_lamp_48 rfl (show zlk _ 2 = some (.int x) from rfl) ?_
  refine z_iast C (f := (r 7)) 4 mrv_7 (12 + w) rfl (by omega) (by decide) _ msv_7 dX6_lamp_49 ?_
  refine z_iload_n C dX6_lamp_50 rfl (show zlk _ 3 = some (.int ((r 7) (12 + w))) from rfl) ?_
  exact E _ _ _ _ (⟨rfl, (mw_eq rfl rfl rfl rfl rfl rfl rfl rfl rfl rfl rfl rfl rfl rfl rfl rfl rfl rfl rfl rfl rfl rfl rfl rfl rfl rfl rfl rfl rfl rfl rfl rfl)⟩) (rfl) dX6_lamp_51

set_option maxHeartbeats 4000000 in
set_option maxRecDepth 100000 in
theorem c_X6_wind_1 (l : Launch) (θ : zH) (ad : Nat → Nat) (n : Nat → Nat) (g : Int32) (r : Nat → Nat → Int32) (x : Int32) (hx : m_in (Int32.toInt64 x) (-3) (3) = false) : cI l yX6_wind wsX6_wind 2 θ [.ref (ad 0), .int x] (MW θ ad n g r) (fun r0 Y => r0 = (-1000000002) ∧ Y = MW θ ad n g r) := by
  refine z_cI (by decide) rfl rfl (Nat.le_of_ble_eq_true rfl) (lv := [(0, .ref (ad 0)), (1, .int x)]) rfl (fun κ C E => ?_)
  refine z_iload_n C dX6_wind_0 rfl (show zlk _ 1 = some (.int x) from rfl) ?_
  refine z_i2l C dX6_wind_1 ?_
  refine z_ldc2 C (v := -3) (by decide +kernel) dX6_wind_2 ?_
  refine z_ldc2 C (v := 3) (by decide +kernel) dX6_wind_5 ?_
  refine z_callSi C (As := [.long (Int32.toInt64 x), .long (-3), .long (3)]) (rest := []) (c_X6_in l θ _ (Int32.toInt64 x) (-3) (3)) gX6_wind_X6_in rfl 3 (by decide +kernel) (by decide) (by decide) rfl rfl (Nat.le_of_ble_eq_true rfl) dX6_wind_8 ?_
  rintro _ _ ⟨rfl, rfl⟩
  refine z_if_neB C 17 dX6_wind_11 (by decide) (fun h => absurd h (by rw [hx]; decide)) (fun _ => ?_)
  refine z_ldc C (v := (-1000000002)) (by decide +kernel) dX6_wind_14 ?_
  exact E _ _ _ _ (⟨rfl, rfl⟩) (rfl) dX6_wind_16

set_option maxHeartbeats 4000000 in
set_option maxRecDepth 100000 in
theorem c_X6_wind_2 (l : Launch) (θ : zH) (ad : Nat → Nat) (n : Nat → Nat) (g : Int32) (r : Nat → Nat → Int32) (x : Int32) (hx : m_in (Int32.toInt64 x) (-3) (3) = true) (hg : decide (0 < n 0) = false) (h0 : n 0 ≤ 30) : cI l yX6_wind wsX6_wind 2 θ [.ref (ad 0), .int x] (MW θ ad n g r) (fun r0 Y => r0 = (-1000000003) ∧ Y = MW θ ad n g r) := by
  refine z_cI (by decide) rfl rfl (Nat.le_of_ble_eq_true rfl) (lv := [(0, .ref (ad 0)), (1, .int x)]) rfl (fun κ C E => ?_)
  refine z_iload_n C dX6_wind_0 rfl (show zlk _ 1 = some (.int x) from rfl) ?_
  refine z_i2l C dX6_wind_1 ?_
  refine z_ldc2 C (v := -3) (by decide +kernel) dX6_wind_2 ?_
  refine z_ldc2 C (v := 3) (by decide +kernel) dX6_wind_5 ?_
  refine z_callSi C (As := [.long (Int32.toInt64 x), .long (-3), .long (3)]) (rest := []) (c_X6_in l θ _ (Int32.toInt64 x) (-3) (3)) gX6_wind_X6_in rfl 3 (by decide +kernel) (by decide) (by decide) rfl rfl (Nat.le_of_ble_eq_true rfl) dX6_wind_8 ?_
  rintro _ _ ⟨rfl, rfl⟩
  refine z_if_neB C 17 dX6_wind_11 (by decide) (fun _ => ?_) (fun h => absurd h (by rw [hx]; decide))
  refine z_aload_n C dX6_wind_17 rfl (show zlk _ 0 = some (.ref (ad 0)) from rfl) ?_
  refine z_callVi C (As := []) (rest := []) (c_X6_isCapital l θ ad n g r (by omega)) gX6_wind_X6_isCapital rfl 0 (by decide +kernel) (by decide) (by decide) 0 rfl rfl rfl rfl rfl (Nat.le_of_ble_eq_true rfl) dX6_wind_18 ?_
  rintro _ _ ⟨rfl, rfl⟩
  refine z_if_neB C 27 dX6_wind_21 (by decide) (fun h => absurd h (by rw [hg]; decide)) (fun _ => ?_)
  refine z_ldc C (v := (-1000000003)) (by decide +kernel) dX6_wind_24 ?_
  exact E _ _ _ _ (⟨rfl, rfl⟩) (rfl) dX6_wind_26

set_option maxHeartbeats 4000000 in
set_option maxRecDepth 100000 in
theorem c_X6_wind_3 (l : Launch) (θ : zH) (ad : Nat → Nat) (n : Nat → Nat) (g : Int32) (r : Nat → Nat → Int32) (x : Int32) (hx : m_in (Int32.toInt64 x) (-3) (3) = true) (hg : decide (0 < n 0) = true) (h0 : n 0 ≤ 30) (hu : n 22 ≤ 16) : cI l yX6_wind wsX6_wind 2 θ [.ref (ad 0), .int x] (MW θ ad n g r) (fun r0 Y => r0 = r 7 1 + nI 3 ∧ Y = MW θ ad (nv (n 0) (n 1) (n 3) (n 5) (n 8) (n 10) (n 12) (n 13) (n 14) (n 15) (n 16) (n 18) (n 20) (m_u (n 22)) (n 27)) g (rv (r 2) (r 4) (r 6) (upd (r 7) 1 x) (r 9) (r 17) (r 19) (r 21) (m_pst (r 23) (r 7) (n 22)) (r 24) (r 25) (r 26) (r 28) (r 29) (r 30) (r 31) (r 32))) := by
  refine z_cI (by decide) rfl rfl (Nat.le_of_ble_eq_true rfl) (lv := [(0, .ref (ad 0)), (1, .int x)]) rfl (fun κ C E => ?_)
  have hin : ∀ w ∈ wsX60, w ∈ wsX6_wind := by decide +kernel
  refine z_iload_n C dX6_wind_0 rfl (show zlk _ 1 = some (.int x) from rfl) ?_
  refine z_i2l C dX6_wind_1 ?_
  refine z_ldc2 C (v := -3) (by decide +kernel) dX6_wind_2 ?_
  refine z_ldc2 C (v := 3) (by decide +kernel) dX6_wind_5 ?_
  refine z_callSi C (As := [.long (Int32.toInt64 x), .long (-3), .long (3)]) (rest := []) (c_X6_in l θ _ (Int32.toInt64 x) (-3) (3)) gX6_wind_X6_in rfl 3 (by decide +kernel) (by decide) (by decide) rfl rfl (Nat.le_of_ble_eq_true rfl) dX6_wind_8 ?_
  rintro _ _ ⟨rfl, rfl⟩
  refine z_if_neB C 17 dX6_wind_11 (by decide) (fun _ => ?_) (fun h => absurd h (by rw [hx]; decide))
  refine z_aload_n C dX6_wind_17 rfl (show zlk _ 0 = some (.ref (ad 0)) from rfl) ?_
  refine z_callVi C (As := []) (rest := []) (c_X6_isCapital l θ ad n g r (by omega)) gX6_wind_X6_isCapital rfl 0 (by decide +kernel) (by decide) (by decide) 0 rfl rfl rfl rfl rfl (Nat.le_of_ble_eq_true rfl) dX6_wind_18 ?_
  rintro _ _ ⟨rfl, rfl⟩
  refine z_if_neB C 27 dX6_wind_21 (by decide) (fun _ => ?_) (fun h => absurd h (by rw [hg]; decide))
  refine z_aload_n C dX6_wind_27 rfl (show zlk _ 0 = some (.ref (ad 0)) from rfl) ?_
  refine z_callVv C (As := []) (rest := []) (c_X6_remember l θ ad n g r hu) gX6_wind_X6_remember rfl 0 (by decide +kernel) (by decide) (by decide) 0 rfl rfl rfl rfl rfl (Nat.le_of_ble_eq_true rfl) dX6_wind_28 ?_
  rintro _ rfl
  refine z_X (Y := MW θ ad (nv (n 0) (n 1) (n 3) (n 5) (n 8) (n 10) (n 12) (n 13) (n 14) (n 15) (n 16) (n 18) (n 20) (m_u (n 22)) (n 27)) g (rv (r 2) (r 4) (r 6) (r 7) (r 9) (r 17) (r 19) (r 21) (m_pst (r 23) (r 7) (n 22)) (r 24) (r 25) (r 26) (r 28) (r 29) (r 30) (r 31) (r 32))) (mw_eq rfl rfl rfl rfl rfl rfl rfl rfl rfl rfl rfl rfl rfl rfl rfl rfl rfl rfl rfl rfl rfl rfl rfl rfl rfl rfl rfl rfl rfl rfl rfl rfl) ?_
  refine z_aload_n C dX6_wind_31 rfl (show zlk _ 0 = some (.ref (ad 0)) from rfl) ?_
  refine z_mg C hin 7 (by decide) (by decide +kernel) (v := .ref (ad 7)) mf_7 dX6_wind_32 ?_
  refine z_iconst C (v := nI 1) dX6_wind_35 (by decide) ?_
  refine z_iald C (f := (r 7)) 4 mrv_7 1 rfl (by omega) (by decide) dX6_wind_36 ?_
  refine z_istore_n C [(2, .int ((r 7) 1)), (0, .ref (ad 0)), (1, .int x)] dX6_wind_37 rfl (by decide) rfl ?_
  refine z_aload_n C dX6_wind_38 rfl (show zlk _ 0 = some (.ref (ad 0)) from rfl) ?_
  refine z_mg C hin 7 (by decide) (by decide +kernel) (v := .ref (ad 7)) mf_7 dX6_wind_39 ?_
  refine z_iconst C (v := nI 1) dX6_wind_42 (by decide) ?_
  refine z_iload_n C dX6_wind_43 rfl (show zlk _ 1 = some (.int x) from rfl) ?_
  refine z_iast C (f := (r 7)) 4 mrv_7 1 rfl (by omega) (by decide) _ msv_7 dX6_wind_44 ?_
  refine z_iload_n C dX6_wind_45 rfl (show zlk _ 2 = some (.int ((r 7) 1)) from rfl) ?_
  refine z_iconst C (v := nI 3) dX6_wind_46 (by decide) ?_
  refine z_iadd C dX6_wind_47 ?_
  exact E _ _ _ _ (⟨rfl, (mw_eq rfl rfl rfl rfl rfl rfl rfl rfl rfl rfl rfl rfl rfl rfl rfl rfl rfl rfl rfl rfl rfl rfl rfl rfl rfl rfl rfl rfl rfl rfl rfl rfl)⟩) (rfl) dX6_wind_48

set_option maxHeartbeats 4000000 in
set_option maxRecDepth 100000 in
theorem c_X6_bats_1 (l : Launch) (θ : zH) (ad : Nat → Nat) (n : Nat → Nat) (g : Int32) (r : Nat → Nat → Int32) (x : Int32) (hx : okN x 64 = false) : cI l yX6_bats wsX6_bats 2 θ [.ref (ad 0), .int x] (MW θ ad n g r) (fun r0 Y => r0 = (-1000000002) ∧ Y = MW θ ad n g r) := by
  refine z_cI (by decide) rfl rfl (Nat.le_of_ble_eq_true rfl) (lv := [(0, .ref (ad 0)), (1, .int x)]) rfl (fun κ C E => ?_)
  refine z_iload_n C dX6_bats_0 rfl (show zlk _ 1 = some (.int x) from rfl) ?_
  refine z_i2l C dX6_bats_1 ?_
  refine z_lconst C (v := 0) dX6_bats_2 (by decide) ?_
  refine z_ldc2 C (v := 63) (by decide +kernel) dX6_bats_3 ?_
  refine z_callSi C (As := [.long (Int32.toInt64 x), .long 0, .long (63)]) (rest := []) (c_X6_in l θ _ (Int32.toInt64 x) 0 (63)) gX6_bats_X6_in rfl 3 (by decide +kernel) (by decide) (by decide) rfl rfl (Nat.le_of_ble_eq_true rfl) dX6_bats_6 ?_
  rintro _ _ ⟨rfl, rfl⟩
  refine z_top (v' := .int (bI (okN x 64))) (by rw [m_in_lit (N := 64) (by decide)]) ?_
  refine z_if_neB C 15 dX6_bats_9 (by decide) (fun h => absurd h (by rw [hx]; decide)) (fun _ => ?_)
  refine z_ldc C (v := (-1000000002)) (by decide +kernel) dX6_bats_12 ?_
  exact E _ _ _ _ (⟨rfl, rfl⟩) (rfl) dX6_bats_14

set_option maxHeartbeats 4000000 in
set_option maxRecDepth 100000 in
theorem c_X6_bats_2 (l : Launch) (θ : zH) (ad : Nat → Nat) (n : Nat → Nat) (g : Int32) (r : Nat → Nat → Int32) (x : Int32) (hx : okN x 64 = true) (hg : decide (0 < n 0) = false) (h0 : n 0 ≤ 30) : cI l yX6_bats wsX6_bats 2 θ [.ref (ad 0), .int x] (MW θ ad n g r) (fun r0 Y => r0 = (-1000000003) ∧ Y = MW θ ad n g r) := by
  refine z_cI (by decide) rfl rfl (Nat.le_of_ble_eq_true rfl) (lv := [(0, .ref (ad 0)), (1, .int x)]) rfl (fun κ C E => ?_)
  refine z_iload_n C dX6_bats_0 rfl (show zlk _ 1 = some (.int x) from rfl) ?_
  refine z_i2l C dX6_bats_1 ?_
  refine z_lconst C (v := 0) dX6_bats_2 (by decide) ?_
  refine z_ldc2 C (v := 63) (by decide +kernel) dX6_bats_3 ?_
  refine z_callSi C (As := [.long (Int32.toInt64 x), .long 0, .long (63)]) (rest := []) (c_X6_in l θ _ (Int32.toInt64 x) 0 (63)) gX6_bats_X6_in rfl 3 (by decide +kernel) (by decide) (by decide) rfl rfl (Nat.le_of_ble_eq_true rfl) dX6_bats_6 ?_
  rintro _ _ ⟨rfl, rfl⟩
  refine z_top (v' := .int (bI (okN x 64))) (by rw [m_in_lit (N := 64) (by decide)]) ?_
  refine z_if_neB C 15 dX6_bats_9 (by decide) (fun _ => ?_) (fun h => absurd h (by rw [hx]; decide))
  refine z_aload_n C dX6_bats_15 rfl (show zlk _ 0 = some (.ref (ad 0)) from rfl) ?_
  refine z_callVi C (As := []) (rest := []) (c_X6_isCapital l θ ad n g r (by omega)) gX6_bats_X6_isCapital rfl 0 (by decide +kernel) (by decide) (by decide) 0 rfl rfl rfl rfl rfl (Nat.le_of_ble_eq_true rfl) dX6_bats_16 ?_
  rintro _ _ ⟨rfl, rfl⟩
  refine z_if_neB C 25 dX6_bats_19 (by decide) (fun h => absurd h (by rw [hg]; decide)) (fun _ => ?_)
  refine z_ldc C (v := (-1000000003)) (by decide +kernel) dX6_bats_22 ?_
  exact E _ _ _ _ (⟨rfl, rfl⟩) (rfl) dX6_bats_24

set_option maxHeartbeats 4000000 in
set_option maxRecDepth 100000 in
theorem c_X6_bats_3 (l : Launch) (θ : zH) (ad : Nat → Nat) (n : Nat → Nat) (g : Int32) (r : Nat → Nat → Int32) (x : Int32) (hx : okN x 64 = true) (hg : decide (0 < n 0) = true) (h0 : n 0 ≤ 30) (hu : n 22 ≤ 16) : cI l yX6_bats wsX6_bats 2 θ [.ref (ad 0), .int x] (MW θ ad n g r) (fun r0 Y => r0 = r 7 2 ∧ Y = MW θ ad (nv (n 0) (n 1) (n 3) (n 5) (n 8) (n 10) (n 12) (n 13) (n 14) (n 15) (n 16) (n 18) (n 20) (m_u (n 22)) (n 27)) g (rv (r 2) (r 4) (r 6) (upd (r 7) 2 x) (r 9) (r 17) (r 19) (r 21) (m_pst (r 23) (r 7) (n 22)) (r 24) (r 25) (r 26) (r 28) (r 29) (r 30) (r 31) (r 32))) := by
  refine z_cI (by decide) rfl rfl (Nat.le_of_ble_eq_true rfl) (lv := [(0, .ref (ad 0)), (1, .int x)]) rfl (fun κ C E => ?_)
  have hin : ∀ w ∈ wsX60, w ∈ wsX6_bats := by decide +kernel
  refine z_iload_n C dX6_bats_0 rfl (show zlk _ 1 = some (.int x) from rfl) ?_
  refine z_i2l C dX6_bats_1 ?_
  refine z_lconst C (v := 0) dX6_bats_2 (by decide) ?_
  refine z_ldc2 C (v := 63) (by decide +kernel) dX6_bats_3 ?_
  refine z_callSi C (As := [.long (Int32.toInt64 x), .long 0, .long (63)]) (rest := []) (c_X6_in l θ _ (Int32.toInt64 x) 0 (63)) gX6_bats_X6_in rfl 3 (by decide +kernel) (by decide) (by decide) rfl rfl (Nat.le_of_ble_eq_true rfl) dX6_bats_6 ?_
  rintro _ _ ⟨rfl, rfl⟩
  refine z_top (v' := .int (bI (okN x 64))) (by rw [m_in_lit (N := 64) (by decide)]) ?_
  refine z_if_neB C 15 dX6_bats_9 (by decide) (fun _ => ?_) (fun h => absurd h (by rw [hx]; decide))
  refine z_aload_n C dX6_bats_15 rfl (show zlk _ 0 = some (.ref (ad 0)) from rfl) ?_
  refine z_callVi C (As := []) (rest := []) (c_X6_isCapital l θ ad n g r (by omega)) gX6_bats_X6_isCapital rfl 0 (by decide +kernel) (by decide) (by decide) 0 rfl rfl rfl rfl rfl (Nat.le_of_ble_eq_true rfl) dX6_bats_16 ?_
  rintro _ _ ⟨rfl, rfl⟩
  refine z_if_neB C 25 dX6_bats_19 (by decide) (fun _ => ?_) (fun h => absurd h (by rw [hg]; decide))
  refine z_aload_n C dX6_bats_25 rfl (show zlk _ 0 = some (.ref (ad 0)) from rfl) ?_
  refine z_callVv C (As := []) (rest := []) (c_X6_remember l θ ad n g r hu) gX6_bats_X6_remember rfl 0 (by decide +kernel) (by decide) (by decide) 0 rfl rfl rfl rfl rfl (Nat.le_of_ble_eq_true rfl) dX6_bats_26 ?_
  rintro _ rfl
  refine z_X (Y := MW θ ad (nv (n 0) (n 1) (n 3) (n 5) (n 8) (n 10) (n 12) (n 13) (n 14) (n 15) (n 16) (n 18) (n 20) (m_u (n 22)) (n 27)) g (rv (r 2) (r 4) (r 6) (r 7) (r 9) (r 17) (r 19) (r 21) (m_pst (r 23) (r 7) (n 22)) (r 24) (r 25) (r 26) (r 28) (r 29) (r 30) (r 31) (r 32))) (mw_eq rfl rfl rfl rfl rfl rfl rfl rfl rfl rfl rfl rfl rfl rfl rfl rfl rfl rfl rfl rfl rfl rfl rfl rfl rfl rfl rfl rfl rfl rfl rfl rfl) ?_
  refine z_aload_n C dX6_bats_29 rfl (show zlk _ 0 = some (.ref (ad 0)) from rfl) ?_
  refine z_mg C hin 7 (by decide) (by decide +kernel) (v := .ref (ad 7)) mf_7 dX6_bats_30 ?_
  refine z_iconst C (v := nI 2) dX6_bats_33 (by decide) ?_
  refine z_iald C (f := (r 7)) 4 mrv_7 2 rfl (by omega) (by decide) dX6_bats_34 ?_
  refine z_istore_n C [(2, .int ((r 7) 2)), (0, .ref (ad 0)), (1, .int x)] dX6_bats_35 rfl (by decide) rfl ?_
  refine z_aload_n C dX6_bats_36 rfl (show zlk _ 0 = some (.ref (ad 0)) from rfl) ?_
  refine z_mg C hin 7 (by decide) (by decide +kernel) (v := .ref (ad 7)) mf_7 dX6_bats_37 ?_
  refine z_iconst C (v := nI 2) dX6_bats_40 (by decide) ?_
  refine z_iload_n C dX6_bats_41 rfl (show zlk _ 1 = some (.int x) from rfl) ?_
  refine z_iast C (f := (r 7)) 4 mrv_7 2 rfl (by omega) (by decide) _ msv_7 dX6_bats_42 ?_
  refine z_iload_n C dX6_bats_43 rfl (show zlk _ 2 = some (.int ((r 7) 2)) from rfl) ?_
  exact E _ _ _ _ (⟨rfl, (mw_eq rfl rfl rfl rfl rfl rfl rfl rfl rfl rfl rfl rfl rfl rfl rfl rfl rfl rfl rfl rfl rfl rfl rfl rfl rfl rfl rfl rfl rfl rfl rfl rfl)⟩) (rfl) dX6_bats_44

set_option maxHeartbeats 4000000 in
set_option maxRecDepth 100000 in
theorem c_X6_eye_1 (l : Launch) (θ : zH) (ad : Nat → Nat) (n : Nat → Nat) (g : Int32) (r : Nat → Nat → Int32) (x : Int32) (hx : okN x 30 = false) : cI l yX6_eye wsX6_eye 2 θ [.ref (ad 0), .int x] (MW θ ad n g r) (fun r0 Y => r0 = (-1000000002) ∧ Y = MW θ ad n g r) := by
  refine z_cI (by decide) rfl rfl (Nat.le_of_ble_eq_true rfl) (lv := [(0, .ref (ad 0)), (1, .int x)]) rfl (fun κ C E => ?_)
  refine z_iload_n C dX6_eye_0 rfl (show zlk _ 1 = some (.int x) from rfl) ?_
  refine z_i2l C dX6_eye_1 ?_
  refine z_lconst C (v := 0) dX6_eye_2 (by decide) ?_
  refine z_ldc2 C (v := 29) (by decide +kernel) dX6_eye_3 ?_
  refine z_callSi C (As := [.long (Int32.toInt64 x), .long 0, .long (29)]) (rest := []) (c_X6_in l θ _ (Int32.toInt64 x) 0 (29)) gX6_eye_X6_in rfl 3 (by decide +kernel) (by decide) (by decide) rfl rfl (Nat.le_of_ble_eq_true rfl) dX6_eye_6 ?_
  rintro _ _ ⟨rfl, rfl⟩
  refine z_top (v' := .int (bI (okN x 30))) (by rw [m_in_lit (N := 30) (by decide)]) ?_
  refine z_if_neB C 15 dX6_eye_9 (by decide) (fun h => absurd h (by rw [hx]; decide)) (fun _ => ?_)
  refine z_ldc C (v := (-1000000002)) (by decide +kernel) dX6_eye_12 ?_
  exact E _ _ _ _ (⟨rfl, rfl⟩) (rfl) dX6_eye_14

set_option maxHeartbeats 4000000 in
set_option maxRecDepth 100000 in
theorem c_X6_eye_2 (l : Launch) (θ : zH) (ad : Nat → Nat) (n : Nat → Nat) (g : Int32) (r : Nat → Nat → Int32) (x : Int32) (hx : okN x 30 = true) (hg : decide (0 < n 0) = false) (h0 : n 0 ≤ 30) : cI l yX6_eye wsX6_eye 2 θ [.ref (ad 0), .int x] (MW θ ad n g r) (fun r0 Y => r0 = (-1000000003) ∧ Y = MW θ ad n g r) := by
  refine z_cI (by decide) rfl rfl (Nat.le_of_ble_eq_true rfl) (lv := [(0, .ref (ad 0)), (1, .int x)]) rfl (fun κ C E => ?_)
  refine z_iload_n C dX6_eye_0 rfl (show zlk _ 1 = some (.int x) from rfl) ?_
  refine z_i2l C dX6_eye_1 ?_
  refine z_lconst C (v := 0) dX6_eye_2 (by decide) ?_
  refine z_ldc2 C (v := 29) (by decide +kernel) dX6_eye_3 ?_
  refine z_callSi C (As := [.long (Int32.toInt64 x), .long 0, .long (29)]) (rest := []) (c_X6_in l θ _ (Int32.toInt64 x) 0 (29)) gX6_eye_X6_in rfl 3 (by decide +kernel) (by decide) (by decide) rfl rfl (Nat.le_of_ble_eq_true rfl) dX6_eye_6 ?_
  rintro _ _ ⟨rfl, rfl⟩
  refine z_top (v' := .int (bI (okN x 30))) (by rw [m_in_lit (N := 30) (by decide)]) ?_
  refine z_if_neB C 15 dX6_eye_9 (by decide) (fun _ => ?_) (fun h => absurd h (by rw [hx]; decide))
  refine z_aload_n C dX6_eye_15 rfl (show zlk _ 0 = some (.ref (ad 0)) from rfl) ?_
  refine z_callVi C (As := []) (rest := []) (c_X6_isCapital l θ ad n g r (by omega)) gX6_eye_X6_isCapital rfl 0 (by decide +kernel) (by decide) (by decide) 0 rfl rfl rfl rfl rfl (Nat.le_of_ble_eq_true rfl) dX6_eye_16 ?_
  rintro _ _ ⟨rfl, rfl⟩
  refine z_if_neB C 25 dX6_eye_19 (by decide) (fun h => absurd h (by rw [hg]; decide)) (fun _ => ?_)
  refine z_ldc C (v := (-1000000003)) (by decide +kernel) dX6_eye_22 ?_
  exact E _ _ _ _ (⟨rfl, rfl⟩) (rfl) dX6_eye_24

set_option maxHeartbeats 4000000 in
set_option maxRecDepth 100000 in
theorem c_X6_eye_3 (l : Launch) (θ : zH) (ad : Nat → Nat) (n : Nat → Nat) (g : Int32) (r : Nat → Nat → Int32) (x : Int32) (hx : okN x 30 = true) (hg : decide (0 < n 0) = true) (h0 : n 0 ≤ 30) (hu : n 22 ≤ 16) : cI l yX6_eye wsX6_eye 2 θ [.ref (ad 0), .int x] (MW θ ad n g r) (fun r0 Y => r0 = (r 7 3 ||| (nI 1 <<< (x &&& 31))) ∧ Y = MW θ ad (nv (n 0) (n 1) (n 3) (n 5) (n 8) (n 10) (n 12) (n 13) (n 14) (n 15) (n 16) (n 18) (n 20) (m_u (n 22)) (n 27)) g (rv (r 2) (r 4) (r 6) (upd (r 7) 3 (r 7 3 ||| (nI 1 <<< (x &&& 31)))) (r 9) (r 17) (r 19) (r 21) (m_pst (r 23) (r 7) (n 22)) (r 24) (r 25) (r 26) (r 28) (r 29) (r 30) (r 31) (r 32))) := by
  refine z_cI (by decide) rfl rfl (Nat.le_of_ble_eq_true rfl) (lv := [(0, .ref (ad 0)), (1, .int x)]) rfl (fun κ C E => ?_)
  have hin : ∀ w ∈ wsX60, w ∈ wsX6_eye := by decide +kernel
  refine z_iload_n C dX6_eye_0 rfl (show zlk _ 1 = some (.int x) from rfl) ?_
  refine z_i2l C dX6_eye_1 ?_
  refine z_lconst C (v := 0) dX6_eye_2 (by decide) ?_
  refine z_ldc2 C (v := 29) (by decide +kernel) dX6_eye_3 ?_
  refine z_callSi C (As := [.long (Int32.toInt64 x), .long 0, .long (29)]) (rest := []) (c_X6_in l θ _ (Int32.toInt64 x) 0 (29)) gX6_eye_X6_in rfl 3 (by decide +kernel) (by decide) (by decide) rfl rfl (Nat.le_of_ble_eq_true rfl) dX6_eye_6 ?_
  rintro _ _ ⟨rfl, rfl⟩
  refine z_top (v' := .int (bI (okN x 30))) (by rw [m_in_lit (N := 30) (by decide)]) ?_
  refine z_if_neB C 15 dX6_eye_9 (by decide) (fun _ => ?_) (fun h => absurd h (by rw [hx]; decide))
  refine z_aload_n C dX6_eye_15 rfl (show zlk _ 0 = some (.ref (ad 0)) from rfl) ?_
  refine z_callVi C (As := []) (rest := []) (c_X6_isCapital l θ ad n g r (by omega)) gX6_eye_X6_isCapital rfl 0 (by decide +kernel) (by decide) (by decide) 0 rfl rfl rfl rfl rfl (Nat.le_of_ble_eq_true rfl) dX6_eye_16 ?_
  rintro _ _ ⟨rfl, rfl⟩
  refine z_if_neB C 25 dX6_eye_19 (by decide) (fun _ => ?_) (fun h => absurd h (by rw [hg]; decide))
  refine z_aload_n C dX6_eye_25 rfl (show zlk _ 0 = some (.ref (ad 0)) from rfl) ?_
  refine z_callVv C (As := []) (rest := []) (c_X6_remember l θ ad n g r hu) gX6_eye_X6_remember rfl 0 (by decide +kernel) (by decide) (by decide) 0 rfl rfl rfl rfl rfl (Nat.le_of_ble_eq_true rfl) dX6_eye_26 ?_
  rintro _ rfl
  refine z_X (Y := MW θ ad (nv (n 0) (n 1) (n 3) (n 5) (n 8) (n 10) (n 12) (n 13) (n 14) (n 15) (n 16) (n 18) (n 20) (m_u (n 22)) (n 27)) g (rv (r 2) (r 4) (r 6) (r 7) (r 9) (r 17) (r 19) (r 21) (m_pst (r 23) (r 7) (n 22)) (r 24) (r 25) (r 26) (r 28) (r 29) (r 30) (r 31) (r 32))) (mw_eq rfl rfl rfl rfl rfl rfl rfl rfl rfl rfl rfl rfl rfl rfl rfl rfl rfl rfl rfl rfl rfl rfl rfl rfl rfl rfl rfl rfl rfl rfl rfl rfl) ?_
  refine z_aload_n C dX6_eye_29 rfl (show zlk _ 0 = some (.ref (ad 0)) from rfl) ?_
  refine z_mg C hin 7 (by decide) (by decide +kernel) (v := .ref (ad 7)) mf_7 dX6_eye_30 ?_
  refine z_iconst C (v := nI 3) dX6_eye_33 (by decide) ?_
  refine z_dup2 C dX6_eye_34 rfl rfl ?_
  refine z_iald C (f := (r 7)) 4 mrv_7 3 rfl (by omega) (by decide) dX6_eye_35 ?_
  refine z_iconst C (v := nI 1) dX6_eye_36 (by decide) ?_
  refine z_iload_n C dX6_eye_37 rfl (show zlk _ 1 = some (.int x) from rfl) ?_
  refine z_ishl C dX6_eye_38 ?_
  refine z_ior C dX6_eye_39 ?_
  refine z_iast C (f := (r 7)) 4 mrv_7 3 rfl (by omega) (by decide) _ msv_7 dX6_eye_40 ?_
  refine z_aload_n C dX6_eye_41 rfl (show zlk _ 0 = some (.ref (ad 0)) from rfl) ?_
  refine z_mg C hin 7 (by decide) (by decide +kernel) (v := .ref (ad 7)) mf_7 dX6_eye_42 ?_
  refine z_iconst C (v := nI 3) dX6_eye_45 (by decide) ?_
  refine z_iald C (f := (upd (r 7) 3 (((r 7) 3) ||| ((nI 1) <<< (x &&& 31))))) 4 mrv_7 3 rfl (by omega) (by decide) dX6_eye_46 ?_
  exact E _ _ _ _ (⟨rfl, (mw_eq rfl rfl rfl rfl rfl rfl rfl rfl rfl rfl rfl rfl rfl rfl rfl rfl rfl rfl rfl rfl rfl rfl rfl rfl rfl rfl rfl rfl rfl rfl rfl rfl)⟩) (rfl) dX6_eye_47

set_option maxHeartbeats 4000000 in
set_option maxRecDepth 100000 in
theorem c_X6_rain_1 (l : Launch) (θ : zH) (ad : Nat → Nat) (n : Nat → Nat) (g : Int32) (r : Nat → Nat → Int32) (x : Int32) (hg : decide (0 < n 0) = false) (h0 : n 0 ≤ 30) : cI l yX6_rain wsX6_rain 2 θ [.ref (ad 0), .int x] (MW θ ad n g r) (fun r0 Y => r0 = (-1000000003) ∧ Y = MW θ ad n g r) := by
  refine z_cI (by decide) rfl rfl (Nat.le_of_ble_eq_true rfl) (lv := [(0, .ref (ad 0)), (1, .int x)]) rfl (fun κ C E => ?_)
  refine z_aload_n C dX6_rain_0 rfl (show zlk _ 0 = some (.ref (ad 0)) from rfl) ?_
  refine z_callVi C (As := []) (rest := []) (c_X6_isCapital l θ ad n g r (by omega)) gX6_rain_X6_isCapital rfl 0 (by decide +kernel) (by decide) (by decide) 0 rfl rfl rfl rfl rfl (Nat.le_of_ble_eq_true rfl) dX6_rain_1 ?_
  rintro _ _ ⟨rfl, rfl⟩
  refine z_if_neB C 10 dX6_rain_4 (by decide) (fun h => absurd h (by rw [hg]; decide)) (fun _ => ?_)
  refine z_ldc C (v := (-1000000003)) (by decide +kernel) dX6_rain_7 ?_
  exact E _ _ _ _ (⟨rfl, rfl⟩) (rfl) dX6_rain_9

set_option maxHeartbeats 4000000 in
set_option maxRecDepth 100000 in
theorem c_X6_rain_20 (l : Launch) (θ : zH) (ad : Nat → Nat) (n : Nat → Nat) (g : Int32) (r : Nat → Nat → Int32)  (hg : decide (0 < n 0) = true) (h0 : n 0 ≤ 30) (hu : n 22 ≤ 16) : cI l yX6_rain wsX6_rain 2 θ [.ref (ad 0), .int (nI 0)] (MW θ ad n g r) (fun r0 Y => r0 = r 7 4 ∧ Y = MW θ ad (nv (n 0) (n 1) (n 3) (n 5) (n 8) (n 10) (n 12) (n 13) (n 14) (n 15) (n 16) (n 18) (n 20) (m_u (n 22)) (n 27)) g (rv (r 2) (r 4) (r 6) (upd (r 7) 4 (nI 0)) (r 9) (r 17) (r 19) (r 21) (m_pst (r 23) (r 7) (n 22)) (r 24) (r 25) (r 26) (r 28) (r 29) (r 30) (r 31) (r 32))) := by
  refine z_cI (by decide) rfl rfl (Nat.le_of_ble_eq_true rfl) (lv := [(0, .ref (ad 0)), (1, .int (nI 0))]) rfl (fun κ C E => ?_)
  have hin : ∀ w ∈ wsX60, w ∈ wsX6_rain := by decide +kernel
  refine z_aload_n C dX6_rain_0 rfl (show zlk _ 0 = some (.ref (ad 0)) from rfl) ?_
  refine z_callVi C (As := []) (rest := []) (c_X6_isCapital l θ ad n g r (by omega)) gX6_rain_X6_isCapital rfl 0 (by decide +kernel) (by decide) (by decide) 0 rfl rfl rfl rfl rfl (Nat.le_of_ble_eq_true rfl) dX6_rain_1 ?_
  rintro _ _ ⟨rfl, rfl⟩
  refine z_if_neB C 10 dX6_rain_4 (by decide) (fun _ => ?_) (fun h => absurd h (by rw [hg]; decide))
  refine z_aload_n C dX6_rain_10 rfl (show zlk _ 0 = some (.ref (ad 0)) from rfl) ?_
  refine z_callVv C (As := []) (rest := []) (c_X6_remember l θ ad n g r hu) gX6_rain_X6_remember rfl 0 (by decide +kernel) (by decide) (by decide) 0 rfl rfl rfl rfl rfl (Nat.le_of_ble_eq_true rfl) dX6_rain_11 ?_
  rintro _ rfl
  refine z_X (Y := MW θ ad (nv (n 0) (n 1) (n 3) (n 5) (n 8) (n 10) (n 12) (n 13) (n 14) (n 15) (n 16) (n 18) (n 20) (m_u (n 22)) (n 27)) g (rv (r 2) (r 4) (r 6) (r 7) (r 9) (r 17) (r 19) (r 21) (m_pst (r 23) (r 7) (n 22)) (r 24) (r 25) (r 26) (r 28) (r 29) (r 30) (r 31) (r 32))) (mw_eq rfl rfl rfl rfl rfl rfl rfl rfl rfl rfl rfl rfl rfl rfl rfl rfl rfl rfl rfl rfl rfl rfl rfl rfl rfl rfl rfl rfl rfl rfl rfl rfl) ?_
  refine z_aload_n C dX6_rain_14 rfl (show zlk _ 0 = some (.ref (ad 0)) from rfl) ?_
  refine z_mg C hin 7 (by decide) (by decide +kernel) (v := .ref (ad 7)) mf_7 dX6_rain_15 ?_
  refine z_iconst C (v := nI 4) dX6_rain_18 (by decide) ?_
  refine z_iald C (f := (r 7)) 4 mrv_7 4 rfl (by omega) (by decide) dX6_rain_19 ?_
  refine z_istore_n C [(2, .int ((r 7) 4)), (0, .ref (ad 0)), (1, .int (nI 0))] dX6_rain_20 rfl (by decide) rfl ?_
  refine z_aload_n C dX6_rain_21 rfl (show zlk _ 0 = some (.ref (ad 0)) from rfl) ?_
  refine z_mg C hin 7 (by decide) (by decide +kernel) (v := .ref (ad 7)) mf_7 dX6_rain_22 ?_
  refine z_iconst C (v := nI 4) dX6_rain_25 (by decide) ?_
  refine z_iload_n C dX6_rain_26 rfl (show zlk _ 1 = some (.int (nI 0)) from rfl) ?_
  refine z_if_eqN C 34 dX6_rain_27 (by decide) (by decide) (fun _ => ?_) (fun h => absurd h (by decide))
  refine z_iconst C (v := nI 0) dX6_rain_34 (by decide) ?_
  refine z_iast C (f := (r 7)) 4 mrv_7 4 rfl (by omega) (by decide) _ msv_7 dX6_rain_35 ?_
  refine z_iload_n C dX6_rain_36 rfl (show zlk _ 2 = some (.int ((r 7) 4)) from rfl) ?_
  exact E _ _ _ _ (⟨rfl, (mw_eq rfl rfl rfl rfl rfl rfl rfl rfl rfl rfl rfl rfl rfl rfl rfl rfl rfl rfl rfl rfl rfl rfl rfl rfl rfl rfl rfl rfl rfl rfl rfl rfl)⟩) (rfl) dX6_rain_37

set_option maxHeartbeats 4000000 in
set_option maxRecDepth 100000 in
theorem c_X6_rain_21 (l : Launch) (θ : zH) (ad : Nat → Nat) (n : Nat → Nat) (g : Int32) (r : Nat → Nat → Int32)  (hg : decide (0 < n 0) = true) (h0 : n 0 ≤ 30) (hu : n 22 ≤ 16) : cI l yX6_rain wsX6_rain 2 θ [.ref (ad 0), .int (nI 1)] (MW θ ad n g r) (fun r0 Y => r0 = r 7 4 ∧ Y = MW θ ad (nv (n 0) (n 1) (n 3) (n 5) (n 8) (n 10) (n 12) (n 13) (n 14) (n 15) (n 16) (n 18) (n 20) (m_u (n 22)) (n 27)) g (rv (r 2) (r 4) (r 6) (upd (r 7) 4 (nI 1)) (r 9) (r 17) (r 19) (r 21) (m_pst (r 23) (r 7) (n 22)) (r 24) (r 25) (r 26) (r 28) (r 29) (r 30) (r 31) (r 32))) := by
  refine z_cI (by decide) rfl rfl (Nat.le_of_ble_eq_true rfl) (lv := [(0, .ref (ad 0)), (1, .int (nI 1))]) rfl (fun κ C E => ?_)
  have hin : ∀ w ∈ wsX60, w ∈ wsX6_rain := by decide +kernel
  refine z_aload_n C dX6_rain_0 rfl (show zlk _ 0 = some (.ref (ad 0)) from rfl) ?_
  refine z_callVi C (As := []) (rest := []) (c_X6_isCapital l θ ad n g r (by omega)) gX6_rain_X6_isCapital rfl 0 (by decide +kernel) (by decide) (by decide) 0 rfl rfl rfl rfl rfl (Nat.le_of_ble_eq_true rfl) dX6_rain_1 ?_
  rintro _ _ ⟨rfl, rfl⟩
  refine z_if_neB C 10 dX6_rain_4 (by decide) (fun _ => ?_) (fun h => absurd h (by rw [hg]; decide))
  refine z_aload_n C dX6_rain_10 rfl (show zlk _ 0 = some (.ref (ad 0)) from rfl) ?_
  refine z_callVv C (As := []) (rest := []) (c_X6_remember l θ ad n g r hu) gX6_rain_X6_remember rfl 0 (by decide +kernel) (by decide) (by decide) 0 rfl rfl rfl rfl rfl (Nat.le_of_ble_eq_true rfl) dX6_rain_11 ?_
  rintro _ rfl
  refine z_X (Y := MW θ ad (nv (n 0) (n 1) (n 3) (n 5) (n 8) (n 10) (n 12) (n 13) (n 14) (n 15) (n 16) (n 18) (n 20) (m_u (n 22)) (n 27)) g (rv (r 2) (r 4) (r 6) (r 7) (r 9) (r 17) (r 19) (r 21) (m_pst (r 23) (r 7) (n 22)) (r 24) (r 25) (r 26) (r 28) (r 29) (r 30) (r 31) (r 32))) (mw_eq rfl rfl rfl rfl rfl rfl rfl rfl rfl rfl rfl rfl rfl rfl rfl rfl rfl rfl rfl rfl rfl rfl rfl rfl rfl rfl rfl rfl rfl rfl rfl rfl) ?_
  refine z_aload_n C dX6_rain_14 rfl (show zlk _ 0 = some (.ref (ad 0)) from rfl) ?_
  refine z_mg C hin 7 (by decide) (by decide +kernel) (v := .ref (ad 7)) mf_7 dX6_rain_15 ?_
  refine z_iconst C (v := nI 4) dX6_rain_18 (by decide) ?_
  refine z_iald C (f := (r 7)) 4 mrv_7 4 rfl (by omega) (by decide) dX6_rain_19 ?_
  refine z_istore_n C [(2, .int ((r 7) 4)), (0, .ref (ad 0)), (1, .int (nI 1))] dX6_rain_20 rfl (by decide) rfl ?_
  refine z_aload_n C dX6_rain_21 rfl (show zlk _ 0 = some (.ref (ad 0)) from rfl) ?_
  refine z_mg C hin 7 (by decide) (by decide +kernel) (v := .ref (ad 7)) mf_7 dX6_rain_22 ?_
  refine z_iconst C (v := nI 4) dX6_rain_25 (by decide) ?_
  refine z_iload_n C dX6_rain_26 rfl (show zlk _ 1 = some (.int (nI 1)) from rfl) ?_
  refine z_if_eqN C 34 dX6_rain_27 (by decide) (by decide) (fun h => absurd h (by decide)) (fun _ => ?_)
  refine z_iconst C (v := nI 1) dX6_rain_30 (by decide) ?_
  refine z_goto C 35 dX6_rain_31 (by decide) ?_
  refine z_iast C (f := (r 7)) 4 mrv_7 4 rfl (by omega) (by decide) _ msv_7 dX6_rain_35 ?_
  refine z_iload_n C dX6_rain_36 rfl (show zlk _ 2 = some (.int ((r 7) 4)) from rfl) ?_
  exact E _ _ _ _ (⟨rfl, (mw_eq rfl rfl rfl rfl rfl rfl rfl rfl rfl rfl rfl rfl rfl rfl rfl rfl rfl rfl rfl rfl rfl rfl rfl rfl rfl rfl rfl rfl rfl rfl rfl rfl)⟩) (rfl) dX6_rain_37

set_option maxHeartbeats 4000000 in
set_option maxRecDepth 100000 in
theorem c_X6_smoke_1 (l : Launch) (θ : zH) (ad : Nat → Nat) (n : Nat → Nat) (g : Int32) (r : Nat → Nat → Int32) (w x : Int32) (hW : n 3 ≤ 5) (hw : okN w (n 3) = false) : cI l yX6_smoke wsX6_smoke 2 θ [.ref (ad 0), .int w, .int x] (MW θ ad n g r) (fun r0 Y => r0 = (-1000000001) ∧ Y = MW θ ad n g r) := by
  refine z_cI (by decide) rfl rfl (Nat.le_of_ble_eq_true rfl) (lv := [(0, .ref (ad 0)), (1, .int w), (2, .int x)]) rfl (fun κ C E => ?_)
  refine z_aload_n C dX6_smoke_0 rfl (show zlk _ 0 = some (.ref (ad 0)) from rfl) ?_
  refine z_iload_n C dX6_smoke_1 rfl (show zlk _ 1 = some (.int w) from rfl) ?_
  refine z_callVi C (As := [.int w]) (rest := []) (c_X6_isWindow l θ ad n g r w (by omega)) gX6_smoke_X6_isWindow rfl 1 (by decide +kernel) (by decide) (by decide) 0 rfl rfl rfl rfl rfl (Nat.le_of_ble_eq_true rfl) dX6_smoke_2 ?_
  rintro _ _ ⟨rfl, rfl⟩
  refine z_if_neB C 11 dX6_smoke_5 (by decide) (fun h => absurd h (by rw [hw]; decide)) (fun _ => ?_)
  refine z_ldc C (v := (-1000000001)) (by decide +kernel) dX6_smoke_8 ?_
  exact E _ _ _ _ (⟨rfl, rfl⟩) (rfl) dX6_smoke_10

set_option maxHeartbeats 4000000 in
set_option maxRecDepth 100000 in
theorem c_X6_smoke_21 (l : Launch) (θ : zH) (ad : Nat → Nat) (n : Nat → Nat) (g : Int32) (r : Nat → Nat → Int32) (w : Nat) (hW : n 3 ≤ 5) (hw : w < n 3) (hu : n 22 ≤ 16) : cI l yX6_smoke wsX6_smoke 2 θ [.ref (ad 0), .int (nI w), .int (nI 1)] (MW θ ad n g r) (fun r0 Y => r0 = ((r 7 5) >>> (nI w &&& 31)) &&& nI 1 ∧ Y = MW θ ad (nv (n 0) (n 1) (n 3) (n 5) (n 8) (n 10) (n 12) (n 13) (n 14) (n 15) (n 16) (n 18) (n 20) (m_u (n 22)) (n 27)) g (rv (r 2) (r 4) (r 6) (upd (r 7) 5 (r 7 5 ||| (nI 1 <<< (nI w &&& 31)))) (r 9) (r 17) (r 19) (r 21) (m_pst (r 23) (r 7) (n 22)) (r 24) (r 25) (r 26) (r 28) (r 29) (r 30) (r 31) (r 32))) := by
  refine z_cI (by decide) rfl rfl (Nat.le_of_ble_eq_true rfl) (lv := [(0, .ref (ad 0)), (1, .int (nI w)), (2, .int (nI 1))]) rfl (fun κ C E => ?_)
  have hin : ∀ w ∈ wsX60, w ∈ wsX6_smoke := by decide +kernel
  refine z_aload_n C dX6_smoke_0 rfl (show zlk _ 0 = some (.ref (ad 0)) from rfl) ?_
  refine z_iload_n C dX6_smoke_1 rfl (show zlk _ 1 = some (.int (nI w)) from rfl) ?_
  refine z_callVi C (As := [.int (nI w)]) (rest := []) (c_X6_isWindow l θ ad n g r (nI w) (by omega)) gX6_smoke_X6_isWindow rfl 1 (by decide +kernel) (by decide) (by decide) 0 rfl rfl rfl rfl rfl (Nat.le_of_ble_eq_true rfl) dX6_smoke_2 ?_
  rintro _ _ ⟨rfl, rfl⟩
  refine z_if_neB C 11 dX6_smoke_5 (by decide) (fun _ => ?_) (fun h => absurd h (by rw [okN_lt hw (by omega)]; decide))
  refine z_aload_n C dX6_smoke_11 rfl (show zlk _ 0 = some (.ref (ad 0)) from rfl) ?_
  refine z_callVv C (As := []) (rest := []) (c_X6_remember l θ ad n g r hu) gX6_smoke_X6_remember rfl 0 (by decide +kernel) (by decide) (by decide) 0 rfl rfl rfl rfl rfl (Nat.le_of_ble_eq_true rfl) dX6_smoke_12 ?_
  rintro _ rfl
  refine z_X (Y := MW θ ad (nv (n 0) (n 1) (n 3) (n 5) (n 8) (n 10) (n 12) (n 13) (n 14) (n 15) (n 16) (n 18) (n 20) (m_u (n 22)) (n 27)) g (rv (r 2) (r 4) (r 6) (r 7) (r 9) (r 17) (r 19) (r 21) (m_pst (r 23) (r 7) (n 22)) (r 24) (r 25) (r 26) (r 28) (r 29) (r 30) (r 31) (r 32))) (mw_eq rfl rfl rfl rfl rfl rfl rfl rfl rfl rfl rfl rfl rfl rfl rfl rfl rfl rfl rfl rfl rfl rfl rfl rfl rfl rfl rfl rfl rfl rfl rfl rfl) ?_
  refine z_aload_n C dX6_smoke_15 rfl (show zlk _ 0 = some (.ref (ad 0)) from rfl) ?_
  refine z_mg C hin 7 (by decide) (by decide +kernel) (v := .ref (ad 7)) mf_7 dX6_smoke_16 ?_
  refine z_iconst C (v := nI 5) dX6_smoke_19 (by decide) ?_
  refine z_iald C (f := (r 7)) 4 mrv_7 5 rfl (by omega) (by decide) dX6_smoke_20 ?_
  refine z_iload_n C dX6_smoke_21 rfl (show zlk _ 1 = some (.int (nI w)) from rfl) ?_
  refine z_ishr C dX6_smoke_22 ?_
  refine z_iconst C (v := nI 1) dX6_smoke_23 (by decide) ?_
  refine z_iand C dX6_smoke_24 ?_
  refine z_istore_n C [(3, .int ((((r 7) 5) >>> ((nI w) &&& 31)) &&& (nI 1))), (0, .ref (ad 0)), (1, .int (nI w)), (2, .int (nI 1))] dX6_smoke_25 rfl (by decide) rfl ?_
  refine z_aload_n C dX6_smoke_26 rfl (show zlk _ 0 = some (.ref (ad 0)) from rfl) ?_
  refine z_mg C hin 7 (by decide) (by decide +kernel) (v := .ref (ad 7)) mf_7 dX6_smoke_27 ?_
  refine z_iconst C (v := nI 5) dX6_smoke_30 (by decide) ?_
  refine z_iload_n C dX6_smoke_31 rfl (show zlk _ 2 = some (.int (nI 1)) from rfl) ?_
  refine z_if_eqN C 48 dX6_smoke_32 (by decide) (by decide) (fun h => absurd h (by decide)) (fun _ => ?_)
  refine z_aload_n C dX6_smoke_35 rfl (show zlk _ 0 = some (.ref (ad 0)) from rfl) ?_
  refine z_mg C hin 7 (by decide) (by decide +kernel) (v := .ref (ad 7)) mf_7 dX6_smoke_36 ?_
  refine z_iconst C (v := nI 5) dX6_smoke_39 (by decide) ?_
  refine z_iald C (f := (r 7)) 4 mrv_7 5 rfl (by omega) (by decide) dX6_smoke_40 ?_
  refine z_iconst C (v := nI 1) dX6_smoke_41 (by decide) ?_
  refine z_iload_n C dX6_smoke_42 rfl (show zlk _ 1 = some (.int (nI w)) from rfl) ?_
  refine z_ishl C dX6_smoke_43 ?_
  refine z_ior C dX6_smoke_44 ?_
  refine z_goto C 60 dX6_smoke_45 (by decide) ?_
  refine z_iast C (f := (r 7)) 4 mrv_7 5 rfl (by omega) (by decide) _ msv_7 dX6_smoke_60 ?_
  refine z_iload_n C dX6_smoke_61 rfl (show zlk _ 3 = some (.int ((((r 7) 5) >>> ((nI w) &&& 31)) &&& (nI 1))) from rfl) ?_
  exact E _ _ _ _ (⟨rfl, (mw_eq rfl rfl rfl rfl rfl rfl rfl rfl rfl rfl rfl rfl rfl rfl rfl rfl rfl rfl rfl rfl rfl rfl rfl rfl rfl rfl rfl rfl rfl rfl rfl rfl)⟩) (rfl) dX6_smoke_62

set_option maxHeartbeats 4000000 in
set_option maxRecDepth 100000 in
theorem c_X6_smoke_20 (l : Launch) (θ : zH) (ad : Nat → Nat) (n : Nat → Nat) (g : Int32) (r : Nat → Nat → Int32) (w : Nat) (hW : n 3 ≤ 5) (hw : w < n 3) (hu : n 22 ≤ 16) : cI l yX6_smoke wsX6_smoke 2 θ [.ref (ad 0), .int (nI w), .int (nI 0)] (MW θ ad n g r) (fun r0 Y => r0 = ((r 7 5) >>> (nI w &&& 31)) &&& nI 1 ∧ Y = MW θ ad (nv (n 0) (n 1) (n 3) (n 5) (n 8) (n 10) (n 12) (n 13) (n 14) (n 15) (n 16) (n 18) (n 20) (m_u (n 22)) (n 27)) g (rv (r 2) (r 4) (r 6) (upd (r 7) 5 (r 7 5 &&& ((nI 1 <<< (nI w &&& 31)) ^^^ (-1)))) (r 9) (r 17) (r 19) (r 21) (m_pst (r 23) (r 7) (n 22)) (r 24) (r 25) (r 26) (r 28) (r 29) (r 30) (r 31) (r 32))) := by
  refine z_cI (by decide) rfl rfl (Nat.le_of_ble_eq_true rfl) (lv := [(0, .ref (ad 0)), (1, .int (nI w)), (2, .int (nI 0))]) rfl (fun κ C E => ?_)
  have hin : ∀ w ∈ wsX60, w ∈ wsX6_smoke := by decide +kernel
  refine z_aload_n C dX6_smoke_0 rfl (show zlk _ 0 = some (.ref (ad 0)) from rfl) ?_
  refine z_iload_n C dX6_smoke_1 rfl (show zlk _ 1 = some (.int (nI w)) from rfl) ?_
  refine z_callVi C (As := [.int (nI w)]) (rest := []) (c_X6_isWindow l θ ad n g r (nI w) (by omega)) gX6_smoke_X6_isWindow rfl 1 (by decide +kernel) (by decide) (by decide) 0 rfl rfl rfl rfl rfl (Nat.le_of_ble_eq_true rfl) dX6_smoke_2 ?_
  rintro _ _ ⟨rfl, rfl⟩
  refine z_if_neB C 11 dX6_smoke_5 (by decide) (fun _ => ?_) (fun h => absurd h (by rw [okN_lt hw (by omega)]; decide))
  refine z_aload_n C dX6_smoke_11 rfl (show zlk _ 0 = some (.ref (ad 0)) from rfl) ?_
  refine z_callVv C (As := []) (rest := []) (c_X6_remember l θ ad n g r hu) gX6_smoke_X6_remember rfl 0 (by decide +kernel) (by decide) (by decide) 0 rfl rfl rfl rfl rfl (Nat.le_of_ble_eq_true rfl) dX6_smoke_12 ?_
  rintro _ rfl
  refine z_X (Y := MW θ ad (nv (n 0) (n 1) (n 3) (n 5) (n 8) (n 10) (n 12) (n 13) (n 14) (n 15) (n 16) (n 18) (n 20) (m_u (n 22)) (n 27)) g (rv (r 2) (r 4) (r 6) (r 7) (r 9) (r 17) (r 19) (r 21) (m_pst (r 23) (r 7) (n 22)) (r 24) (r 25) (r 26) (r 28) (r 29) (r 30) (r 31) (r 32))) (mw_eq rfl rfl rfl rfl rfl rfl rfl rfl rfl rfl rfl rfl rfl rfl rfl rfl rfl rfl rfl rfl rfl rfl rfl rfl rfl rfl rfl rfl rfl rfl rfl rfl) ?_
  refine z_aload_n C dX6_smoke_15 rfl (show zlk _ 0 = some (.ref (ad 0)) from rfl) ?_
  refine z_mg C hin 7 (by decide) (by decide +kernel) (v := .ref (ad 7)) mf_7 dX6_smoke_16 ?_
  refine z_iconst C (v := nI 5) dX6_smoke_19 (by decide) ?_
  refine z_iald C (f := (r 7)) 4 mrv_7 5 rfl (by omega) (by decide) dX6_smoke_20 ?_
  refine z_iload_n C dX6_smoke_21 rfl (show zlk _ 1 = some (.int (nI w)) from rfl) ?_
  refine z_ishr C dX6_smoke_22 ?_
  refine z_iconst C (v := nI 1) dX6_smoke_23 (by decide) ?_
  refine z_iand C dX6_smoke_24 ?_
  refine z_istore_n C [(3, .int ((((r 7) 5) >>> ((nI w) &&& 31)) &&& (nI 1))), (0, .ref (ad 0)), (1, .int (nI w)), (2, .int (nI 0))] dX6_smoke_25 rfl (by decide) rfl ?_
  refine z_aload_n C dX6_smoke_26 rfl (show zlk _ 0 = some (.ref (ad 0)) from rfl) ?_
  refine z_mg C hin 7 (by decide) (by decide +kernel) (v := .ref (ad 7)) mf_7 dX6_smoke_27 ?_
  refine z_iconst C (v := nI 5) dX6_smoke_30 (by decide) ?_
  refine z_iload_n C dX6_smoke_31 rfl (show zlk _ 2 = some (.int (nI 0)) from rfl) ?_
  refine z_if_eqN C 48 dX6_smoke_32 (by decide) (by decide) (fun _ => ?_) (fun h => absurd h (by decide))
  refine z_aload_n C dX6_smoke_48 rfl (show zlk _ 0 = some (.ref (ad 0)) from rfl) ?_
  refine z_mg C hin 7 (by decide) (by decide +kernel) (v := .ref (ad 7)) mf_7 dX6_smoke_49 ?_
  refine z_iconst C (v := nI 5) dX6_smoke_52 (by decide) ?_
  refine z_iald C (f := (r 7)) 4 mrv_7 5 rfl (by omega) (by decide) dX6_smoke_53 ?_
  refine z_iconst C (v := nI 1) dX6_smoke_54 (by decide) ?_
  refine z_iload_n C dX6_smoke_55 rfl (show zlk _ 1 = some (.int (nI w)) from rfl) ?_
  refine z_ishl C dX6_smoke_56 ?_
  refine z_iconst C (v := (-1)) dX6_smoke_57 (by decide) ?_
  refine z_ixor C dX6_smoke_58 ?_
  refine z_iand C dX6_smoke_59 ?_
  refine z_iast C (f := (r 7)) 4 mrv_7 5 rfl (by omega) (by decide) _ msv_7 dX6_smoke_60 ?_
  refine z_iload_n C dX6_smoke_61 rfl (show zlk _ 3 = some (.int ((((r 7) 5) >>> ((nI w) &&& 31)) &&& (nI 1))) from rfl) ?_
  exact E _ _ _ _ (⟨rfl, (mw_eq rfl rfl rfl rfl rfl rfl rfl rfl rfl rfl rfl rfl rfl rfl rfl rfl rfl rfl rfl rfl rfl rfl rfl rfl rfl rfl rfl rfl rfl rfl rfl rfl)⟩) (rfl) dX6_smoke_62

set_option maxHeartbeats 4000000 in
set_option maxRecDepth 100000 in
theorem c_X6_press_1 (l : Launch) (θ : zH) (ad : Nat → Nat) (n : Nat → Nat) (g : Int32) (r : Nat → Nat → Int32) (v w : Int32) (hv : okN v 4 = false) : cI l yX6_press wsX6_press 4 θ [.ref (ad 0), .int v, .int w] (MW θ ad n g r) (fun r0 Y => r0 = (-1000000001) ∧ Y = MW θ ad n g r) := by
  refine z_cI (by decide) rfl rfl (Nat.le_of_ble_eq_true rfl) (lv := [(0, .ref (ad 0)), (1, .int v), (2, .int w)]) rfl (fun κ C E => ?_)
  refine z_iload_n C dX6_press_0 rfl (show zlk _ 1 = some (.int v) from rfl) ?_
  refine z_i2l C dX6_press_1 ?_
  refine z_lconst C (v := 0) dX6_press_2 (by decide) ?_
  refine z_ldc2 C (v := 3) (by decide +kernel) dX6_press_3 ?_
  refine z_callSi C (As := [.long (Int32.toInt64 v), .long 0, .long (3)]) (rest := []) (c_X6_in l θ _ (Int32.toInt64 v) 0 (3)) gX6_press_X6_in rfl 3 (by decide +kernel) (by decide) (by decide) rfl rfl (Nat.le_of_ble_eq_true rfl) dX6_press_6 ?_
  rintro _ _ ⟨rfl, rfl⟩
  refine z_top (v' := .int (bI (okN v 4))) (by rw [m_in_lit (N := 4) (by decide)]) ?_
  refine z_if_eqB C 20 dX6_press_9 (by decide) (fun _ => ?_) (fun h => absurd h (by rw [hv]; decide))
  refine z_ldc C (v := (-1000000001)) (by decide +kernel) dX6_press_20 ?_
  exact E _ _ _ _ (⟨rfl, rfl⟩) (rfl) dX6_press_22

set_option maxHeartbeats 4000000 in
set_option maxRecDepth 100000 in
theorem c_X6_press_2 (l : Launch) (θ : zH) (ad : Nat → Nat) (n : Nat → Nat) (g : Int32) (r : Nat → Nat → Int32) (v w : Int32) (hW : n 3 ≤ 5) (hv : okN v 4 = true) (hw : okN w (n 3) = false) : cI l yX6_press wsX6_press 4 θ [.ref (ad 0), .int v, .int w] (MW θ ad n g r) (fun r0 Y => r0 = (-1000000001) ∧ Y = MW θ ad n g r) := by
  refine z_cI (by decide) rfl rfl (Nat.le_of_ble_eq_true rfl) (lv := [(0, .ref (ad 0)), (1, .int v), (2, .int w)]) rfl (fun κ C E => ?_)
  refine z_iload_n C dX6_press_0 rfl (show zlk _ 1 = some (.int v) from rfl) ?_
  refine z_i2l C dX6_press_1 ?_
  refine z_lconst C (v := 0) dX6_press_2 (by decide) ?_
  refine z_ldc2 C (v := 3) (by decide +kernel) dX6_press_3 ?_
  refine z_callSi C (As := [.long (Int32.toInt64 v), .long 0, .long (3)]) (rest := []) (c_X6_in l θ _ (Int32.toInt64 v) 0 (3)) gX6_press_X6_in rfl 3 (by decide +kernel) (by decide) (by decide) rfl rfl (Nat.le_of_ble_eq_true rfl) dX6_press_6 ?_
  rintro _ _ ⟨rfl, rfl⟩
  refine z_top (v' := .int (bI (okN v 4))) (by rw [m_in_lit (N := 4) (by decide)]) ?_
  refine z_if_eqB C 20 dX6_press_9 (by decide) (fun h => absurd h (by rw [hv]; decide)) (fun _ => ?_)
  refine z_aload_n C dX6_press_12 rfl (show zlk _ 0 = some (.ref (ad 0)) from rfl) ?_
  refine z_iload_n C dX6_press_13 rfl (show zlk _ 2 = some (.int w) from rfl) ?_
  refine z_callVi C (As := [.int w]) (rest := []) (c_X6_isWindow l θ ad n g r w (by omega)) gX6_press_X6_isWindow rfl 1 (by decide +kernel) (by decide) (by decide) 0 rfl rfl rfl rfl rfl (Nat.le_of_ble_eq_true rfl) dX6_press_14 ?_
  rintro _ _ ⟨rfl, rfl⟩
  refine z_if_neB C 23 dX6_press_17 (by decide) (fun h => absurd h (by rw [hw]; decide)) (fun _ => ?_)
  refine z_ldc C (v := (-1000000001)) (by decide +kernel) dX6_press_20 ?_
  exact E _ _ _ _ (⟨rfl, rfl⟩) (rfl) dX6_press_22

set_option maxHeartbeats 4000000 in
set_option maxRecDepth 100000 in
theorem c_X6_press_3 (l : Launch) (θ : zH) (ad : Nat → Nat) (n : Nat → Nat) (g : Int32) (r : Nat → Nat → Int32) (v w : Nat) (hW : n 3 ≤ 5) (hv : v < 4) (hw : w < n 3) (hS : n 1 ≤ 6) (h0 : n 0 ≤ 30) (hu : n 22 ≤ 16) : cI l yX6_press wsX6_press 4 θ [.ref (ad 0), .int (nI v), .int (nI w)] (MW θ ad n g r) (fun r0 Y => r0 = r 7 (17 + v) ∧ Y = MW θ ad (nv (n 0) (n 1) (n 3) (n 5) (n 8) (n 10) (n 12) (n 13) (n 14) (n 15) (n 16) (n 18) (n 20) (m_u (n 22)) (n 27)) g (rv (r 2) (r 4) (r 6) (upd (r 7) (17 + v) (m_dAt n r w)) (r 9) (r 17) (r 19) (r 21) (m_pst (r 23) (r 7) (n 22)) (r 24) (r 25) (r 26) (r 28) (r 29) (r 30) (r 31) (r 32))) := by
  refine z_cI (by decide) rfl rfl (Nat.le_of_ble_eq_true rfl) (lv := [(0, .ref (ad 0)), (1, .int (nI v)), (2, .int (nI w))]) rfl (fun κ C E => ?_)
  have hin : ∀ w ∈ wsX60, w ∈ wsX6_press := by decide +kernel
  refine z_iload_n C dX6_press_0 rfl (show zlk _ 1 = some (.int (nI v)) from rfl) ?_
  refine z_i2l C dX6_press_1 ?_
  refine z_lconst C (v := 0) dX6_press_2 (by decide) ?_
  refine z_ldc2 C (v := 3) (by decide +kernel) dX6_press_3 ?_
  refine z_callSi C (As := [.long (Int32.toInt64 (nI v)), .long 0, .long (3)]) (rest := []) (c_X6_in l θ _ (Int32.toInt64 (nI v)) 0 (3)) gX6_press_X6_in rfl 3 (by decide +kernel) (by decide) (by decide) rfl rfl (Nat.le_of_ble_eq_true rfl) dX6_press_6 ?_
  rintro _ _ ⟨rfl, rfl⟩
  refine z_top (v' := .int (bI (okN (nI v) 4))) (by rw [m_in_lit (N := 4) (by decide)]) ?_
  refine z_if_eqB C 20 dX6_press_9 (by decide) (fun h => absurd h (by rw [okN_lt hv (by decide)]; decide)) (fun _ => ?_)
  refine z_aload_n C dX6_press_12 rfl (show zlk _ 0 = some (.ref (ad 0)) from rfl) ?_
  refine z_iload_n C dX6_press_13 rfl (show zlk _ 2 = some (.int (nI w)) from rfl) ?_
  refine z_callVi C (As := [.int (nI w)]) (rest := []) (c_X6_isWindow l θ ad n g r (nI w) (by omega)) gX6_press_X6_isWindow rfl 1 (by decide +kernel) (by decide) (by decide) 0 rfl rfl rfl rfl rfl (Nat.le_of_ble_eq_true rfl) dX6_press_14 ?_
  rintro _ _ ⟨rfl, rfl⟩
  refine z_if_neB C 23 dX6_press_17 (by decide) (fun _ => ?_) (fun h => absurd h (by rw [okN_lt hw (by omega)]; decide))
  refine z_aload_n C dX6_press_23 rfl (show zlk _ 0 = some (.ref (ad 0)) from rfl) ?_
  refine z_callVv C (As := []) (rest := []) (c_X6_remember l θ ad n g r hu) gX6_press_X6_remember rfl 0 (by decide +kernel) (by decide) (by decide) 0 rfl rfl rfl rfl rfl (Nat.le_of_ble_eq_true rfl) dX6_press_24 ?_
  rintro _ rfl
  refine z_X (Y := MW θ ad (nv (n 0) (n 1) (n 3) (n 5) (n 8) (n 10) (n 12) (n 13) (n 14) (n 15) (n 16) (n 18) (n 20) (m_u (n 22)) (n 27)) g (rv (r 2) (r 4) (r 6) (r 7) (r 9) (r 17) (r 19) (r 21) (m_pst (r 23) (r 7) (n 22)) (r 24) (r 25) (r 26) (r 28) (r 29) (r 30) (r 31) (r 32))) (mw_eq rfl rfl rfl rfl rfl rfl rfl rfl rfl rfl rfl rfl rfl rfl rfl rfl rfl rfl rfl rfl rfl rfl rfl rfl rfl rfl rfl rfl rfl rfl rfl rfl) ?_
  refine z_aload_n C dX6_press_27 rfl (show zlk _ 0 = some (.ref (ad 0)) from rfl) ?_
  refine z_mg C hin 7 (by decide) (by decide +kernel) (v := .ref (ad 7)) mf_7 dX6_press_28 ?_
  refine z_bipush C (v := nI 17) dX6_press_31 (by decide) ?_
  refine z_iload_n C dX6_press_33 rfl (show zlk _ 1 = some (.int (nI v)) from rfl) ?_
  refine z_iaddN C dX6_press_34 ?_
  refine z_iald C (f := (r 7)) 4 mrv_7 (17 + v) rfl (by omega) (by decide) dX6_press_35 ?_
  refine z_istore_n C [(3, .int ((r 7) (17 + v))), (0, .ref (ad 0)), (1, .int (nI v)), (2, .int (nI w))] dX6_press_36 rfl (by decide) rfl ?_
  refine z_aload_n C dX6_press_37 rfl (show zlk _ 0 = some (.ref (ad 0)) from rfl) ?_
  refine z_mg C hin 7 (by decide) (by decide +kernel) (v := .ref (ad 7)) mf_7 dX6_press_38 ?_
  refine z_bipush C (v := nI 17) dX6_press_41 (by decide) ?_
  refine z_iload_n C dX6_press_43 rfl (show zlk _ 1 = some (.int (nI v)) from rfl) ?_
  refine z_iaddN C dX6_press_44 ?_
  refine z_aload_n C dX6_press_45 rfl (show zlk _ 0 = some (.ref (ad 0)) from rfl) ?_
  refine z_iload_n C dX6_press_46 rfl (show zlk _ 2 = some (.int (nI w)) from rfl) ?_
  refine z_callVi C (As := [.int (nI w)]) (rest := [.int (nI (17 + v)), .ref (ad 7)]) (c_X6_drawnAt l θ ad (nv (n 0) (n 1) (n 3) (n 5) (n 8) (n 10) (n 12) (n 13) (n 14) (n 15) (n 16) (n 18) (n 20) (m_u (n 22)) (n 27)) g (rv (r 2) (r 4) (r 6) (r 7) (r 9) (r 17) (r 19) (r 21) (m_pst (r 23) (r 7) (n 22)) (r 24) (r 25) (r 26) (r 28) (r 29) (r 30) (r 31) (r 32)) w (show w < 5 by omega) (hS) (h0)) gX6_press_X6_drawnAt rfl 1 (by decide +kernel) (by decide) (by decide) 0 rfl rfl rfl rfl rfl (Nat.le_of_ble_eq_true rfl) dX6_press_47 ?_
  rintro _ _ ⟨rfl, rfl⟩
  refine z_top (v' := .int (m_dAt (nv (n 0) (n 1) (n 3) (n 5) (n 8) (n 10) (n 12) (n 13) (n 14) (n 15) (n 16) (n 18) (n 20) (m_u (n 22)) (n 27)) (rv (r 2) (r 4) (r 6) (r 7) (r 9) (r 17) (r 19) (r 21) (m_pst (r 23) (r 7) (n 22)) (r 24) (r 25) (r 26) (r 28) (r 29) (r 30) (r 31) (r 32)) w)) rfl ?_
  refine z_iast C (f := (r 7)) 4 mrv_7 (17 + v) rfl (by omega) (by decide) _ msv_7 dX6_press_50 ?_
  refine z_iload_n C dX6_press_51 rfl (show zlk _ 3 = some (.int ((r 7) (17 + v))) from rfl) ?_
  exact E _ _ _ _ (⟨rfl, (mw_eq rfl rfl rfl rfl rfl rfl rfl rfl rfl rfl rfl rfl rfl rfl rfl rfl rfl rfl rfl rfl rfl rfl rfl rfl rfl rfl rfl rfl rfl rfl rfl rfl)⟩) (rfl) dX6_press_52

set_option maxHeartbeats 4000000 in
set_option maxRecDepth 100000 in
theorem c_X6_glass_1 (l : Launch) (θ : zH) (ad : Nat → Nat) (n : Nat → Nat) (g : Int32) (r : Nat → Nat → Int32) (x : Int32) (hx : okN x 4 = false) : cI l yX6_glass wsX6_glass 1 θ [.ref (ad 0), .int x] (MW θ ad n g r) (fun r0 Y => r0 = (-1000000001) ∧ Y = MW θ ad n g r) := by
  refine z_cI (by decide) rfl rfl (Nat.le_of_ble_eq_true rfl) (lv := [(0, .ref (ad 0)), (1, .int x)]) rfl (fun κ C E => ?_)
  refine z_iload_n C dX6_glass_0 rfl (show zlk _ 1 = some (.int x) from rfl) ?_
  refine z_i2l C dX6_glass_1 ?_
  refine z_lconst C (v := 0) dX6_glass_2 (by decide) ?_
  refine z_ldc2 C (v := 3) (by decide +kernel) dX6_glass_3 ?_
  refine z_callSi C (As := [.long (Int32.toInt64 x), .long 0, .long (3)]) (rest := []) (c_X6_in l θ _ (Int32.toInt64 x) 0 (3)) gX6_glass_X6_in rfl 3 (by decide +kernel) (by decide) (by decide) rfl rfl (Nat.le_of_ble_eq_true rfl) dX6_glass_6 ?_
  rintro _ _ ⟨rfl, rfl⟩
  refine z_top (v' := .int (bI (okN x 4))) (by rw [m_in_lit (N := 4) (by decide)]) ?_
  refine z_if_eqB C 24 dX6_glass_9 (by decide) (fun _ => ?_) (fun h => absurd h (by rw [hx]; decide))
  refine z_ldc C (v := (-1000000001)) (by decide +kernel) dX6_glass_24 ?_
  exact E _ _ _ _ (⟨rfl, rfl⟩) (rfl) dX6_glass_26

set_option maxHeartbeats 4000000 in
set_option maxRecDepth 100000 in
theorem c_X6_glass_2 (l : Launch) (θ : zH) (ad : Nat → Nat) (n : Nat → Nat) (g : Int32) (r : Nat → Nat → Int32) (v : Nat) (hv : v < 4) : cI l yX6_glass wsX6_glass 1 θ [.ref (ad 0), .int (nI v)] (MW θ ad n g r) (fun r0 Y => r0 = r 7 (17 + v) ∧ Y = MW θ ad n g r) := by
  refine z_cI (by decide) rfl rfl (Nat.le_of_ble_eq_true rfl) (lv := [(0, .ref (ad 0)), (1, .int (nI v))]) rfl (fun κ C E => ?_)
  have hin : ∀ w ∈ wsX60, w ∈ wsX6_glass := by decide +kernel
  refine z_iload_n C dX6_glass_0 rfl (show zlk _ 1 = some (.int (nI v)) from rfl) ?_
  refine z_i2l C dX6_glass_1 ?_
  refine z_lconst C (v := 0) dX6_glass_2 (by decide) ?_
  refine z_ldc2 C (v := 3) (by decide +kernel) dX6_glass_3 ?_
  refine z_callSi C (As := [.long (Int32.toInt64 (nI v)), .long 0, .long (3)]) (rest := []) (c_X6_in l θ _ (Int32.toInt64 (nI v)) 0 (3)) gX6_glass_X6_in rfl 3 (by decide +kernel) (by decide) (by decide) rfl rfl (Nat.le_of_ble_eq_true rfl) dX6_glass_6 ?_
  rintro _ _ ⟨rfl, rfl⟩
  refine z_top (v' := .int (bI (okN (nI v) 4))) (by rw [m_in_lit (N := 4) (by decide)]) ?_
  refine z_if_eqB C 24 dX6_glass_9 (by decide) (fun h => absurd h (by rw [okN_lt hv (by decide)]; decide)) (fun _ => ?_)
  refine z_aload_n C dX6_glass_12 rfl (show zlk _ 0 = some (.ref (ad 0)) from rfl) ?_
  refine z_mg C hin 7 (by decide) (by decide +kernel) (v := .ref (ad 7)) mf_7 dX6_glass_13 ?_
  refine z_bipush C (v := nI 17) dX6_glass_16 (by decide) ?_
  refine z_iload_n C dX6_glass_18 rfl (show zlk _ 1 = some (.int (nI v)) from rfl) ?_
  refine z_iaddN C dX6_glass_19 ?_
  refine z_iald C (f := (r 7)) 4 mr_7 (17 + v) rfl (by omega) (by decide) dX6_glass_20 ?_
  refine z_goto C 26 dX6_glass_21 (by decide) ?_
  exact E _ _ _ _ (⟨rfl, rfl⟩) (rfl) dX6_glass_26

set_option maxHeartbeats 4000000 in
set_option maxRecDepth 100000 in
theorem c_X6_stand_1 (l : Launch) (θ : zH) (ad : Nat → Nat) (n : Nat → Nat) (g : Int32) (r : Nat → Nat → Int32) (s w : Int32) (hS : n 1 ≤ 6) (hj : okN s (n 1) = false) : cI l yX6_stand wsX6_stand 2 θ [.ref (ad 0), .int s, .int w] (MW θ ad n g r) (fun r0 Y => r0 = (-1000000001) ∧ Y = MW θ ad n g r) := by
  refine z_cI (by decide) rfl rfl (Nat.le_of_ble_eq_true rfl) (lv := [(0, .ref (ad 0)), (1, .int s), (2, .int w)]) rfl (fun κ C E => ?_)
  refine z_aload_n C dX6_stand_0 rfl (show zlk _ 0 = some (.ref (ad 0)) from rfl) ?_
  refine z_iload_n C dX6_stand_1 rfl (show zlk _ 1 = some (.int s) from rfl) ?_
  refine z_callVi C (As := [.int s]) (rest := []) (c_X6_isSitter l θ ad n g r s (by omega)) gX6_stand_X6_isSitter rfl 1 (by decide +kernel) (by decide) (by decide) 0 rfl rfl rfl rfl rfl (Nat.le_of_ble_eq_true rfl) dX6_stand_2 ?_
  rintro _ _ ⟨rfl, rfl⟩
  refine z_if_eqB C 16 dX6_stand_5 (by decide) (fun _ => ?_) (fun h => absurd h (by rw [hj]; decide))
  refine z_ldc C (v := (-1000000001)) (by decide +kernel) dX6_stand_16 ?_
  exact E _ _ _ _ (⟨rfl, rfl⟩) (rfl) dX6_stand_18

set_option maxHeartbeats 4000000 in
set_option maxRecDepth 100000 in
theorem c_X6_stand_2 (l : Launch) (θ : zH) (ad : Nat → Nat) (n : Nat → Nat) (g : Int32) (r : Nat → Nat → Int32) (s w : Int32) (hS : n 1 ≤ 6) (hW : n 3 ≤ 5) (hj : okN s (n 1) = true) (hw : okN w (n 3) = false) : cI l yX6_stand wsX6_stand 2 θ [.ref (ad 0), .int s, .int w] (MW θ ad n g r) (fun r0 Y => r0 = (-1000000001) ∧ Y = MW θ ad n g r) := by
  refine z_cI (by decide) rfl rfl (Nat.le_of_ble_eq_true rfl) (lv := [(0, .ref (ad 0)), (1, .int s), (2, .int w)]) rfl (fun κ C E => ?_)
  refine z_aload_n C dX6_stand_0 rfl (show zlk _ 0 = some (.ref (ad 0)) from rfl) ?_
  refine z_iload_n C dX6_stand_1 rfl (show zlk _ 1 = some (.int s) from rfl) ?_
  refine z_callVi C (As := [.int s]) (rest := []) (c_X6_isSitter l θ ad n g r s (by omega)) gX6_stand_X6_isSitter rfl 1 (by decide +kernel) (by decide) (by decide) 0 rfl rfl rfl rfl rfl (Nat.le_of_ble_eq_true rfl) dX6_stand_2 ?_
  rintro _ _ ⟨rfl, rfl⟩
  refine z_if_eqB C 16 dX6_stand_5 (by decide) (fun h => absurd h (by rw [hj]; decide)) (fun _ => ?_)
  refine z_aload_n C dX6_stand_8 rfl (show zlk _ 0 = some (.ref (ad 0)) from rfl) ?_
  refine z_iload_n C dX6_stand_9 rfl (show zlk _ 2 = some (.int w) from rfl) ?_
  refine z_callVi C (As := [.int w]) (rest := []) (c_X6_isWindow l θ ad n g r w (by omega)) gX6_stand_X6_isWindow rfl 1 (by decide +kernel) (by decide) (by decide) 0 rfl rfl rfl rfl rfl (Nat.le_of_ble_eq_true rfl) dX6_stand_10 ?_
  rintro _ _ ⟨rfl, rfl⟩
  refine z_if_neB C 19 dX6_stand_13 (by decide) (fun h => absurd h (by rw [hw]; decide)) (fun _ => ?_)
  refine z_ldc C (v := (-1000000001)) (by decide +kernel) dX6_stand_16 ?_
  exact E _ _ _ _ (⟨rfl, rfl⟩) (rfl) dX6_stand_18

set_option maxHeartbeats 4000000 in
set_option maxRecDepth 100000 in
theorem c_X6_stand_3 (l : Launch) (θ : zH) (ad : Nat → Nat) (n : Nat → Nat) (g : Int32) (r : Nat → Nat → Int32) (j w : Nat) (hS : n 1 ≤ 6) (hW : n 3 ≤ 5) (hj : j < n 1) (hw : w < n 3) (hx : ¬ m_who (r 7) (nI w) (n 1) = (-1)) : cI l yX6_stand wsX6_stand 2 θ [.ref (ad 0), .int (nI j), .int (nI w)] (MW θ ad n g r) (fun r0 Y => r0 = (-1000000003) ∧ Y = MW θ ad n g r) := by
  refine z_cI (by decide) rfl rfl (Nat.le_of_ble_eq_true rfl) (lv := [(0, .ref (ad 0)), (1, .int (nI j)), (2, .int (nI w))]) rfl (fun κ C E => ?_)
  refine z_aload_n C dX6_stand_0 rfl (show zlk _ 0 = some (.ref (ad 0)) from rfl) ?_
  refine z_iload_n C dX6_stand_1 rfl (show zlk _ 1 = some (.int (nI j)) from rfl) ?_
  refine z_callVi C (As := [.int (nI j)]) (rest := []) (c_X6_isSitter l θ ad n g r (nI j) (by omega)) gX6_stand_X6_isSitter rfl 1 (by decide +kernel) (by decide) (by decide) 0 rfl rfl rfl rfl rfl (Nat.le_of_ble_eq_true rfl) dX6_stand_2 ?_
  rintro _ _ ⟨rfl, rfl⟩
  refine z_if_eqB C 16 dX6_stand_5 (by decide) (fun h => absurd h (by rw [okN_lt hj (by omega)]; decide)) (fun _ => ?_)
  refine z_aload_n C dX6_stand_8 rfl (show zlk _ 0 = some (.ref (ad 0)) from rfl) ?_
  refine z_iload_n C dX6_stand_9 rfl (show zlk _ 2 = some (.int (nI w)) from rfl) ?_
  refine z_callVi C (As := [.int (nI w)]) (rest := []) (c_X6_isWindow l θ ad n g r (nI w) (by omega)) gX6_stand_X6_isWindow rfl 1 (by decide +kernel) (by decide) (by decide) 0 rfl rfl rfl rfl rfl (Nat.le_of_ble_eq_true rfl) dX6_stand_10 ?_
  rintro _ _ ⟨rfl, rfl⟩
  refine z_if_neB C 19 dX6_stand_13 (by decide) (fun _ => ?_) (fun h => absurd h (by rw [okN_lt hw (by omega)]; decide))
  refine z_aload_n C dX6_stand_19 rfl (show zlk _ 0 = some (.ref (ad 0)) from rfl) ?_
  refine z_iload_n C dX6_stand_20 rfl (show zlk _ 2 = some (.int (nI w)) from rfl) ?_
  refine z_callVi C (As := [.int (nI w)]) (rest := []) (c_X6_whoIsAt l θ ad n g r (nI w) (hS)) gX6_stand_X6_whoIsAt rfl 1 (by decide +kernel) (by decide) (by decide) 0 rfl rfl rfl rfl rfl (Nat.le_of_ble_eq_true rfl) dX6_stand_21 ?_
  rintro _ _ ⟨rfl, rfl⟩
  refine z_iconst C (v := (-1)) dX6_stand_24 (by decide) ?_
  refine z_icmp_eq C 31 dX6_stand_25 (by decide) (fun h25n_1 => absurd h25n_1 (hx)) (fun h25n_1 => ?_)
  refine z_ldc C (v := (-1000000003)) (by decide +kernel) dX6_stand_28 ?_
  exact E _ _ _ _ (⟨rfl, rfl⟩) (rfl) dX6_stand_30

set_option maxHeartbeats 4000000 in
set_option maxRecDepth 100000 in
theorem c_X6_stand_4 (l : Launch) (θ : zH) (ad : Nat → Nat) (n : Nat → Nat) (g : Int32) (r : Nat → Nat → Int32) (j w : Nat) (hS : n 1 ≤ 6) (hW : n 3 ≤ 5) (hj : j < n 1) (hw : w < n 3) (hx : m_who (r 7) (nI w) (n 1) = (-1)) (hu : n 22 ≤ 16) : cI l yX6_stand wsX6_stand 2 θ [.ref (ad 0), .int (nI j), .int (nI w)] (MW θ ad n g r) (fun r0 Y => r0 = r 7 (6 + j) ∧ Y = MW θ ad (nv (n 0) (n 1) (n 3) (n 5) (n 8) (n 10) (n 12) (n 13) (n 14) (n 15) (n 16) (n 18) (n 20) (m_u (n 22)) (n 27)) g (rv (r 2) (r 4) (r 6) (upd (r 7) (6 + j) (nI w)) (r 9) (r 17) (r 19) (r 21) (m_pst (r 23) (r 7) (n 22)) (r 24) (r 25) (r 26) (r 28) (r 29) (r 30) (r 31) (r 32))) := by
  refine z_cI (by decide) rfl rfl (Nat.le_of_ble_eq_true rfl) (lv := [(0, .ref (ad 0)), (1, .int (nI j)), (2, .int (nI w))]) rfl (fun κ C E => ?_)
  have hin : ∀ w ∈ wsX60, w ∈ wsX6_stand := by decide +kernel
  refine z_aload_n C dX6_stand_0 rfl (show zlk _ 0 = some (.ref (ad 0)) from rfl) ?_
  refine z_iload_n C dX6_stand_1 rfl (show zlk _ 1 = some (.int (nI j)) from rfl) ?_
  refine z_callVi C (As := [.int (nI j)]) (rest := []) (c_X6_isSitter l θ ad n g r (nI j) (by omega)) gX6_stand_X6_isSitter rfl 1 (by decide +kernel) (by decide) (by decide) 0 rfl rfl rfl rfl rfl (Nat.le_of_ble_eq_true rfl) dX6_stand_2 ?_
  rintro _ _ ⟨rfl, rfl⟩
  refine z_if_eqB C 16 dX6_stand_5 (by decide) (fun h => absurd h (by rw [okN_lt hj (by omega)]; decide)) (fun _ => ?_)
  refine z_aload_n C dX6_stand_8 rfl (show zlk _ 0 = some (.ref (ad 0)) from rfl) ?_
  refine z_iload_n C dX6_stand_9 rfl (show zlk _ 2 = some (.int (nI w)) from rfl) ?_
  refine z_callVi C (As := [.int (nI w)]) (rest := []) (c_X6_isWindow l θ ad n g r (nI w) (by omega)) gX6_stand_X6_isWindow rfl 1 (by decide +kernel) (by decide) (by decide) 0 rfl rfl rfl rfl rfl (Nat.le_of_ble_eq_true rfl) dX6_stand_10 ?_
  rintro _ _ ⟨rfl, rfl⟩
  refine z_if_neB C 19 dX6_stand_13 (by decide) (fun _ => ?_) (fun h => absurd h (by rw [okN_lt hw (by omega)]; decide))
  refine z_aload_n C dX6_stand_19 rfl (show zlk _ 0 = some (.ref (ad 0)) from rfl) ?_
  refine z_iload_n C dX6_stand_20 rfl (show zlk _ 2 = some (.int (nI w)) from rfl) ?_
  refine z_callVi C (As := [.int (nI w)]) (rest := []) (c_X6_whoIsAt l θ ad n g r (nI w) (hS)) gX6_stand_X6_whoIsAt rfl 1 (by decide +kernel) (by decide) (by decide) 0 rfl rfl rfl rfl rfl (Nat.le_of_ble_eq_true rfl) dX6_stand_21 ?_
  rintro _ _ ⟨rfl, rfl⟩
  refine z_iconst C (v := (-1)) dX6_stand_24 (by decide) ?_
  refine z_icmp_eq C 31 dX6_stand_25 (by decide) (fun h25t_1 => ?_) (fun h25t_1 => absurd h25t_1 (fun z => z hx))
  refine z_aload_n C dX6_stand_31 rfl (show zlk _ 0 = some (.ref (ad 0)) from rfl) ?_
  refine z_callVv C (As := []) (rest := []) (c_X6_remember l θ ad n g r hu) gX6_stand_X6_remember rfl 0 (by decide +kernel) (by decide) (by decide) 0 rfl rfl rfl rfl rfl (Nat.le_of_ble_eq_true rfl) dX6_stand_32 ?_
  rintro _ rfl
  refine z_X (Y := MW θ ad (nv (n 0) (n 1) (n 3) (n 5) (n 8) (n 10) (n 12) (n 13) (n 14) (n 15) (n 16) (n 18) (n 20) (m_u (n 22)) (n 27)) g (rv (r 2) (r 4) (r 6) (r 7) (r 9) (r 17) (r 19) (r 21) (m_pst (r 23) (r 7) (n 22)) (r 24) (r 25) (r 26) (r 28) (r 29) (r 30) (r 31) (r 32))) (mw_eq rfl rfl rfl rfl rfl rfl rfl rfl rfl rfl rfl rfl rfl rfl rfl rfl rfl rfl rfl rfl rfl rfl rfl rfl rfl rfl rfl rfl rfl rfl rfl rfl) ?_
  refine z_aload_n C dX6_stand_35 rfl (show zlk _ 0 = some (.ref (ad 0)) from rfl) ?_
  refine z_mg C hin 7 (by decide) (by decide +kernel) (v := .ref (ad 7)) mf_7 dX6_stand_36 ?_
  refine z_bipush C (v := nI 6) dX6_stand_39 (by decide) ?_
  refine z_iload_n C dX6_stand_41 rfl (show zlk _ 1 = some (.int (nI j)) from rfl) ?_
  refine z_iaddN C dX6_stand_42 ?_
  refine z_iald C (f := (r 7)) 4 mrv_7 (6 + j) rfl (by omega) (by decide) dX6_stand_43 ?_
  refine z_istore_n C [(3, .int ((r 7) (6 + j))), (0, .ref (ad 0)), (1, .int (nI j)), (2, .int (nI w))] dX6_stand_44 rfl (by decide) rfl ?_
  refine z_aload_n C dX6_stand_45 rfl (show zlk _ 0 = some (.ref (ad 0)) from rfl) ?_
  refine z_mg C hin 7 (by decide) (by decide +kernel) (v := .ref (ad 7)) mf_7 dX6_stand_46 ?_
  refine z_bipush C (v := nI 6) dX6_stand_49 (by decide) ?_
  refine z_iload_n C dX6_stand_51 rfl (show zlk _ 1 = some (.int (nI j)) from rfl) ?_
  refine z_iaddN C dX6_stand_52 ?_
  refine z_iload_n C dX6_stand_53 rfl (show zlk _ 2 = some (.int (nI w)) from rfl) ?_
  refine z_iast C (f := (r 7)) 4 mrv_7 (6 + j) rfl (by omega) (by decide) _ msv_7 dX6_stand_54 ?_
  refine z_iload_n C dX6_stand_55 rfl (show zlk _ 3 = some (.int ((r 7) (6 + j))) from rfl) ?_
  exact E _ _ _ _ (⟨rfl, (mw_eq rfl rfl rfl rfl rfl rfl rfl rfl rfl rfl rfl rfl rfl rfl rfl rfl rfl rfl rfl rfl rfl rfl rfl rfl rfl rfl rfl rfl rfl rfl rfl rfl)⟩) (rfl) dX6_stand_56

set_option maxHeartbeats 4000000 in
set_option maxRecDepth 100000 in
theorem c_X6_go_1 (l : Launch) (θ : zH) (ad : Nat → Nat) (n : Nat → Nat) (g : Int32) (r : Nat → Nat → Int32) (s : Int32) (hS : n 1 ≤ 6) (hj : okN s (n 1) = false) : cI l yX6_go wsX6_go 2 θ [.ref (ad 0), .int s] (MW θ ad n g r) (fun r0 Y => r0 = (-1000000001) ∧ Y = MW θ ad n g r) := by
  refine z_cI (by decide) rfl rfl (Nat.le_of_ble_eq_true rfl) (lv := [(0, .ref (ad 0)), (1, .int s)]) rfl (fun κ C E => ?_)
  refine z_aload_n C dX6_go_0 rfl (show zlk _ 0 = some (.ref (ad 0)) from rfl) ?_
  refine z_iload_n C dX6_go_1 rfl (show zlk _ 1 = some (.int s) from rfl) ?_
  refine z_callVi C (As := [.int s]) (rest := []) (c_X6_isSitter l θ ad n g r s (by omega)) gX6_go_X6_isSitter rfl 1 (by decide +kernel) (by decide) (by decide) 0 rfl rfl rfl rfl rfl (Nat.le_of_ble_eq_true rfl) dX6_go_2 ?_
  rintro _ _ ⟨rfl, rfl⟩
  refine z_if_neB C 11 dX6_go_5 (by decide) (fun h => absurd h (by rw [hj]; decide)) (fun _ => ?_)
  refine z_ldc C (v := (-1000000001)) (by decide +kernel) dX6_go_8 ?_
  exact E _ _ _ _ (⟨rfl, rfl⟩) (rfl) dX6_go_10

set_option maxHeartbeats 4000000 in
set_option maxRecDepth 100000 in
theorem c_X6_go_2 (l : Launch) (θ : zH) (ad : Nat → Nat) (n : Nat → Nat) (g : Int32) (r : Nat → Nat → Int32) (j : Nat) (hS : n 1 ≤ 6) (hj : j < n 1) (hx : r 7 (6 + j) = (-1)) : cI l yX6_go wsX6_go 2 θ [.ref (ad 0), .int (nI j)] (MW θ ad n g r) (fun r0 Y => r0 = (-1000000003) ∧ Y = MW θ ad n g r) := by
  refine z_cI (by decide) rfl rfl (Nat.le_of_ble_eq_true rfl) (lv := [(0, .ref (ad 0)), (1, .int (nI j))]) rfl (fun κ C E => ?_)
  have hin : ∀ w ∈ wsX60, w ∈ wsX6_go := by decide +kernel
  refine z_aload_n C dX6_go_0 rfl (show zlk _ 0 = some (.ref (ad 0)) from rfl) ?_
  refine z_iload_n C dX6_go_1 rfl (show zlk _ 1 = some (.int (nI j)) from rfl) ?_
  refine z_callVi C (As := [.int (nI j)]) (rest := []) (c_X6_isSitter l θ ad n g r (nI j) (by omega)) gX6_go_X6_isSitter rfl 1 (by decide +kernel) (by decide) (by decide) 0 rfl rfl rfl rfl rfl (Nat.le_of_ble_eq_true rfl) dX6_go_2 ?_
  rintro _ _ ⟨rfl, rfl⟩
  refine z_if_neB C 11 dX6_go_5 (by decide) (fun _ => ?_) (fun h => absurd h (by rw [okN_lt hj (by omega)]; decide))
  refine z_aload_n C dX6_go_11 rfl (show zlk _ 0 = some (.ref (ad 0)) from rfl) ?_
  refine z_mg C hin 7 (by decide) (by decide +kernel) (v := .ref (ad 7)) mf_7 dX6_go_12 ?_
  refine z_bipush C (v := nI 6) dX6_go_15 (by decide) ?_
  refine z_iload_n C dX6_go_17 rfl (show zlk _ 1 = some (.int (nI j)) from rfl) ?_
  refine z_iaddN C dX6_go_18 ?_
  refine z_iald C (f := (r 7)) 4 mr_7 (6 + j) rfl (by omega) (by decide) dX6_go_19 ?_
  refine z_istore_n C [(2, .int ((r 7) (6 + j))), (0, .ref (ad 0)), (1, .int (nI j))] dX6_go_20 rfl (by decide) rfl ?_
  refine z_iload_n C dX6_go_21 rfl (show zlk _ 2 = some (.int ((r 7) (6 + j))) from rfl) ?_
  refine z_iconst C (v := (-1)) dX6_go_22 (by decide) ?_
  refine z_icmp_ne C 29 dX6_go_23 (by decide) (fun h23n_1 => absurd h23n_1 (fun z => z hx)) (fun h23n_1 => ?_)
  refine z_ldc C (v := (-1000000003)) (by decide +kernel) dX6_go_26 ?_
  exact E _ _ _ _ (⟨rfl, rfl⟩) (rfl) dX6_go_28

set_option maxHeartbeats 4000000 in
set_option maxRecDepth 100000 in
theorem c_X6_go_3 (l : Launch) (θ : zH) (ad : Nat → Nat) (n : Nat → Nat) (g : Int32) (r : Nat → Nat → Int32) (j : Nat) (hS : n 1 ≤ 6) (hj : j < n 1) (hx : ¬ r 7 (6 + j) = (-1)) (hu : n 22 ≤ 16) : cI l yX6_go wsX6_go 2 θ [.ref (ad 0), .int (nI j)] (MW θ ad n g r) (fun r0 Y => r0 = r 7 (6 + j) ∧ Y = MW θ ad (nv (n 0) (n 1) (n 3) (n 5) (n 8) (n 10) (n 12) (n 13) (n 14) (n 15) (n 16) (n 18) (n 20) (m_u (n 22)) (n 27)) g (rv (r 2) (r 4) (r 6) (upd (r 7) (6 + j) (-1)) (r 9) (r 17) (r 19) (r 21) (m_pst (r 23) (r 7) (n 22)) (r 24) (r 25) (r 26) (r 28) (r 29) (r 30) (r 31) (r 32))) := by
  refine z_cI (by decide) rfl rfl (Nat.le_of_ble_eq_true rfl) (lv := [(0, .ref (ad 0)), (1, .int (nI j))]) rfl (fun κ C E => ?_)
  have hin : ∀ w ∈ wsX60, w ∈ wsX6_go := by decide +kernel
  refine z_aload_n C dX6_go_0 rfl (show zlk _ 0 = some (.ref (ad 0)) from rfl) ?_
  refine z_iload_n C dX6_go_1 rfl (show zlk _ 1 = some (.int (nI j)) from rfl) ?_
  refine z_callVi C (As := [.int (nI j)]) (rest := []) (c_X6_isSitter l θ ad n g r (nI j) (by omega)) gX6_go_X6_isSitter rfl 1 (by decide +kernel) (by decide) (by decide) 0 rfl rfl rfl rfl rfl (Nat.le_of_ble_eq_true rfl) dX6_go_2 ?_
  rintro _ _ ⟨rfl, rfl⟩
  refine z_if_neB C 11 dX6_go_5 (by decide) (fun _ => ?_) (fun h => absurd h (by rw [okN_lt hj (by omega)]; decide))
  refine z_aload_n C dX6_go_11 rfl (show zlk _ 0 = some (.ref (ad 0)) from rfl) ?_
  refine z_mg C hin 7 (by decide) (by decide +kernel) (v := .ref (ad 7)) mf_7 dX6_go_12 ?_
  refine z_bipush C (v := nI 6) dX6_go_15 (by decide) ?_
  refine z_iload_n C dX6_go_17 rfl (show zlk _ 1 = some (.int (nI j)) from rfl) ?_
  refine z_iaddN C dX6_go_18 ?_
  refine z_iald C (f := (r 7)) 4 mr_7 (6 + j) rfl (by omega) (by decide) dX6_go_19 ?_
  refine z_istore_n C [(2, .int ((r 7) (6 + j))), (0, .ref (ad 0)), (1, .int (nI j))] dX6_go_20 rfl (by decide) rfl ?_
  refine z_iload_n C dX6_go_21 rfl (show zlk _ 2 = some (.int ((r 7) (6 + j))) from rfl) ?_
  refine z_iconst C (v := (-1)) dX6_go_22 (by decide) ?_
  refine z_icmp_ne C 29 dX6_go_23 (by decide) (fun h23t_1 => ?_) (fun h23t_1 => absurd h23t_1 (hx))
  refine z_aload_n C dX6_go_29 rfl (show zlk _ 0 = some (.ref (ad 0)) from rfl) ?_
  refine z_callVv C (As := []) (rest := []) (c_X6_remember l θ ad n g r hu) gX6_go_X6_remember rfl 0 (by decide +kernel) (by decide) (by decide) 0 rfl rfl rfl rfl rfl (Nat.le_of_ble_eq_true rfl) dX6_go_30 ?_
  rintro _ rfl
  refine z_X (Y := MW θ ad (nv (n 0) (n 1) (n 3) (n 5) (n 8) (n 10) (n 12) (n 13) (n 14) (n 15) (n 16) (n 18) (n 20) (m_u (n 22)) (n 27)) g (rv (r 2) (r 4) (r 6) (r 7) (r 9) (r 17) (r 19) (r 21) (m_pst (r 23) (r 7) (n 22)) (r 24) (r 25) (r 26) (r 28) (r 29) (r 30) (r 31) (r 32))) (mw_eq rfl rfl rfl rfl rfl rfl rfl rfl rfl rfl rfl rfl rfl rfl rfl rfl rfl rfl rfl rfl rfl rfl rfl rfl rfl rfl rfl rfl rfl rfl rfl rfl) ?_
  refine z_aload_n C dX6_go_33 rfl (show zlk _ 0 = some (.ref (ad 0)) from rfl) ?_
  refine z_mg C hin 7 (by decide) (by decide +kernel) (v := .ref (ad 7)) mf_7 dX6_go_34 ?_
  refine z_bipush C (v := nI 6) dX6_go_37 (by decide) ?_
  refine z_iload_n C dX6_go_39 rfl (show zlk _ 1 = some (.int (nI j)) from rfl) ?_
  refine z_iaddN C dX6_go_40 ?_
  refine z_iconst C (v := (-1)) dX6_go_41 (by decide) ?_
  refine z_iast C (f := (r 7)) 4 mrv_7 (6 + j) rfl (by omega) (by decide) _ msv_7 dX6_go_42 ?_
  refine z_iload_n C dX6_go_43 rfl (show zlk _ 2 = some (.int ((r 7) (6 + j))) from rfl) ?_
  exact E _ _ _ _ (⟨rfl, (mw_eq rfl rfl rfl rfl rfl rfl rfl rfl rfl rfl rfl rfl rfl rfl rfl rfl rfl rfl rfl rfl rfl rfl rfl rfl rfl rfl rfl rfl rfl rfl rfl rfl)⟩) (rfl) dX6_go_44

set_option maxHeartbeats 4000000 in
set_option maxRecDepth 100000 in
theorem c_X6_seed_1 (l : Launch) (θ : zH) (ad : Nat → Nat) (n : Nat → Nat) (g : Int32) (r : Nat → Nat → Int32) (x : Int32) (hx : ¬ 0 ≤ x) : cI l yX6_seed wsX6_seed 0 θ [.ref (ad 0), .int x] (MW θ ad n g r) (fun r0 Y => r0 = (-1000000002) ∧ Y = MW θ ad n g r) := by
  refine z_cI (by decide) rfl rfl (Nat.le_of_ble_eq_true rfl) (lv := [(0, .ref (ad 0)), (1, .int x)]) rfl (fun κ C E => ?_)
  refine z_iload_n C dX6_seed_0 rfl (show zlk _ 1 = some (.int x) from rfl) ?_
  refine z_if_ge C 7 dX6_seed_1 (by decide) (fun h1n_1 => absurd h1n_1 (hx)) (fun h1n_1 => ?_)
  refine z_ldc C (v := (-1000000002)) (by decide +kernel) dX6_seed_4 ?_
  exact E _ _ _ _ (⟨rfl, rfl⟩) (rfl) dX6_seed_6

set_option maxHeartbeats 4000000 in
set_option maxRecDepth 100000 in
theorem c_X6_seed_2 (l : Launch) (θ : zH) (ad : Nat → Nat) (n : Nat → Nat) (g : Int32) (r : Nat → Nat → Int32) (v : Nat) (hv : v < 2 ^ 31) : cI l yX6_seed wsX6_seed 0 θ [.ref (ad 0), .int (nI v)] (MW θ ad n g r) (fun r0 Y => r0 = nI (n 8) ∧ Y = MW θ ad (nv (n 0) (n 1) (n 3) (n 5) v (n 10) (n 12) (n 13) (n 14) (n 15) (n 16) (n 18) (n 20) (n 22) (n 27)) g r) := by
  refine z_cI (by decide) rfl rfl (Nat.le_of_ble_eq_true rfl) (lv := [(0, .ref (ad 0)), (1, .int (nI v))]) rfl (fun κ C E => ?_)
  have hin : ∀ w ∈ wsX60, w ∈ wsX6_seed := by decide +kernel
  refine z_iload_n C dX6_seed_0 rfl (show zlk _ 1 = some (.int (nI v)) from rfl) ?_
  refine z_if_geN C 7 dX6_seed_1 (by decide) (by omega) ?_
  refine z_aload_n C dX6_seed_7 rfl (show zlk _ 0 = some (.ref (ad 0)) from rfl) ?_
  refine z_mg C hin 8 (by decide) (by decide +kernel) (v := .int (nI (n 8))) mf_8 dX6_seed_8 ?_
  refine z_istore_n C [(2, .int (nI (n 8))), (0, .ref (ad 0)), (1, .int (nI v))] dX6_seed_11 rfl (by decide) rfl ?_
  refine z_aload_n C dX6_seed_12 rfl (show zlk _ 0 = some (.ref (ad 0)) from rfl) ?_
  refine z_iload_n C dX6_seed_13 rfl (show zlk _ 1 = some (.int (nI v)) from rfl) ?_
  refine z_mp C hin 8 (by decide) (by decide +kernel) rfl rfl mpn_8 dX6_seed_14 ?_
  refine z_iload_n C dX6_seed_17 rfl (show zlk _ 2 = some (.int (nI (n 8))) from rfl) ?_
  exact E _ _ _ _ (⟨rfl, (mw_eq rfl rfl rfl rfl rfl rfl rfl rfl rfl rfl rfl rfl rfl rfl rfl rfl rfl rfl rfl rfl rfl rfl rfl rfl rfl rfl rfl rfl rfl rfl rfl rfl)⟩) (rfl) dX6_seed_18

set_option maxHeartbeats 4000000 in
set_option maxRecDepth 100000 in
theorem c_X6_tear (l : Launch) (θ : zH) (ad : Nat → Nat) (n : Nat → Nat) (g : Int32) (r : Nat → Nat → Int32)  : cI l yX6_tear wsX6_tear 0 θ [.ref (ad 0)] (MW θ ad n g r) (fun r0 Y => r0 = nI (n 27) ∧ Y = MW θ ad (nv (n 0) (n 1) (n 3) (n 5) (n 8) (n 10) (n 12) (n 13) (n 14) (n 15) (n 16) (n 18) (n 20) (n 22) 0) g r) := by
  refine z_cI (by decide) rfl rfl (Nat.le_of_ble_eq_true rfl) (lv := [(0, .ref (ad 0))]) rfl (fun κ C E => ?_)
  have hin : ∀ w ∈ wsX60, w ∈ wsX6_tear := by decide +kernel
  refine z_aload_n C dX6_tear_0 rfl (show zlk _ 0 = some (.ref (ad 0)) from rfl) ?_
  refine z_mg C hin 27 (by decide) (by decide +kernel) (v := .int (nI (n 27))) mf_27 dX6_tear_1 ?_
  refine z_istore_n C [(1, .int (nI (n 27))), (0, .ref (ad 0))] dX6_tear_4 rfl (by decide) rfl ?_
  refine z_aload_n C dX6_tear_5 rfl (show zlk _ 0 = some (.ref (ad 0)) from rfl) ?_
  refine z_iconst C (v := nI 0) dX6_tear_6 (by decide) ?_
  refine z_mp C hin 27 (by decide) (by decide +kernel) rfl rfl mpn_27 dX6_tear_7 ?_
  refine z_iload_n C dX6_tear_10 rfl (show zlk _ 1 = some (.int (nI (n 27))) from rfl) ?_
  exact E _ _ _ _ (⟨rfl, (mw_eq rfl rfl rfl rfl rfl rfl rfl rfl rfl rfl rfl rfl rfl rfl rfl rfl rfl rfl rfl rfl rfl rfl rfl rfl rfl rfl rfl rfl rfl rfl rfl rfl)⟩) (rfl) dX6_tear_11

