noncomputable def eSt (s0 S W : Nat) (f : Nat → Int32) : Nat × (Nat → Int32) := if S = 0 then (s0, f) else if W = 0 then (s0, f) else if f (m_dv (m_sd s0) W) = (-1) then (m_sd (m_sd s0), upd (k_mv f (nI (m_dv s0 S)) 5) (m_dv (m_sd s0) W) (nI (m_dv s0 S))) else (m_sd (m_sd s0), f)
set_option maxHeartbeats 4000000 in
set_option maxRecDepth 100000 in
theorem c_X5_standByDraw (l : Launch) (θ : zH) (ea : Nat → Nat → Nat) (ad : Nat → Nat) (n : Nat → Nat) (g : Nat → Int32) (b : Nat → Bool) (r : Nat → Nat → Int32) (V : Nat → Ev)  (hW : n 11 ≤ 5) (hS : n 10 ≤ 6) (h0 : n 0 < 2 ^ 31) : cV l yX5_standByDraw wsX5_standByDraw 1 θ [.ref (ad 0)] (CW θ ea ad n g b r V) (fun Y => Y = CW θ ea ad (cnv ((eSt (n 0) (n 10) (n 11) (r 8)).1) (n 1) (n 2) (n 3) (n 4) (n 5) (n 6) (n 7) (n 8) (n 9) (n 10) (n 11) (n 12) (n 13) (n 14) (n 15) (n 16) (n 17) (n 18) (n 19) (n 20)) g b (crv (r 0) (r 1) (r 2) (r 3) (r 4) (r 5) (r 6) (r 7) ((eSt (n 0) (n 10) (n 11) (r 8)).2) (r 9) (r 10) (r 11) (r 12) (r 13) (r 14) (r 15) (r 16) (r 17) (r 18)) V) := by
  refine z_cV (by decide) rfl rfl (Nat.le_of_ble_eq_true rfl) (lv := [(0, .ref (ad 0))]) rfl (fun κ C E => ?_)
  have hinX0 : ∀ w ∈ wsX00, w ∈ wsX5_standByDraw := by decide +kernel
  have hinX1 : ∀ w ∈ wsX10, w ∈ wsX5_standByDraw := by decide +kernel
  have hinX5 : ∀ w ∈ wsX50, w ∈ wsX5_standByDraw := by decide +kernel
  refine z_aload_n C dX5_standByDraw_0 rfl (show zlk _ 0 = some (.ref (ad 0)) from rfl) ?_
  refine z_get C hinX5 0 cc_0 rfl 1 (by decide) (by decide +kernel) cg_0_1 dX5_standByDraw_1 ?_
  refine z_getN C (host := "GnatPortraits") hinX0 3 cc_3 rfl 2 (by decide) (by decide +kernel) cg_3_2 dX5_standByDraw_4 ?_
  refine z_iconst C (v := nI 1) dX5_standByDraw_7 (by decide) ?_
  refine z_icmp_ltN C 22 dX5_standByDraw_8 (by decide) (by omega) (by omega) (fun h8t_1 => ?_) (fun h8n_1 => ?_)
  · exact E _ _ _ (by subst_vars; unfold eSt; rw [if_pos (by omega)] <;> exact (cw_eq rfl rfl rfl rfl rfl rfl rfl rfl rfl rfl rfl rfl rfl rfl rfl rfl rfl rfl rfl rfl rfl rfl rfl rfl rfl rfl rfl rfl rfl rfl rfl rfl rfl rfl rfl rfl rfl rfl rfl rfl rfl rfl rfl rfl rfl rfl rfl rfl rfl rfl rfl)) dX5_standByDraw_22
  · refine z_aload_n C dX5_standByDraw_11 rfl (show zlk _ 0 = some (.ref (ad 0)) from rfl) ?_
    refine z_get C hinX5 0 cc_0 rfl 1 (by decide) (by decide +kernel) cg_0_1 dX5_standByDraw_12 ?_
    refine z_getN C (host := "GnatPortraits") hinX0 3 cc_3 rfl 3 (by decide) (by decide +kernel) cg_3_3 dX5_standByDraw_15 ?_
    refine z_iconst C (v := nI 1) dX5_standByDraw_18 (by decide) ?_
    refine z_icmp_geN C 23 dX5_standByDraw_19 (by decide) (by omega) (by omega) (fun h19t_2 => ?_) (fun h19n_2 => ?_)
    · refine z_aload_n C dX5_standByDraw_23 rfl (show zlk _ 0 = some (.ref (ad 0)) from rfl) ?_
      refine z_aload_n C dX5_standByDraw_24 rfl (show zlk _ 0 = some (.ref (ad 0)) from rfl) ?_
      refine z_get C hinX5 0 cc_0 rfl 1 (by decide) (by decide +kernel) cg_0_1 dX5_standByDraw_25 ?_
      refine z_getN C (host := "GnatPortraits") hinX0 3 cc_3 rfl 2 (by decide) (by decide +kernel) cg_3_2 dX5_standByDraw_28 ?_
      refine z_callVi C (As := [.int (nI (n 10))]) (rest := []) (c_X5_nextDraw l θ ea ad n g b r V (n 10) (show 0 < n 10 by omega) (show n 10 < 2 ^ 31 by omega) h0) gX5_standByDraw_X5_nextDraw rfl 1 (by decide +kernel) (by decide) (by decide) 0 rfl rfl rfl rfl rfl (Nat.le_of_ble_eq_true rfl) dX5_standByDraw_31 ?_
      rintro _ _ ⟨sx1, dx1, es1, ed1, ls1, ld1, rfl, rfl⟩
      replace es1 : sx1 = m_sd (n 0) := es1
      replace ed1 : dx1 = m_dv (n 0) (n 10) := ed1
      replace ld1 : dx1 < (n 10) := ld1
      refine z_X (Y := CW θ ea ad (cnv sx1 (n 1) (n 2) (n 3) (n 4) (n 5) (n 6) (n 7) (n 8) (n 9) (n 10) (n 11) (n 12) (n 13) (n 14) (n 15) (n 16) (n 17) (n 18) (n 19) (n 20)) g b r V) (cw_eq rfl rfl rfl rfl rfl rfl rfl rfl rfl rfl rfl rfl rfl rfl rfl rfl rfl rfl rfl rfl rfl rfl rfl rfl rfl rfl rfl rfl rfl rfl rfl rfl rfl rfl rfl rfl rfl rfl rfl rfl rfl rfl rfl rfl rfl rfl rfl rfl rfl rfl rfl) ?_
      refine z_istore_n C [(1, .int (nI dx1)), (0, .ref (ad 0))] dX5_standByDraw_34 rfl (by decide) rfl ?_
      refine z_aload_n C dX5_standByDraw_35 rfl (show zlk _ 0 = some (.ref (ad 0)) from rfl) ?_
      refine z_aload_n C dX5_standByDraw_36 rfl (show zlk _ 0 = some (.ref (ad 0)) from rfl) ?_
      refine z_get C hinX5 0 cc_0 rfl 1 (by decide) (by decide +kernel) cg_0_1 dX5_standByDraw_37 ?_
      refine z_getN C (host := "GnatPortraits") hinX0 3 cc_3 rfl 3 (by decide) (by decide +kernel) ch_3_3 dX5_standByDraw_40 ?_
      refine z_callVi C (As := [.int (nI (n 11))]) (rest := []) (c_X5_nextDraw l θ ea ad (cnv sx1 (n 1) (n 2) (n 3) (n 4) (n 5) (n 6) (n 7) (n 8) (n 9) (n 10) (n 11) (n 12) (n 13) (n 14) (n 15) (n 16) (n 17) (n 18) (n 19) (n 20)) g b r V (n 11) (show 0 < n 11 by omega) (show n 11 < 2 ^ 31 by omega) ls1) gX5_standByDraw_X5_nextDraw rfl 1 (by decide +kernel) (by decide) (by decide) 0 rfl rfl rfl rfl rfl (Nat.le_of_ble_eq_true rfl) dX5_standByDraw_43 ?_
      rintro _ _ ⟨sx2, dx2, es2, ed2, ls2, ld2, rfl, rfl⟩
      replace es2 : sx2 = m_sd (sx1) := es2
      replace ed2 : dx2 = m_dv (sx1) (n 11) := ed2
      replace ld2 : dx2 < (n 11) := ld2
      refine z_top (v' := .int (nI dx2)) rfl ?_
      refine z_X (Y := CW θ ea ad (cnv sx2 (n 1) (n 2) (n 3) (n 4) (n 5) (n 6) (n 7) (n 8) (n 9) (n 10) (n 11) (n 12) (n 13) (n 14) (n 15) (n 16) (n 17) (n 18) (n 19) (n 20)) g b r V) (cw_eq rfl rfl rfl rfl rfl rfl rfl rfl rfl rfl rfl rfl rfl rfl rfl rfl rfl rfl rfl rfl rfl rfl rfl rfl rfl rfl rfl rfl rfl rfl rfl rfl rfl rfl rfl rfl rfl rfl rfl rfl rfl rfl rfl rfl rfl rfl rfl rfl rfl rfl rfl) ?_
      refine z_istore_n C [(2, .int (nI dx2)), (1, .int (nI dx1)), (0, .ref (ad 0))] dX5_standByDraw_46 rfl (by decide) rfl ?_
      refine z_aload_n C dX5_standByDraw_47 rfl (show zlk _ 0 = some (.ref (ad 0)) from rfl) ?_
      refine z_iload_n C dX5_standByDraw_48 rfl (show zlk _ 2 = some (.int (nI dx2)) from rfl) ?_
      refine z_callVi C (As := [.int (nI dx2)]) (rest := []) (c_X5_isWindow l θ ea ad (cnv sx2 (n 1) (n 2) (n 3) (n 4) (n 5) (n 6) (n 7) (n 8) (n 9) (n 10) (n 11) (n 12) (n 13) (n 14) (n 15) (n 16) (n 17) (n 18) (n 19) (n 20)) g b r V (nI dx2) (show n 11 ≤ 6 by omega)) gX5_standByDraw_X5_isWindow rfl 1 (by decide +kernel) (by decide) (by decide) 0 rfl rfl rfl rfl rfl (Nat.le_of_ble_eq_true rfl) dX5_standByDraw_49 ?_
      rintro _ _ ⟨rfl, rfl⟩
      refine z_top (v' := .int (bI (okN (nI dx2) (n 11)))) rfl ?_
      refine z_if_eqB C 77 dX5_standByDraw_52 (by decide) (fun h => absurd h (by rw [okN_lt ld2 (by omega)]; decide)) (fun _ => ?_)
      refine z_aload_n C dX5_standByDraw_55 rfl (show zlk _ 0 = some (.ref (ad 0)) from rfl) ?_
      refine z_get C hinX5 0 cc_0 rfl 2 (by decide) (by decide +kernel) cg_0_2 dX5_standByDraw_56 ?_
      refine z_getN C (host := "GnatPortraits") hinX1 4 cc_4 rfl 9 (by decide) (by decide +kernel) cg_4_9 dX5_standByDraw_59 ?_
      refine z_iload_n C dX5_standByDraw_62 rfl (show zlk _ 2 = some (.int (nI dx2)) from rfl) ?_
      refine z_iald C (f := (r 8)) 19 ca_19 dx2 rfl (by omega) (by decide) dX5_standByDraw_63 ?_
      refine z_iconst C (v := (-1)) dX5_standByDraw_64 (by decide) ?_
      refine z_icmp_ne C 77 dX5_standByDraw_65 (by decide) (fun h65t_3 => ?_) (fun h65n_3 => ?_)
      · exact E _ _ _ (by subst_vars; unfold eSt; rw [if_neg (by omega), if_neg (by omega), if_neg h65t_3] <;> exact (cw_eq rfl rfl rfl rfl rfl rfl rfl rfl rfl rfl rfl rfl rfl rfl rfl rfl rfl rfl rfl rfl rfl rfl rfl rfl rfl rfl rfl rfl rfl rfl rfl rfl rfl rfl rfl rfl rfl rfl rfl rfl rfl rfl rfl rfl rfl rfl rfl rfl rfl rfl rfl)) dX5_standByDraw_77
      · refine z_aload_n C dX5_standByDraw_68 rfl (show zlk _ 0 = some (.ref (ad 0)) from rfl) ?_
        refine z_get C hinX5 0 cc_0 rfl 2 (by decide) (by decide +kernel) cg_0_2 dX5_standByDraw_69 ?_
        refine z_iload_n C dX5_standByDraw_72 rfl (show zlk _ 1 = some (.int (nI dx1)) from rfl) ?_
        refine z_iload_n C dX5_standByDraw_73 rfl (show zlk _ 2 = some (.int (nI dx2)) from rfl) ?_
        refine z_callNv C (As := [.int (nI dx1), .int (nI dx2)]) (rest := []) (host := "GnatPortraits") (c_X1_moveTo l θ ea ad (cnv sx2 (n 1) (n 2) (n 3) (n 4) (n 5) (n 6) (n 7) (n 8) (n 9) (n 10) (n 11) (n 12) (n 13) (n 14) (n 15) (n 16) (n 17) (n 18) (n 19) (n 20)) g b r V (nI dx1) dx2 (by omega)) gX5_standByDraw_X1_moveTo_n196 rfl 2 (by decide +kernel) (by decide +kernel) (by decide +kernel) (by decide +kernel) (by decide +kernel) (by decide) (by decide) 4 rfl rfl rfl rfl rfl (Nat.le_of_ble_eq_true rfl) dX5_standByDraw_74 ?_
        rintro _ rfl
        refine z_X (Y := CW θ ea ad (cnv sx2 (n 1) (n 2) (n 3) (n 4) (n 5) (n 6) (n 7) (n 8) (n 9) (n 10) (n 11) (n 12) (n 13) (n 14) (n 15) (n 16) (n 17) (n 18) (n 19) (n 20)) g b (crv (r 0) (r 1) (r 2) (r 3) (r 4) (r 5) (r 6) (r 7) (upd (k_mv (r 8) (nI dx1) 5) dx2 (nI dx1)) (r 9) (r 10) (r 11) (r 12) (r 13) (r 14) (r 15) (r 16) (r 17) (r 18)) V) (cw_eq rfl rfl rfl rfl rfl rfl rfl rfl rfl rfl rfl rfl rfl rfl rfl rfl rfl rfl rfl rfl rfl rfl rfl rfl rfl rfl rfl rfl rfl rfl rfl rfl rfl rfl rfl rfl rfl rfl rfl rfl rfl rfl rfl rfl rfl rfl rfl rfl rfl rfl rfl) ?_
        exact E _ _ _ (by subst_vars; unfold eSt; rw [if_neg (by omega), if_neg (by omega), if_pos h65n_3] <;> exact (cw_eq rfl rfl rfl rfl rfl rfl rfl rfl rfl rfl rfl rfl rfl rfl rfl rfl rfl rfl rfl rfl rfl rfl rfl rfl rfl rfl rfl rfl rfl rfl rfl rfl rfl rfl rfl rfl rfl rfl rfl rfl rfl rfl rfl rfl rfl rfl rfl rfl rfl rfl rfl)) dX5_standByDraw_77
    · exact E _ _ _ (by subst_vars; unfold eSt; rw [if_neg (by omega), if_pos (by omega)] <;> exact (cw_eq rfl rfl rfl rfl rfl rfl rfl rfl rfl rfl rfl rfl rfl rfl rfl rfl rfl rfl rfl rfl rfl rfl rfl rfl rfl rfl rfl rfl rfl rfl rfl rfl rfl rfl rfl rfl rfl rfl rfl rfl rfl rfl rfl rfl rfl rfl rfl rfl rfl rfl rfl)) dX5_standByDraw_22

noncomputable def chE (s S W : Nat) (e : Ev) : Nat × Ev :=
  if m_dv s 6 = 0 then (m_sd (m_sd s), ((nI (m_dv (m_sd s) 7) - nI 3, e.1.2), e.2))
  else if m_dv s 6 = 1 then (m_sd (m_sd s), ((e.1.1, nI (m_dv (m_sd s) 64), e.1.2.2), e.2))
  else if m_dv s 6 = 2 then (m_sd (m_sd s), ((e.1.1, e.1.2.1, e.1.2.2.1 ||| (nI 1 <<< (nI (m_dv (m_sd s) 30) &&& 31)), e.1.2.2.2), e.2))
  else if m_dv s 6 = 3 then (m_sd s, ((e.1.1, e.1.2.1, e.1.2.2.1, true, e.1.2.2.2.2), e.2))
  else if m_dv s 6 = 4 then ((eSt (m_sd s) S W e.2.2.1).1, (e.1, (e.2.1, (eSt (m_sd s) S W e.2.2.1).2, e.2.2.2)))
  else (m_sd s, e)
theorem chE_at (s S W : Nat) (e : Ev) : (chE s S W e).2.1.2.2.2.2.2 = e.1.2.2.2.2.2 := by
  unfold chE
  repeat' split
  all_goals rfl
theorem eSt_lt {s0 S W : Nat} {f : Nat → Int32} (h : s0 < 2 ^ 31) : (eSt s0 S W f).1 < 2 ^ 31 := by
  unfold eSt
  repeat' split
  all_goals first | exact h | exact m_sd_lt _
theorem chE_lt (s S W : Nat) (e : Ev) : (chE s S W e).1 < 2 ^ 31 := by
  unfold chE
  repeat' split
  all_goals first | exact m_sd_lt _ | exact eSt_lt (m_sd_lt _)
set_option maxHeartbeats 4000000 in
set_option maxRecDepth 100000 in
theorem c_X5_happenByDraw (l : Launch) (θ : zH) (ea : Nat → Nat → Nat) (ad : Nat → Nat) (n : Nat → Nat) (g : Nat → Int32) (b : Nat → Bool) (r : Nat → Nat → Int32) (V : Nat → Ev)  (hW : n 11 ≤ 5) (hS : n 10 ≤ 6) (h0 : n 0 < 2 ^ 31) : cV l yX5_happenByDraw wsX5_happenByDraw 2 θ [.ref (ad 0)] (CW θ ea ad n g b r V) (fun Y => Y = CW θ ea ad (cnv ((chE (n 0) (n 10) (n 11) (nowE n g b r)).1) (n 1) (n 2) (n 3) (n 4) (n 5) (n 6) (n 7) (n 8) (n 9) (n 10) (n 11) (n 12) (((chE (n 0) (n 10) (n 11) (nowE n g b r)).2).1.2.2.2.2.2.1) (((chE (n 0) (n 10) (n 11) (nowE n g b r)).2).1.2.2.2.2.2.2.1) (((chE (n 0) (n 10) (n 11) (nowE n g b r)).2).1.2.2.2.2.2.2.2) (n 16) (n 17) (n 18) (n 19) (n 20)) (cgv (g 0) (g 1) (g 2) (((chE (n 0) (n 10) (n 11) (nowE n g b r)).2).1.1) (((chE (n 0) (n 10) (n 11) (nowE n g b r)).2).1.2.1) (((chE (n 0) (n 10) (n 11) (nowE n g b r)).2).1.2.2.1) (((chE (n 0) (n 10) (n 11) (nowE n g b r)).2).1.2.2.2.2.1)) (cbv (b 0) (b 1) (((chE (n 0) (n 10) (n 11) (nowE n g b r)).2).1.2.2.2.1)) (crv (r 0) (r 1) (r 2) (r 3) (r 4) (r 5) (r 6) (((chE (n 0) (n 10) (n 11) (nowE n g b r)).2).2.1) (((chE (n 0) (n 10) (n 11) (nowE n g b r)).2).2.2.1) (((chE (n 0) (n 10) (n 11) (nowE n g b r)).2).2.2.2.1) (((chE (n 0) (n 10) (n 11) (nowE n g b r)).2).2.2.2.2.1) (((chE (n 0) (n 10) (n 11) (nowE n g b r)).2).2.2.2.2.2.1) (((chE (n 0) (n 10) (n 11) (nowE n g b r)).2).2.2.2.2.2.2) (r 13) (r 14) (r 15) (r 16) (r 17) (r 18)) V) := by
  refine z_cV (by decide) rfl rfl (Nat.le_of_ble_eq_true rfl) (lv := [(0, .ref (ad 0))]) rfl (fun κ C E => ?_)
  have hinX1 : ∀ w ∈ wsX10, w ∈ wsX5_happenByDraw := by decide +kernel
  have hinX5 : ∀ w ∈ wsX50, w ∈ wsX5_happenByDraw := by decide +kernel
  refine z_aload_n C dX5_happenByDraw_0 rfl (show zlk _ 0 = some (.ref (ad 0)) from rfl) ?_
  refine z_bipush C (v := nI 6) dX5_happenByDraw_1 (by decide) ?_
  refine z_callVi C (As := [.int (nI 6)]) (rest := []) (c_X5_nextDraw l θ ea ad n g b r V 6 (by decide) (by decide) h0) gX5_happenByDraw_X5_nextDraw rfl 1 (by decide +kernel) (by decide) (by decide) 0 rfl rfl rfl rfl rfl (Nat.le_of_ble_eq_true rfl) dX5_happenByDraw_3 ?_
  rintro _ _ ⟨sx3, dx3, es3, ed3, ls3, ld3, rfl, rfl⟩
  replace es3 : sx3 = m_sd (n 0) := es3
  replace ed3 : dx3 = m_dv (n 0) 6 := ed3
  replace ld3 : dx3 < 6 := ld3
  refine z_X (Y := CW θ ea ad (cnv sx3 (n 1) (n 2) (n 3) (n 4) (n 5) (n 6) (n 7) (n 8) (n 9) (n 10) (n 11) (n 12) (n 13) (n 14) (n 15) (n 16) (n 17) (n 18) (n 19) (n 20)) g b r V) (cw_eq rfl rfl rfl rfl rfl rfl rfl rfl rfl rfl rfl rfl rfl rfl rfl rfl rfl rfl rfl rfl rfl rfl rfl rfl rfl rfl rfl rfl rfl rfl rfl rfl rfl rfl rfl rfl rfl rfl rfl rfl rfl rfl rfl rfl rfl rfl rfl rfl rfl rfl rfl) ?_
  rcases (show dx3 = 0 ∨ dx3 = 1 ∨ dx3 = 2 ∨ dx3 = 3 ∨ dx3 = 4 ∨ dx3 = 5 by omega) with hc0 | hc1 | hc2 | hc3 | hc4 | hc5
  · refine z_top (v' := .int (nI 0)) (by rw [hc0]) ?_
    refine z_tableIn C 40 dX5_happenByDraw_6 (by decide) (by decide) (off := 34) (by decide) (by decide) ?_
    refine z_aload_n C dX5_happenByDraw_40 rfl (show zlk _ 0 = some (.ref (ad 0)) from rfl) ?_
    refine z_get C hinX5 0 cc_0 rfl 2 (by decide) (by decide +kernel) cg_0_2 dX5_happenByDraw_41 ?_
    refine z_aload_n C dX5_happenByDraw_44 rfl (show zlk _ 0 = some (.ref (ad 0)) from rfl) ?_
    refine z_bipush C (v := nI 7) dX5_happenByDraw_45 (by decide) ?_
    refine z_callVi C (As := [.int (nI 7)]) (rest := [.ref (ad 4)]) (c_X5_nextDraw l θ ea ad (cnv sx3 (n 1) (n 2) (n 3) (n 4) (n 5) (n 6) (n 7) (n 8) (n 9) (n 10) (n 11) (n 12) (n 13) (n 14) (n 15) (n 16) (n 17) (n 18) (n 19) (n 20)) g b r V 7 (by decide) (by decide) ls3) gX5_happenByDraw_X5_nextDraw rfl 1 (by decide +kernel) (by decide) (by decide) 0 rfl rfl rfl rfl rfl (Nat.le_of_ble_eq_true rfl) dX5_happenByDraw_47 ?_
    rintro _ _ ⟨sx4, dx4, es4, ed4, ls4, ld4, rfl, rfl⟩
    replace es4 : sx4 = m_sd (sx3) := es4
    replace ed4 : dx4 = m_dv (sx3) 7 := ed4
    replace ld4 : dx4 < 7 := ld4
    refine z_top (v' := .int (nI dx4)) rfl ?_
    refine z_X (Y := CW θ ea ad (cnv sx4 (n 1) (n 2) (n 3) (n 4) (n 5) (n 6) (n 7) (n 8) (n 9) (n 10) (n 11) (n 12) (n 13) (n 14) (n 15) (n 16) (n 17) (n 18) (n 19) (n 20)) g b r V) (cw_eq rfl rfl rfl rfl rfl rfl rfl rfl rfl rfl rfl rfl rfl rfl rfl rfl rfl rfl rfl rfl rfl rfl rfl rfl rfl rfl rfl rfl rfl rfl rfl rfl rfl rfl rfl rfl rfl rfl rfl rfl rfl rfl rfl rfl rfl rfl rfl rfl rfl rfl rfl) ?_
    refine z_iconst C (v := nI 3) dX5_happenByDraw_50 (by decide) ?_
    refine z_isub C dX5_happenByDraw_51 ?_
    refine z_putN C (host := "GnatPortraits") hinX1 tyX1 tyX1_ok nmX1 4 cc_4 rfl 0 (by decide) (by decide +kernel) rfl rfl rfl rfl (Nat.le_of_ble_eq_true rfl) _ cp_4_0 dX5_happenByDraw_52 ?_
    refine z_goto C 115 dX5_happenByDraw_55 (by decide) ?_
    exact E _ _ _ (by subst_vars; unfold chE; rw [if_pos hc0] <;> exact (cw_eq rfl rfl rfl rfl rfl rfl rfl rfl rfl rfl rfl rfl rfl rfl rfl rfl rfl rfl rfl rfl rfl rfl rfl rfl rfl rfl rfl rfl rfl rfl rfl rfl rfl rfl rfl rfl rfl rfl rfl rfl rfl rfl rfl rfl rfl rfl rfl rfl rfl rfl rfl)) dX5_happenByDraw_115
  · refine z_top (v' := .int (nI 1)) (by rw [hc1]) ?_
    refine z_tableIn C 58 dX5_happenByDraw_6 (by decide) (by decide) (off := 52) (by decide) (by decide) ?_
    refine z_aload_n C dX5_happenByDraw_58 rfl (show zlk _ 0 = some (.ref (ad 0)) from rfl) ?_
    refine z_get C hinX5 0 cc_0 rfl 2 (by decide) (by decide +kernel) cg_0_2 dX5_happenByDraw_59 ?_
    refine z_aload_n C dX5_happenByDraw_62 rfl (show zlk _ 0 = some (.ref (ad 0)) from rfl) ?_
    refine z_bipush C (v := nI 64) dX5_happenByDraw_63 (by decide) ?_
    refine z_callVi C (As := [.int (nI 64)]) (rest := [.ref (ad 4)]) (c_X5_nextDraw l θ ea ad (cnv sx3 (n 1) (n 2) (n 3) (n 4) (n 5) (n 6) (n 7) (n 8) (n 9) (n 10) (n 11) (n 12) (n 13) (n 14) (n 15) (n 16) (n 17) (n 18) (n 19) (n 20)) g b r V 64 (by decide) (by decide) ls3) gX5_happenByDraw_X5_nextDraw rfl 1 (by decide +kernel) (by decide) (by decide) 0 rfl rfl rfl rfl rfl (Nat.le_of_ble_eq_true rfl) dX5_happenByDraw_65 ?_
    rintro _ _ ⟨sx5, dx5, es5, ed5, ls5, ld5, rfl, rfl⟩
    replace es5 : sx5 = m_sd (sx3) := es5
    replace ed5 : dx5 = m_dv (sx3) 64 := ed5
    replace ld5 : dx5 < 64 := ld5
    refine z_top (v' := .int (nI dx5)) rfl ?_
    refine z_X (Y := CW θ ea ad (cnv sx5 (n 1) (n 2) (n 3) (n 4) (n 5) (n 6) (n 7) (n 8) (n 9) (n 10) (n 11) (n 12) (n 13) (n 14) (n 15) (n 16) (n 17) (n 18) (n 19) (n 20)) g b r V) (cw_eq rfl rfl rfl rfl rfl rfl rfl rfl rfl rfl rfl rfl rfl rfl rfl rfl rfl rfl rfl rfl rfl rfl rfl rfl rfl rfl rfl rfl rfl rfl rfl rfl rfl rfl rfl rfl rfl rfl rfl rfl rfl rfl rfl rfl rfl rfl rfl rfl rfl rfl rfl) ?_
    refine z_putN C (host := "GnatPortraits") hinX1 tyX1 tyX1_ok nmX1 4 cc_4 rfl 1 (by decide) (by decide +kernel) rfl rfl rfl rfl (Nat.le_of_ble_eq_true rfl) _ cp_4_1 dX5_happenByDraw_68 ?_
    refine z_goto C 115 dX5_happenByDraw_71 (by decide) ?_
    exact E _ _ _ (by subst_vars; unfold chE; rw [if_neg (by rw [hc1]; decide), if_pos hc1] <;> exact (cw_eq rfl rfl rfl rfl rfl rfl rfl rfl rfl rfl rfl rfl rfl rfl rfl rfl rfl rfl rfl rfl rfl rfl rfl rfl rfl rfl rfl rfl rfl rfl rfl rfl rfl rfl rfl rfl rfl rfl rfl rfl rfl rfl rfl rfl rfl rfl rfl rfl rfl rfl rfl)) dX5_happenByDraw_115
  · refine z_top (v' := .int (nI 2)) (by rw [hc2]) ?_
    refine z_tableIn C 74 dX5_happenByDraw_6 (by decide) (by decide) (off := 68) (by decide) (by decide) ?_
    refine z_aload_n C dX5_happenByDraw_74 rfl (show zlk _ 0 = some (.ref (ad 0)) from rfl) ?_
    refine z_get C hinX5 0 cc_0 rfl 2 (by decide) (by decide +kernel) cg_0_2 dX5_happenByDraw_75 ?_
    refine z_dup C dX5_happenByDraw_78 rfl ?_
    refine z_getN C (host := "GnatPortraits") hinX1 4 cc_4 rfl 2 (by decide) (by decide +kernel) cg_4_2 dX5_happenByDraw_79 ?_
    refine z_iconst C (v := nI 1) dX5_happenByDraw_82 (by decide) ?_
    refine z_aload_n C dX5_happenByDraw_83 rfl (show zlk _ 0 = some (.ref (ad 0)) from rfl) ?_
    refine z_bipush C (v := nI 30) dX5_happenByDraw_84 (by decide) ?_
    refine z_callVi C (As := [.int (nI 30)]) (rest := [.int (nI 1), .int (g 5), .ref (ad 4)]) (c_X5_nextDraw l θ ea ad (cnv sx3 (n 1) (n 2) (n 3) (n 4) (n 5) (n 6) (n 7) (n 8) (n 9) (n 10) (n 11) (n 12) (n 13) (n 14) (n 15) (n 16) (n 17) (n 18) (n 19) (n 20)) g b r V 30 (by decide) (by decide) ls3) gX5_happenByDraw_X5_nextDraw rfl 1 (by decide +kernel) (by decide) (by decide) 0 rfl rfl rfl rfl rfl (Nat.le_of_ble_eq_true rfl) dX5_happenByDraw_86 ?_
    rintro _ _ ⟨sx6, dx6, es6, ed6, ls6, ld6, rfl, rfl⟩
    replace es6 : sx6 = m_sd (sx3) := es6
    replace ed6 : dx6 = m_dv (sx3) 30 := ed6
    replace ld6 : dx6 < 30 := ld6
    refine z_top (v' := .int (nI dx6)) rfl ?_
    refine z_X (Y := CW θ ea ad (cnv sx6 (n 1) (n 2) (n 3) (n 4) (n 5) (n 6) (n 7) (n 8) (n 9) (n 10) (n 11) (n 12) (n 13) (n 14) (n 15) (n 16) (n 17) (n 18) (n 19) (n 20)) g b r V) (cw_eq rfl rfl rfl rfl rfl rfl rfl rfl rfl rfl rfl rfl rfl rfl rfl rfl rfl rfl rfl rfl rfl rfl rfl rfl rfl rfl rfl rfl rfl rfl rfl rfl rfl rfl rfl rfl rfl rfl rfl rfl rfl rfl rfl rfl rfl rfl rfl rfl rfl rfl rfl) ?_
    refine z_ishl C dX5_happenByDraw_89 ?_
    refine z_ior C dX5_happenByDraw_90 ?_
    refine z_putN C (host := "GnatPortraits") hinX1 tyX1 tyX1_ok nmX1 4 cc_4 rfl 2 (by decide) (by decide +kernel) rfl rfl rfl rfl (Nat.le_of_ble_eq_true rfl) _ cp_4_2 dX5_happenByDraw_91 ?_
    refine z_goto C 115 dX5_happenByDraw_94 (by decide) ?_
    exact E _ _ _ (by subst_vars; unfold chE; rw [if_neg (by rw [hc2]; decide), if_neg (by rw [hc2]; decide), if_pos hc2] <;> exact (cw_eq rfl rfl rfl rfl rfl rfl rfl rfl rfl rfl rfl rfl rfl rfl rfl rfl rfl rfl rfl rfl rfl rfl rfl rfl rfl rfl rfl rfl rfl rfl rfl rfl rfl rfl rfl rfl rfl rfl rfl rfl rfl rfl rfl rfl rfl rfl rfl rfl rfl rfl rfl)) dX5_happenByDraw_115
  · refine z_top (v' := .int (nI 3)) (by rw [hc3]) ?_
    refine z_tableIn C 97 dX5_happenByDraw_6 (by decide) (by decide) (off := 91) (by decide) (by decide) ?_
    refine z_aload_n C dX5_happenByDraw_97 rfl (show zlk _ 0 = some (.ref (ad 0)) from rfl) ?_
    refine z_get C hinX5 0 cc_0 rfl 2 (by decide) (by decide +kernel) cg_0_2 dX5_happenByDraw_98 ?_
    refine z_iconst C (v := nI 1) dX5_happenByDraw_101 (by decide) ?_
    refine z_top (v' := .int (bI true)) rfl ?_
    refine z_putN C (host := "GnatPortraits") hinX1 tyX1 tyX1_ok nmX1 4 cc_4 rfl 3 (by decide) (by decide +kernel) rfl rfl (bI_n _) (bI_f2 _) (Nat.le_of_ble_eq_true rfl) _ cp_4_3 dX5_happenByDraw_102 ?_
    refine z_goto C 115 dX5_happenByDraw_105 (by decide) ?_
    exact E _ _ _ (by subst_vars; unfold chE; rw [if_neg (by rw [hc3]; decide), if_neg (by rw [hc3]; decide), if_neg (by rw [hc3]; decide), if_pos hc3] <;> exact (cw_eq rfl rfl rfl rfl rfl rfl rfl rfl rfl rfl rfl rfl rfl rfl rfl rfl rfl rfl rfl rfl rfl rfl rfl rfl rfl rfl rfl rfl rfl rfl rfl rfl rfl rfl rfl rfl rfl rfl rfl rfl rfl rfl rfl rfl rfl rfl rfl rfl rfl rfl rfl)) dX5_happenByDraw_115
  · refine z_top (v' := .int (nI 4)) (by rw [hc4]) ?_
    refine z_tableIn C 108 dX5_happenByDraw_6 (by decide) (by decide) (off := 102) (by decide) (by decide) ?_
    refine z_aload_n C dX5_happenByDraw_108 rfl (show zlk _ 0 = some (.ref (ad 0)) from rfl) ?_
    refine z_callVv C (As := []) (rest := []) (c_X5_standByDraw l θ ea ad (cnv sx3 (n 1) (n 2) (n 3) (n 4) (n 5) (n 6) (n 7) (n 8) (n 9) (n 10) (n 11) (n 12) (n 13) (n 14) (n 15) (n 16) (n 17) (n 18) (n 19) (n 20)) g b r V hW hS ls3) gX5_happenByDraw_X5_standByDraw rfl 0 (by decide +kernel) (by decide) (by decide) 0 rfl rfl rfl rfl rfl (Nat.le_of_ble_eq_true rfl) dX5_happenByDraw_109 ?_
    rintro _ rfl
    refine z_X (Y := CW θ ea ad (cnv ((eSt (sx3) (n 10) (n 11) (r 8)).1) (n 1) (n 2) (n 3) (n 4) (n 5) (n 6) (n 7) (n 8) (n 9) (n 10) (n 11) (n 12) (n 13) (n 14) (n 15) (n 16) (n 17) (n 18) (n 19) (n 20)) g b (crv (r 0) (r 1) (r 2) (r 3) (r 4) (r 5) (r 6) (r 7) ((eSt (sx3) (n 10) (n 11) (r 8)).2) (r 9) (r 10) (r 11) (r 12) (r 13) (r 14) (r 15) (r 16) (r 17) (r 18)) V) (cw_eq rfl rfl rfl rfl rfl rfl rfl rfl rfl rfl rfl rfl rfl rfl rfl rfl rfl rfl rfl rfl rfl rfl rfl rfl rfl rfl rfl rfl rfl rfl rfl rfl rfl rfl rfl rfl rfl rfl rfl rfl rfl rfl rfl rfl rfl rfl rfl rfl rfl rfl rfl) ?_
    refine z_goto C 115 dX5_happenByDraw_112 (by decide) ?_
    exact E _ _ _ (by subst_vars; unfold chE; rw [if_neg (by rw [hc4]; decide), if_neg (by rw [hc4]; decide), if_neg (by rw [hc4]; decide), if_neg (by rw [hc4]; decide), if_pos hc4] <;> exact (cw_eq rfl rfl rfl rfl rfl rfl rfl rfl rfl rfl rfl rfl rfl rfl rfl rfl rfl rfl rfl rfl rfl rfl rfl rfl rfl rfl rfl rfl rfl rfl rfl rfl rfl rfl rfl rfl rfl rfl rfl rfl rfl rfl rfl rfl rfl rfl rfl rfl rfl rfl rfl)) dX5_happenByDraw_115
  · refine z_top (v' := .int (nI 5)) (by rw [hc5]) ?_
    refine z_tableOut C 115 dX5_happenByDraw_6 (by decide) (by decide) ?_
    exact E _ _ _ (by subst_vars; unfold chE; rw [if_neg (by rw [hc5]; decide), if_neg (by rw [hc5]; decide), if_neg (by rw [hc5]; decide), if_neg (by rw [hc5]; decide), if_neg (by rw [hc5]; decide)] <;> exact (cw_eq rfl rfl rfl rfl rfl rfl rfl rfl rfl rfl rfl rfl rfl rfl rfl rfl rfl rfl rfl rfl rfl rfl rfl rfl rfl rfl rfl rfl rfl rfl rfl rfl rfl rfl rfl rfl rfl rfl rfl rfl rfl rfl rfl rfl rfl rfl rfl rfl rfl rfl rfl)) dX5_happenByDraw_115

noncomputable def eDf (S G W : Nat) (o : Nat → Int32) (s : Nat) (e : Ev) : Nat → Nat × Ev
  | 0 => (s, e)
  | i + 1 => ((chE (eDf S G W o s e i).1 S W (eDf S G W o s e i).2).1, ePass S G W o (chE (eDf S G W o s e i).1 S W (eDf S G W o s e i).2).2)
theorem chE_ok {s S W : Nat} {e : Ev} (h : eOk e) : eOk (chE s S W e).2 := by
  unfold eOk
  rw [chE_at]
  exact h
theorem eDf_ok {S G W s : Nat} {o : Nat → Int32} {e : Ev} (h : eOk e) : ∀ i, eOk (eDf S G W o s e i).2
  | 0 => h
  | i + 1 => ePass_ok (chE_ok (eDf_ok h i))
theorem eDf_s {S G W s : Nat} {o : Nat → Int32} {e : Ev} (h : s < 2 ^ 31) : ∀ i, (eDf S G W o s e i).1 < 2 ^ 31
  | 0 => h
  | i + 1 => chE_lt _ _ _ _
theorem eDf_d {S G W s : Nat} {o : Nat → Int32} {e : Ev} : ∀ i, (eDf S G W o s e i).2.1.2.2.2.2.2.1 = e.1.2.2.2.2.2.1 + i
  | 0 => rfl
  | i + 1 => by
    show (chE (eDf S G W o s e i).1 S W (eDf S G W o s e i).2).2.1.2.2.2.2.2.1 + 1 = _
    rw [chE_at, eDf_d i]; omega
set_option maxHeartbeats 4000000 in
set_option maxRecDepth 100000 in
theorem c_X5_drift_4 (l : Launch) (θ : zH) (ea : Nat → Nat → Nat) (ad : Nat → Nat) (n : Nat → Nat) (g : Nat → Int32) (b : Nat → Bool) (r : Nat → Nat → Int32) (V : Nat → Ev) (m : Nat) (hm : 1 ≤ m) (hm2 : m ≤ 60) (hW : n 11 ≤ 5) (hS : n 10 ≤ 6) (h9 : n 9 ≤ 30) (hz : n 14 ≤ 20) (hn : n 15 < 20) (hd : n 13 < 2 ^ 30) (hg : b 1 = true) (hl : n 13 ≤ 9000) (h17 : n 17 < 16) (h16 : n 16 ≤ 16) (h0 : n 0 < 2 ^ 31) : cI l yX5_drift wsX5_drift 5 θ [.ref (ad 0), .int (nI m)] (CW θ ea ad n g b r V) (fun r0 Y => r0 = nI (eDf (n 10) (n 9) (n 11) (r 4) (n 0) (nowE n g b r) m).2.1.2.2.2.2.2.2.1 ∧ Y = CW θ ea ad (cnv ((eDf (n 10) (n 9) (n 11) (r 4) (n 0) (nowE n g b r) m).1) (n 1) (n 2) (n 3) (n 4) (n 5) (n 6) (n 7) (n 8) (n 9) (n 10) (n 11) (n 12) (((eDf (n 10) (n 9) (n 11) (r 4) (n 0) (nowE n g b r) m).2).1.2.2.2.2.2.1) (((eDf (n 10) (n 9) (n 11) (r 4) (n 0) (nowE n g b r) m).2).1.2.2.2.2.2.2.1) (((eDf (n 10) (n 9) (n 11) (r 4) (n 0) (nowE n g b r) m).2).1.2.2.2.2.2.2.2) (min (n 16 + 1) 16) ((n 17 + 1) % 16) (n 18) (n 19) (n 20)) (cgv (g 0) (g 1) (g 2) (((eDf (n 10) (n 9) (n 11) (r 4) (n 0) (nowE n g b r) m).2).1.1) (((eDf (n 10) (n 9) (n 11) (r 4) (n 0) (nowE n g b r) m).2).1.2.1) (((eDf (n 10) (n 9) (n 11) (r 4) (n 0) (nowE n g b r) m).2).1.2.2.1) (((eDf (n 10) (n 9) (n 11) (r 4) (n 0) (nowE n g b r) m).2).1.2.2.2.2.1)) (cbv (b 0) (b 1) (((eDf (n 10) (n 9) (n 11) (r 4) (n 0) (nowE n g b r) m).2).1.2.2.2.1)) (crv (r 0) (r 1) (r 2) (r 3) (r 4) (r 5) (r 6) (((eDf (n 10) (n 9) (n 11) (r 4) (n 0) (nowE n g b r) m).2).2.1) (((eDf (n 10) (n 9) (n 11) (r 4) (n 0) (nowE n g b r) m).2).2.2.1) (((eDf (n 10) (n 9) (n 11) (r 4) (n 0) (nowE n g b r) m).2).2.2.2.1) (((eDf (n 10) (n 9) (n 11) (r 4) (n 0) (nowE n g b r) m).2).2.2.2.2.1) (((eDf (n 10) (n 9) (n 11) (r 4) (n 0) (nowE n g b r) m).2).2.2.2.2.2.1) (((eDf (n 10) (n 9) (n 11) (r 4) (n 0) (nowE n g b r) m).2).2.2.2.2.2.2) (r 13) (r 14) (r 15) (r 16) (r 17) (r 18)) (va_up V (2 + n 17) ((g 3, g 4, g 5, b 2, g 6, n 13, n 14, n 15), (va_cpy (r 7) (V (2 + n 17)).2.1 0 0 5, va_cpy (r 8) (V (2 + n 17)).2.2.1 0 0 5, va_cpy (r 9) (V (2 + n 17)).2.2.2.1 0 0 4, va_cpy (r 10) (V (2 + n 17)).2.2.2.2.1 0 0 20, va_cpy (r 11) (V (2 + n 17)).2.2.2.2.2.1 0 0 20, va_cpy (r 12) (V (2 + n 17)).2.2.2.2.2.2 0 0 20)))) := by
  have hx := m_in_m hm hm2
  have hok : eOk (nowE n g b r) := ⟨hz, hn⟩
  refine z_cI (by decide) rfl rfl (Nat.le_of_ble_eq_true rfl) (lv := [(0, .ref (ad 0)), (1, .int (nI m))]) rfl (fun κ C E => ?_)
  have hinX1 : ∀ w ∈ wsX10, w ∈ wsX5_drift := by decide +kernel
  have hinX5 : ∀ w ∈ wsX50, w ∈ wsX5_drift := by decide +kernel
  refine z_aload_n C dX5_drift_0 rfl (show zlk _ 0 = some (.ref (ad 0)) from rfl) ?_
  refine z_iload_n C dX5_drift_1 rfl (show zlk _ 1 = some (.int (nI m)) from rfl) ?_
  refine z_callVi C (As := [.int (nI m)]) (rest := []) (c_X5_refusalOfDusks_4 l θ ea ad n g b r V (nI m) hx hg hd hl) gX5_drift_X5_refusalOfDusks rfl 1 (by decide +kernel) (by decide) (by decide) 0 rfl rfl rfl rfl rfl (Nat.le_of_ble_eq_true rfl) dX5_drift_2 ?_
  rintro _ _ ⟨rfl, rfl⟩
  refine z_istore_n C [(2, .int (nI 0)), (0, .ref (ad 0)), (1, .int (nI m))] dX5_drift_5 rfl (by decide) rfl ?_
  refine z_iload_n C dX5_drift_6 rfl (show zlk _ 2 = some (.int (nI 0)) from rfl) ?_
  refine z_if_eqN C 12 dX5_drift_7 (by decide) (by decide) (fun _ => ?_) (fun h => absurd h (by decide))
  refine z_aload_n C dX5_drift_12 rfl (show zlk _ 0 = some (.ref (ad 0)) from rfl) ?_
  refine z_get C hinX5 0 cc_0 rfl 3 (by decide) (by decide +kernel) cg_0_3 dX5_drift_13 ?_
  refine z_aload_n C dX5_drift_16 rfl (show zlk _ 0 = some (.ref (ad 0)) from rfl) ?_
  refine z_get C hinX5 0 cc_0 rfl 2 (by decide) (by decide +kernel) cg_0_2 dX5_drift_17 ?_
  refine z_callNv C (As := [.ref (ad 4)]) (rest := []) (host := "GnatPortraits") (c_X2_remember l θ ea ad n g b r V h17 h16) gX5_drift_X2_remember_n192 rfl 1 (by decide +kernel) (by decide +kernel) (by decide +kernel) (by decide +kernel) (by decide +kernel) (by decide) (by decide) 5 rfl rfl rfl rfl rfl (Nat.le_of_ble_eq_true rfl) dX5_drift_20 ?_
  rintro _ rfl
  refine z_X (Y := CW θ ea ad (cnv (n 0) (n 1) (n 2) (n 3) (n 4) (n 5) (n 6) (n 7) (n 8) (n 9) (n 10) (n 11) (n 12) (n 13) (n 14) (n 15) (min (n 16 + 1) 16) ((n 17 + 1) % 16) (n 18) (n 19) (n 20)) g b r (va_up V (2 + n 17) ((g 3, g 4, g 5, b 2, g 6, n 13, n 14, n 15), (va_cpy (r 7) (V (2 + n 17)).2.1 0 0 5, va_cpy (r 8) (V (2 + n 17)).2.2.1 0 0 5, va_cpy (r 9) (V (2 + n 17)).2.2.2.1 0 0 4, va_cpy (r 10) (V (2 + n 17)).2.2.2.2.1 0 0 20, va_cpy (r 11) (V (2 + n 17)).2.2.2.2.2.1 0 0 20, va_cpy (r 12) (V (2 + n 17)).2.2.2.2.2.2 0 0 20)))) (cw_eq rfl rfl rfl rfl rfl rfl rfl rfl rfl rfl rfl rfl rfl rfl rfl rfl rfl rfl rfl rfl rfl rfl rfl rfl rfl rfl rfl rfl rfl rfl rfl rfl rfl rfl rfl rfl rfl rfl rfl rfl rfl rfl rfl rfl rfl rfl rfl rfl rfl rfl rfl) ?_
  refine z_iconst C (v := nI 0) dX5_drift_23 (by decide) ?_
  refine z_istore_n C [(3, .int (nI 0)), (2, .int (nI 0)), (0, .ref (ad 0)), (1, .int (nI m))] dX5_drift_24 rfl (by decide) rfl ?_
  refine z_lv (lv' := [(0, .ref (ad 0)), (1, .int (nI m)), (3, .int (nI 0))]) rfl ?_
  refine z_X (Y := CW θ ea ad (cnv ((eDf (n 10) (n 9) (n 11) (r 4) (n 0) (nowE n g b r) 0).1) (n 1) (n 2) (n 3) (n 4) (n 5) (n 6) (n 7) (n 8) (n 9) (n 10) (n 11) (n 12) (((eDf (n 10) (n 9) (n 11) (r 4) (n 0) (nowE n g b r) 0).2).1.2.2.2.2.2.1) (((eDf (n 10) (n 9) (n 11) (r 4) (n 0) (nowE n g b r) 0).2).1.2.2.2.2.2.2.1) (((eDf (n 10) (n 9) (n 11) (r 4) (n 0) (nowE n g b r) 0).2).1.2.2.2.2.2.2.2) (min (n 16 + 1) 16) ((n 17 + 1) % 16) (n 18) (n 19) (n 20)) (cgv (g 0) (g 1) (g 2) (((eDf (n 10) (n 9) (n 11) (r 4) (n 0) (nowE n g b r) 0).2).1.1) (((eDf (n 10) (n 9) (n 11) (r 4) (n 0) (nowE n g b r) 0).2).1.2.1) (((eDf (n 10) (n 9) (n 11) (r 4) (n 0) (nowE n g b r) 0).2).1.2.2.1) (((eDf (n 10) (n 9) (n 11) (r 4) (n 0) (nowE n g b r) 0).2).1.2.2.2.2.1)) (cbv (b 0) (b 1) (((eDf (n 10) (n 9) (n 11) (r 4) (n 0) (nowE n g b r) 0).2).1.2.2.2.1)) (crv (r 0) (r 1) (r 2) (r 3) (r 4) (r 5) (r 6) (((eDf (n 10) (n 9) (n 11) (r 4) (n 0) (nowE n g b r) 0).2).2.1) (((eDf (n 10) (n 9) (n 11) (r 4) (n 0) (nowE n g b r) 0).2).2.2.1) (((eDf (n 10) (n 9) (n 11) (r 4) (n 0) (nowE n g b r) 0).2).2.2.2.1) (((eDf (n 10) (n 9) (n 11) (r 4) (n 0) (nowE n g b r) 0).2).2.2.2.2.1) (((eDf (n 10) (n 9) (n 11) (r 4) (n 0) (nowE n g b r) 0).2).2.2.2.2.2.1) (((eDf (n 10) (n 9) (n 11) (r 4) (n 0) (nowE n g b r) 0).2).2.2.2.2.2.2) (r 13) (r 14) (r 15) (r 16) (r 17) (r 18)) (va_up V (2 + n 17) ((g 3, g 4, g 5, b 2, g 6, n 13, n 14, n 15), (va_cpy (r 7) (V (2 + n 17)).2.1 0 0 5, va_cpy (r 8) (V (2 + n 17)).2.2.1 0 0 5, va_cpy (r 9) (V (2 + n 17)).2.2.2.1 0 0 4, va_cpy (r 10) (V (2 + n 17)).2.2.2.2.1 0 0 20, va_cpy (r 11) (V (2 + n 17)).2.2.2.2.2.1 0 0 20, va_cpy (r 12) (V (2 + n 17)).2.2.2.2.2.2 0 0 20)))) (cw_eq rfl rfl rfl rfl rfl rfl rfl rfl rfl rfl rfl rfl rfl rfl rfl rfl rfl rfl rfl rfl rfl rfl rfl rfl rfl rfl rfl rfl rfl rfl rfl rfl rfl rfl rfl rfl rfl rfl rfl rfl rfl rfl rfl rfl rfl rfl rfl rfl rfl rfl rfl) ?_
  refine z_up (fun i => Z κ (CW θ ea ad (cnv ((eDf (n 10) (n 9) (n 11) (r 4) (n 0) (nowE n g b r) i).1) (n 1) (n 2) (n 3) (n 4) (n 5) (n 6) (n 7) (n 8) (n 9) (n 10) (n 11) (n 12) (((eDf (n 10) (n 9) (n 11) (r 4) (n 0) (nowE n g b r) i).2).1.2.2.2.2.2.1) (((eDf (n 10) (n 9) (n 11) (r 4) (n 0) (nowE n g b r) i).2).1.2.2.2.2.2.2.1) (((eDf (n 10) (n 9) (n 11) (r 4) (n 0) (nowE n g b r) i).2).1.2.2.2.2.2.2.2) (min (n 16 + 1) 16) ((n 17 + 1) % 16) (n 18) (n 19) (n 20)) (cgv (g 0) (g 1) (g 2) (((eDf (n 10) (n 9) (n 11) (r 4) (n 0) (nowE n g b r) i).2).1.1) (((eDf (n 10) (n 9) (n 11) (r 4) (n 0) (nowE n g b r) i).2).1.2.1) (((eDf (n 10) (n 9) (n 11) (r 4) (n 0) (nowE n g b r) i).2).1.2.2.1) (((eDf (n 10) (n 9) (n 11) (r 4) (n 0) (nowE n g b r) i).2).1.2.2.2.2.1)) (cbv (b 0) (b 1) (((eDf (n 10) (n 9) (n 11) (r 4) (n 0) (nowE n g b r) i).2).1.2.2.2.1)) (crv (r 0) (r 1) (r 2) (r 3) (r 4) (r 5) (r 6) (((eDf (n 10) (n 9) (n 11) (r 4) (n 0) (nowE n g b r) i).2).2.1) (((eDf (n 10) (n 9) (n 11) (r 4) (n 0) (nowE n g b r) i).2).2.2.1) (((eDf (n 10) (n 9) (n 11) (r 4) (n 0) (nowE n g b r) i).2).2.2.2.1) (((eDf (n 10) (n 9) (n 11) (r 4) (n 0) (nowE n g b r) i).2).2.2.2.2.1) (((eDf (n 10) (n 9) (n 11) (r 4) (n 0) (nowE n g b r) i).2).2.2.2.2.2.1) (((eDf (n 10) (n 9) (n 11) (r 4) (n 0) (nowE n g b r) i).2).2.2.2.2.2.2) (r 13) (r 14) (r 15) (r 16) (r 17) (r 18)) (va_up V (2 + n 17) ((g 3, g 4, g 5, b 2, g 6, n 13, n 14, n 15), (va_cpy (r 7) (V (2 + n 17)).2.1 0 0 5, va_cpy (r 8) (V (2 + n 17)).2.2.1 0 0 5, va_cpy (r 9) (V (2 + n 17)).2.2.2.1 0 0 4, va_cpy (r 10) (V (2 + n 17)).2.2.2.2.1 0 0 20, va_cpy (r 11) (V (2 + n 17)).2.2.2.2.2.1 0 0 20, va_cpy (r 12) (V (2 + n 17)).2.2.2.2.2.2 0 0 20)))) 25 [(0, .ref (ad 0)), (1, .int (nI m)), (3, .int (nI i))] []) (m) ?_ ?_ 0 (by omega)
  · refine z_iload_n C dX5_drift_25 rfl (show zlk _ 3 = some (.int (nI m)) from rfl) ?_
    refine z_iload_n C dX5_drift_26 rfl (show zlk _ 1 = some (.int (nI m)) from rfl) ?_
    refine z_icmp_geT C 44 dX5_drift_27 (by decide) (by omega) (by omega) (by omega) ?_
    refine z_aload_n C dX5_drift_44 rfl (show zlk _ 0 = some (.ref (ad 0)) from rfl) ?_
    refine z_get C hinX5 0 cc_0 rfl 2 (by decide) (by decide +kernel) cg_0_2 dX5_drift_45 ?_
    refine z_getN C (host := "GnatPortraits") hinX1 4 cc_4 rfl 6 (by decide) (by decide +kernel) ch_4_6 dX5_drift_48 ?_
    exact E _ _ _ _ (⟨rfl, (cw_eq rfl rfl rfl rfl rfl rfl rfl rfl rfl rfl rfl rfl rfl rfl rfl rfl rfl rfl rfl rfl rfl rfl rfl rfl rfl rfl rfl rfl rfl rfl rfl rfl rfl rfl rfl rfl rfl rfl rfl rfl rfl rfl rfl rfl rfl rfl rfl rfl rfl rfl rfl)⟩) (rfl) dX5_drift_51
  · intro i hk25 ih25
    refine z_iload_n C dX5_drift_25 rfl (show zlk _ 3 = some (.int (nI i)) from rfl) ?_
    refine z_iload_n C dX5_drift_26 rfl (show zlk _ 1 = some (.int (nI m)) from rfl) ?_
    refine z_icmp_geF C 44 dX5_drift_27 (by decide) (by omega) (by omega) (by omega) ?_
    refine z_aload_n C dX5_drift_30 rfl (show zlk _ 0 = some (.ref (ad 0)) from rfl) ?_
    refine z_callVv C (As := []) (rest := []) (c_X5_happenByDraw l θ ea ad (cnv ((eDf (n 10) (n 9) (n 11) (r 4) (n 0) (nowE n g b r) i).1) (n 1) (n 2) (n 3) (n 4) (n 5) (n 6) (n 7) (n 8) (n 9) (n 10) (n 11) (n 12) (((eDf (n 10) (n 9) (n 11) (r 4) (n 0) (nowE n g b r) i).2).1.2.2.2.2.2.1) (((eDf (n 10) (n 9) (n 11) (r 4) (n 0) (nowE n g b r) i).2).1.2.2.2.2.2.2.1) (((eDf (n 10) (n 9) (n 11) (r 4) (n 0) (nowE n g b r) i).2).1.2.2.2.2.2.2.2) (min (n 16 + 1) 16) ((n 17 + 1) % 16) (n 18) (n 19) (n 20)) (cgv (g 0) (g 1) (g 2) (((eDf (n 10) (n 9) (n 11) (r 4) (n 0) (nowE n g b r) i).2).1.1) (((eDf (n 10) (n 9) (n 11) (r 4) (n 0) (nowE n g b r) i).2).1.2.1) (((eDf (n 10) (n 9) (n 11) (r 4) (n 0) (nowE n g b r) i).2).1.2.2.1) (((eDf (n 10) (n 9) (n 11) (r 4) (n 0) (nowE n g b r) i).2).1.2.2.2.2.1)) (cbv (b 0) (b 1) (((eDf (n 10) (n 9) (n 11) (r 4) (n 0) (nowE n g b r) i).2).1.2.2.2.1)) (crv (r 0) (r 1) (r 2) (r 3) (r 4) (r 5) (r 6) (((eDf (n 10) (n 9) (n 11) (r 4) (n 0) (nowE n g b r) i).2).2.1) (((eDf (n 10) (n 9) (n 11) (r 4) (n 0) (nowE n g b r) i).2).2.2.1) (((eDf (n 10) (n 9) (n 11) (r 4) (n 0) (nowE n g b r) i).2).2.2.2.1) (((eDf (n 10) (n 9) (n 11) (r 4) (n 0) (nowE n g b r) i).2).2.2.2.2.1) (((eDf (n 10) (n 9) (n 11) (r 4) (n 0) (nowE n g b r) i).2).2.2.2.2.2.1) (((eDf (n 10) (n 9) (n 11) (r 4) (n 0) (nowE n g b r) i).2).2.2.2.2.2.2) (r 13) (r 14) (r 15) (r 16) (r 17) (r 18)) (va_up V (2 + n 17) ((g 3, g 4, g 5, b 2, g 6, n 13, n 14, n 15), (va_cpy (r 7) (V (2 + n 17)).2.1 0 0 5, va_cpy (r 8) (V (2 + n 17)).2.2.1 0 0 5, va_cpy (r 9) (V (2 + n 17)).2.2.2.1 0 0 4, va_cpy (r 10) (V (2 + n 17)).2.2.2.2.1 0 0 20, va_cpy (r 11) (V (2 + n 17)).2.2.2.2.2.1 0 0 20, va_cpy (r 12) (V (2 + n 17)).2.2.2.2.2.2 0 0 20))) hW hS (eDf_s h0 i)) gX5_drift_X5_happenByDraw rfl 0 (by decide +kernel) (by decide) (by decide) 0 rfl rfl rfl rfl rfl (Nat.le_of_ble_eq_true rfl) dX5_drift_31 ?_
    rintro _ rfl
    refine z_X (Y := CW θ ea ad (cnv ((chE ((eDf (n 10) (n 9) (n 11) (r 4) (n 0) (nowE n g b r) i).1) (n 10) (n 11) ((eDf (n 10) (n 9) (n 11) (r 4) (n 0) (nowE n g b r) i).2)).1) (n 1) (n 2) (n 3) (n 4) (n 5) (n 6) (n 7) (n 8) (n 9) (n 10) (n 11) (n 12) (((chE ((eDf (n 10) (n 9) (n 11) (r 4) (n 0) (nowE n g b r) i).1) (n 10) (n 11) ((eDf (n 10) (n 9) (n 11) (r 4) (n 0) (nowE n g b r) i).2)).2).1.2.2.2.2.2.1) (((chE ((eDf (n 10) (n 9) (n 11) (r 4) (n 0) (nowE n g b r) i).1) (n 10) (n 11) ((eDf (n 10) (n 9) (n 11) (r 4) (n 0) (nowE n g b r) i).2)).2).1.2.2.2.2.2.2.1) (((chE ((eDf (n 10) (n 9) (n 11) (r 4) (n 0) (nowE n g b r) i).1) (n 10) (n 11) ((eDf (n 10) (n 9) (n 11) (r 4) (n 0) (nowE n g b r) i).2)).2).1.2.2.2.2.2.2.2) (min (n 16 + 1) 16) ((n 17 + 1) % 16) (n 18) (n 19) (n 20)) (cgv (g 0) (g 1) (g 2) (((chE ((eDf (n 10) (n 9) (n 11) (r 4) (n 0) (nowE n g b r) i).1) (n 10) (n 11) ((eDf (n 10) (n 9) (n 11) (r 4) (n 0) (nowE n g b r) i).2)).2).1.1) (((chE ((eDf (n 10) (n 9) (n 11) (r 4) (n 0) (nowE n g b r) i).1) (n 10) (n 11) ((eDf (n 10) (n 9) (n 11) (r 4) (n 0) (nowE n g b r) i).2)).2).1.2.1) (((chE ((eDf (n 10) (n 9) (n 11) (r 4) (n 0) (nowE n g b r) i).1) (n 10) (n 11) ((eDf (n 10) (n 9) (n 11) (r 4) (n 0) (nowE n g b r) i).2)).2).1.2.2.1) (((chE ((eDf (n 10) (n 9) (n 11) (r 4) (n 0) (nowE n g b r) i).1) (n 10) (n 11) ((eDf (n 10) (n 9) (n 11) (r 4) (n 0) (nowE n g b r) i).2)).2).1.2.2.2.2.1)) (cbv (b 0) (b 1) (((chE ((eDf (n 10) (n 9) (n 11) (r 4) (n 0) (nowE n g b r) i).1) (n 10) (n 11) ((eDf (n 10) (n 9) (n 11) (r 4) (n 0) (nowE n g b r) i).2)).2).1.2.2.2.1)) (crv (r 0) (r 1) (r 2) (r 3) (r 4) (r 5) (r 6) (((chE ((eDf (n 10) (n 9) (n 11) (r 4) (n 0) (nowE n g b r) i).1) (n 10) (n 11) ((eDf (n 10) (n 9) (n 11) (r 4) (n 0) (nowE n g b r) i).2)).2).2.1) (((chE ((eDf (n 10) (n 9) (n 11) (r 4) (n 0) (nowE n g b r) i).1) (n 10) (n 11) ((eDf (n 10) (n 9) (n 11) (r 4) (n 0) (nowE n g b r) i).2)).2).2.2.1) (((chE ((eDf (n 10) (n 9) (n 11) (r 4) (n 0) (nowE n g b r) i).1) (n 10) (n 11) ((eDf (n 10) (n 9) (n 11) (r 4) (n 0) (nowE n g b r) i).2)).2).2.2.2.1) (((chE ((eDf (n 10) (n 9) (n 11) (r 4) (n 0) (nowE n g b r) i).1) (n 10) (n 11) ((eDf (n 10) (n 9) (n 11) (r 4) (n 0) (nowE n g b r) i).2)).2).2.2.2.2.1) (((chE ((eDf (n 10) (n 9) (n 11) (r 4) (n 0) (nowE n g b r) i).1) (n 10) (n 11) ((eDf (n 10) (n 9) (n 11) (r 4) (n 0) (nowE n g b r) i).2)).2).2.2.2.2.2.1) (((chE ((eDf (n 10) (n 9) (n 11) (r 4) (n 0) (nowE n g b r) i).1) (n 10) (n 11) ((eDf (n 10) (n 9) (n 11) (r 4) (n 0) (nowE n g b r) i).2)).2).2.2.2.2.2.2) (r 13) (r 14) (r 15) (r 16) (r 17) (r 18)) (va_up V (2 + n 17) ((g 3, g 4, g 5, b 2, g 6, n 13, n 14, n 15), (va_cpy (r 7) (V (2 + n 17)).2.1 0 0 5, va_cpy (r 8) (V (2 + n 17)).2.2.1 0 0 5, va_cpy (r 9) (V (2 + n 17)).2.2.2.1 0 0 4, va_cpy (r 10) (V (2 + n 17)).2.2.2.2.1 0 0 20, va_cpy (r 11) (V (2 + n 17)).2.2.2.2.2.1 0 0 20, va_cpy (r 12) (V (2 + n 17)).2.2.2.2.2.2 0 0 20)))) (cw_eq rfl rfl rfl rfl rfl rfl rfl rfl rfl rfl rfl rfl rfl rfl rfl rfl rfl rfl rfl rfl rfl rfl rfl rfl rfl rfl rfl rfl rfl rfl rfl rfl rfl rfl rfl rfl rfl rfl rfl rfl rfl rfl rfl rfl rfl rfl rfl rfl rfl rfl rfl) ?_
    refine z_aload_n C dX5_drift_34 rfl (show zlk _ 0 = some (.ref (ad 0)) from rfl) ?_
    refine z_callVv C (As := []) (rest := []) (c_X5_passDusk l θ ea ad (cnv ((chE ((eDf (n 10) (n 9) (n 11) (r 4) (n 0) (nowE n g b r) i).1) (n 10) (n 11) ((eDf (n 10) (n 9) (n 11) (r 4) (n 0) (nowE n g b r) i).2)).1) (n 1) (n 2) (n 3) (n 4) (n 5) (n 6) (n 7) (n 8) (n 9) (n 10) (n 11) (n 12) (((chE ((eDf (n 10) (n 9) (n 11) (r 4) (n 0) (nowE n g b r) i).1) (n 10) (n 11) ((eDf (n 10) (n 9) (n 11) (r 4) (n 0) (nowE n g b r) i).2)).2).1.2.2.2.2.2.1) (((chE ((eDf (n 10) (n 9) (n 11) (r 4) (n 0) (nowE n g b r) i).1) (n 10) (n 11) ((eDf (n 10) (n 9) (n 11) (r 4) (n 0) (nowE n g b r) i).2)).2).1.2.2.2.2.2.2.1) (((chE ((eDf (n 10) (n 9) (n 11) (r 4) (n 0) (nowE n g b r) i).1) (n 10) (n 11) ((eDf (n 10) (n 9) (n 11) (r 4) (n 0) (nowE n g b r) i).2)).2).1.2.2.2.2.2.2.2) (min (n 16 + 1) 16) ((n 17 + 1) % 16) (n 18) (n 19) (n 20)) (cgv (g 0) (g 1) (g 2) (((chE ((eDf (n 10) (n 9) (n 11) (r 4) (n 0) (nowE n g b r) i).1) (n 10) (n 11) ((eDf (n 10) (n 9) (n 11) (r 4) (n 0) (nowE n g b r) i).2)).2).1.1) (((chE ((eDf (n 10) (n 9) (n 11) (r 4) (n 0) (nowE n g b r) i).1) (n 10) (n 11) ((eDf (n 10) (n 9) (n 11) (r 4) (n 0) (nowE n g b r) i).2)).2).1.2.1) (((chE ((eDf (n 10) (n 9) (n 11) (r 4) (n 0) (nowE n g b r) i).1) (n 10) (n 11) ((eDf (n 10) (n 9) (n 11) (r 4) (n 0) (nowE n g b r) i).2)).2).1.2.2.1) (((chE ((eDf (n 10) (n 9) (n 11) (r 4) (n 0) (nowE n g b r) i).1) (n 10) (n 11) ((eDf (n 10) (n 9) (n 11) (r 4) (n 0) (nowE n g b r) i).2)).2).1.2.2.2.2.1)) (cbv (b 0) (b 1) (((chE ((eDf (n 10) (n 9) (n 11) (r 4) (n 0) (nowE n g b r) i).1) (n 10) (n 11) ((eDf (n 10) (n 9) (n 11) (r 4) (n 0) (nowE n g b r) i).2)).2).1.2.2.2.1)) (crv (r 0) (r 1) (r 2) (r 3) (r 4) (r 5) (r 6) (((chE ((eDf (n 10) (n 9) (n 11) (r 4) (n 0) (nowE n g b r) i).1) (n 10) (n 11) ((eDf (n 10) (n 9) (n 11) (r 4) (n 0) (nowE n g b r) i).2)).2).2.1) (((chE ((eDf (n 10) (n 9) (n 11) (r 4) (n 0) (nowE n g b r) i).1) (n 10) (n 11) ((eDf (n 10) (n 9) (n 11) (r 4) (n 0) (nowE n g b r) i).2)).2).2.2.1) (((chE ((eDf (n 10) (n 9) (n 11) (r 4) (n 0) (nowE n g b r) i).1) (n 10) (n 11) ((eDf (n 10) (n 9) (n 11) (r 4) (n 0) (nowE n g b r) i).2)).2).2.2.2.1) (((chE ((eDf (n 10) (n 9) (n 11) (r 4) (n 0) (nowE n g b r) i).1) (n 10) (n 11) ((eDf (n 10) (n 9) (n 11) (r 4) (n 0) (nowE n g b r) i).2)).2).2.2.2.2.1) (((chE ((eDf (n 10) (n 9) (n 11) (r 4) (n 0) (nowE n g b r) i).1) (n 10) (n 11) ((eDf (n 10) (n 9) (n 11) (r 4) (n 0) (nowE n g b r) i).2)).2).2.2.2.2.2.1) (((chE ((eDf (n 10) (n 9) (n 11) (r 4) (n 0) (nowE n g b r) i).1) (n 10) (n 11) ((eDf (n 10) (n 9) (n 11) (r 4) (n 0) (nowE n g b r) i).2)).2).2.2.2.2.2.2) (r 13) (r 14) (r 15) (r 16) (r 17) (r 18)) (va_up V (2 + n 17) ((g 3, g 4, g 5, b 2, g 6, n 13, n 14, n 15), (va_cpy (r 7) (V (2 + n 17)).2.1 0 0 5, va_cpy (r 8) (V (2 + n 17)).2.2.1 0 0 5, va_cpy (r 9) (V (2 + n 17)).2.2.2.1 0 0 4, va_cpy (r 10) (V (2 + n 17)).2.2.2.2.1 0 0 20, va_cpy (r 11) (V (2 + n 17)).2.2.2.2.2.1 0 0 20, va_cpy (r 12) (V (2 + n 17)).2.2.2.2.2.2 0 0 20))) hW hS h9 (chE_ok (eDf_ok (S := n 10) (G := n 9) (W := n 11) (o := r 4) (s := n 0) hok i)).1 (chE_ok (eDf_ok (S := n 10) (G := n 9) (W := n 11) (o := r 4) (s := n 0) hok i)).2 (by have h := eDf_d (S := n 10) (G := n 9) (W := n 11) (o := r 4) (s := n 0) (e := nowE n g b r) i; have h2 : (nowE n g b r).1.2.2.2.2.2.1 = n 13 := rfl; have h3 := congrArg Prod.fst (chE_at (eDf (n 10) (n 9) (n 11) (r 4) (n 0) (nowE n g b r) i).1 (n 10) (n 11) (eDf (n 10) (n 9) (n 11) (r 4) (n 0) (nowE n g b r) i).2); show (chE (eDf (n 10) (n 9) (n 11) (r 4) (n 0) (nowE n g b r) i).1 (n 10) (n 11) (eDf (n 10) (n 9) (n 11) (r 4) (n 0) (nowE n g b r) i).2).2.1.2.2.2.2.2.1 < 2 ^ 30; omega)) gX5_drift_X5_passDusk rfl 0 (by decide +kernel) (by decide) (by decide) 0 rfl rfl rfl rfl rfl (Nat.le_of_ble_eq_true rfl) dX5_drift_35 ?_
    rintro _ rfl
    refine z_X (Y := CW θ ea ad (cnv ((chE ((eDf (n 10) (n 9) (n 11) (r 4) (n 0) (nowE n g b r) i).1) (n 10) (n 11) ((eDf (n 10) (n 9) (n 11) (r 4) (n 0) (nowE n g b r) i).2)).1) (n 1) (n 2) (n 3) (n 4) (n 5) (n 6) (n 7) (n 8) (n 9) (n 10) (n 11) (n 12) ((ePass (n 10) (n 9) (n 11) (r 4) ((chE (eDf (n 10) (n 9) (n 11) (r 4) (n 0) (nowE n g b r) i).1 (n 10) (n 11) (eDf (n 10) (n 9) (n 11) (r 4) (n 0) (nowE n g b r) i).2).2)).1.2.2.2.2.2.1) ((ePass (n 10) (n 9) (n 11) (r 4) ((chE (eDf (n 10) (n 9) (n 11) (r 4) (n 0) (nowE n g b r) i).1 (n 10) (n 11) (eDf (n 10) (n 9) (n 11) (r 4) (n 0) (nowE n g b r) i).2).2)).1.2.2.2.2.2.2.1) ((ePass (n 10) (n 9) (n 11) (r 4) ((chE (eDf (n 10) (n 9) (n 11) (r 4) (n 0) (nowE n g b r) i).1 (n 10) (n 11) (eDf (n 10) (n 9) (n 11) (r 4) (n 0) (nowE n g b r) i).2).2)).1.2.2.2.2.2.2.2) (min (n 16 + 1) 16) ((n 17 + 1) % 16) (n 18) (n 19) (n 20)) (cgv (g 0) (g 1) (g 2) ((ePass (n 10) (n 9) (n 11) (r 4) ((chE (eDf (n 10) (n 9) (n 11) (r 4) (n 0) (nowE n g b r) i).1 (n 10) (n 11) (eDf (n 10) (n 9) (n 11) (r 4) (n 0) (nowE n g b r) i).2).2)).1.1) ((ePass (n 10) (n 9) (n 11) (r 4) ((chE (eDf (n 10) (n 9) (n 11) (r 4) (n 0) (nowE n g b r) i).1 (n 10) (n 11) (eDf (n 10) (n 9) (n 11) (r 4) (n 0) (nowE n g b r) i).2).2)).1.2.1) ((ePass (n 10) (n 9) (n 11) (r 4) ((chE (eDf (n 10) (n 9) (n 11) (r 4) (n 0) (nowE n g b r) i).1 (n 10) (n 11) (eDf (n 10) (n 9) (n 11) (r 4) (n 0) (nowE n g b r) i).2).2)).1.2.2.1) ((ePass (n 10) (n 9) (n 11) (r 4) ((chE (eDf (n 10) (n 9) (n 11) (r 4) (n 0) (nowE n g b r) i).1 (n 10) (n 11) (eDf (n 10) (n 9) (n 11) (r 4) (n 0) (nowE n g b r) i).2).2)).1.2.2.2.2.1)) (cbv (b 0) (b 1) ((ePass (n 10) (n 9) (n 11) (r 4) ((chE (eDf (n 10) (n 9) (n 11) (r 4) (n 0) (nowE n g b r) i).1 (n 10) (n 11) (eDf (n 10) (n 9) (n 11) (r 4) (n 0) (nowE n g b r) i).2).2)).1.2.2.2.1)) (crv (r 0) (r 1) (r 2) (r 3) (r 4) (r 5) (r 6) ((ePass (n 10) (n 9) (n 11) (r 4) ((chE (eDf (n 10) (n 9) (n 11) (r 4) (n 0) (nowE n g b r) i).1 (n 10) (n 11) (eDf (n 10) (n 9) (n 11) (r 4) (n 0) (nowE n g b r) i).2).2)).2.1) ((ePass (n 10) (n 9) (n 11) (r 4) ((chE (eDf (n 10) (n 9) (n 11) (r 4) (n 0) (nowE n g b r) i).1 (n 10) (n 11) (eDf (n 10) (n 9) (n 11) (r 4) (n 0) (nowE n g b r) i).2).2)).2.2.1) ((ePass (n 10) (n 9) (n 11) (r 4) ((chE (eDf (n 10) (n 9) (n 11) (r 4) (n 0) (nowE n g b r) i).1 (n 10) (n 11) (eDf (n 10) (n 9) (n 11) (r 4) (n 0) (nowE n g b r) i).2).2)).2.2.2.1) ((ePass (n 10) (n 9) (n 11) (r 4) ((chE (eDf (n 10) (n 9) (n 11) (r 4) (n 0) (nowE n g b r) i).1 (n 10) (n 11) (eDf (n 10) (n 9) (n 11) (r 4) (n 0) (nowE n g b r) i).2).2)).2.2.2.2.1) ((ePass (n 10) (n 9) (n 11) (r 4) ((chE (eDf (n 10) (n 9) (n 11) (r 4) (n 0) (nowE n g b r) i).1 (n 10) (n 11) (eDf (n 10) (n 9) (n 11) (r 4) (n 0) (nowE n g b r) i).2).2)).2.2.2.2.2.1) ((ePass (n 10) (n 9) (n 11) (r 4) ((chE (eDf (n 10) (n 9) (n 11) (r 4) (n 0) (nowE n g b r) i).1 (n 10) (n 11) (eDf (n 10) (n 9) (n 11) (r 4) (n 0) (nowE n g b r) i).2).2)).2.2.2.2.2.2) (r 13) (r 14) (r 15) (r 16) (r 17) (r 18)) (va_up V (2 + n 17) ((g 3, g 4, g 5, b 2, g 6, n 13, n 14, n 15), (va_cpy (r 7) (V (2 + n 17)).2.1 0 0 5, va_cpy (r 8) (V (2 + n 17)).2.2.1 0 0 5, va_cpy (r 9) (V (2 + n 17)).2.2.2.1 0 0 4, va_cpy (r 10) (V (2 + n 17)).2.2.2.2.1 0 0 20, va_cpy (r 11) (V (2 + n 17)).2.2.2.2.2.1 0 0 20, va_cpy (r 12) (V (2 + n 17)).2.2.2.2.2.2 0 0 20)))) (cw_eq rfl rfl rfl rfl rfl rfl rfl rfl rfl rfl rfl rfl rfl rfl rfl rfl rfl rfl rfl rfl rfl rfl rfl rfl rfl rfl rfl rfl rfl rfl rfl rfl rfl rfl rfl rfl rfl rfl rfl rfl rfl rfl rfl rfl rfl rfl rfl rfl rfl rfl rfl) ?_
    refine z_iincN C [(3, .int (nI (i + 1))), (0, .ref (ad 0)), (1, .int (nI m))] dX5_drift_38 rfl (by decide) rfl ?_
    refine z_goto C 25 dX5_drift_41 (by decide) ?_
    exact z_to (ih25) ((cw_eq rfl rfl rfl rfl rfl rfl rfl rfl rfl rfl rfl rfl rfl rfl rfl rfl rfl rfl rfl rfl rfl rfl rfl rfl rfl rfl rfl rfl rfl rfl rfl rfl rfl rfl rfl rfl rfl rfl rfl rfl rfl rfl rfl rfl rfl rfl rfl rfl rfl rfl rfl)) (rfl)

