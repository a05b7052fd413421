set_option maxHeartbeats 4000000 in
set_option maxRecDepth 100000 in
theorem c_X4_readClause_g (l : Launch) (θ : zH) (ea : Nat → Nat → Nat) (ad : Nat → Nat) (n : Nat → Nat) (g : Nat → Int32) (b : Nat → Bool) (r : Nat → Nat → Int32) (V : Nat → Ev)  (hf : n 4 = 0) (hp : n 3 ≤ n 2) (hL : n 2 ≤ 240) (hq : sk (r 0) (n 2) (n 3) = n 3) (hc : m_hr (r 0) (n 2) (n 3) = nI 103) (hb : b 0 = false) (hG : n 5 = 0) : cV l yX4_readClause wsX4_readClause 4 θ [.ref (ad 1)] (CW θ ea ad n g b r V) (fun Y => (¬ (clF (r 0) (n 2) (n 3) (n 5) (n 6) (n 7) (n 8)).1 = 0 ∧ ∃ (p : Nat) (t : Bool) (G S W C : Nat) (o lm lk : Nat → Int32), p ≤ n 2 ∧ Y = CW θ ea ad (cnv (n 0) (n 1) (n 2) p ((clF (r 0) (n 2) (n 3) (n 5) (n 6) (n 7) (n 8)).1) G S W C (n 9) (n 10) (n 11) (n 12) (n 13) (n 14) (n 15) (n 16) (n 17) (n 18) (n 19) (n 20)) (cgv (g 0) (g 1) (nI (clF (r 0) (n 2) (n 3) (n 5) (n 6) (n 7) (n 8)).2) (g 3) (g 4) (g 5) (g 6)) (cbv t (b 1) (b 2)) (crv (r 0) o lm lk (r 4) (r 5) (r 6) (r 7) (r 8) (r 9) (r 10) (r 11) (r 12) (r 13) (r 14) (r 15) (r 16) (r 17) (r 18)) V) ∨ ((clF (r 0) (n 2) (n 3) (n 5) (n 6) (n 7) (n 8)).1 = 0 ∧ ∃ p2 G2 S2 W2 C2 o2 l2 k2, p2 = clP (r 0) (n 2) (n 3) ∧ G2 = clG (r 0) (n 2) (n 3) (n 5) ∧ S2 = clC (r 0) (n 2) (n 3) 1 (n 6) ∧ W2 = clC (r 0) (n 2) (n 3) 2 (n 7) ∧ C2 = clC (r 0) (n 2) (n 3) 3 (n 8) ∧ o2 = clO (r 0) (n 2) (n 3) (n 6) (r 1) ∧ l2 = clR (r 0) (n 2) (n 3) 2 (n 7) (r 2) ∧ k2 = clR (r 0) (n 2) (n 3) 3 (n 8) (r 3) ∧ Y = CW θ ea ad (cnv (n 0) (n 1) (n 2) p2 (n 4) G2 S2 W2 C2 (n 9) (n 10) (n 11) (n 12) (n 13) (n 14) (n 15) (n 16) (n 17) (n 18) (n 19) (n 20)) g (cbv true (b 1) (b 2)) (crv (r 0) o2 l2 k2 (r 4) (r 5) (r 6) (r 7) (r 8) (r 9) (r 10) (r 11) (r 12) (r 13) (r 14) (r 15) (r 16) (r 17) (r 18)) V)) := by
  have hlt : n 3 + 1 ≤ n 2 := hr_lt hc (by decide)
  have hK : cK (m_hr (r 0) (n 2) (n 3)) = 0 := by rw [hc]; decide
  have hfu : fullK (n 5) (n 6) (n 7) (n 8) 0 = false := by unfold fullK; simp; omega
  refine z_cV (by decide) rfl rfl (Nat.le_of_ble_eq_true rfl) (lv := [(0, .ref (ad 1))]) rfl (fun κ C E => ?_)
  have hinX0 : ∀ w ∈ wsX00, w ∈ wsX4_readClause := by decide +kernel
  have hinX4 : ∀ w ∈ wsX40, w ∈ wsX4_readClause := by decide +kernel
  refine z_aload_n C dX4_readClause_0 rfl (show zlk _ 0 = some (.ref (ad 1)) from rfl) ?_
  refine z_callVi C (As := []) (rest := []) (c_X4_letterHere l θ ea ad n g b r V (show n 3 < 2 ^ 30 by omega) hL) gX4_readClause_X4_letterHere rfl 0 (by decide +kernel) (by decide) (by decide) 1 rfl rfl rfl rfl rfl (Nat.le_of_ble_eq_true rfl) dX4_readClause_1 ?_
  rintro _ _ ⟨rfl, rfl⟩
  refine z_top (v' := .int (nI 103)) (by rw [hc]) ?_
  refine z_istore_n C [(1, .int (nI 103)), (0, .ref (ad 1))] dX4_readClause_4 rfl (by decide) rfl ?_
  refine z_aload_n C dX4_readClause_5 rfl (show zlk _ 0 = some (.ref (ad 1)) from rfl) ?_
  refine z_iload_n C dX4_readClause_6 rfl (show zlk _ 1 = some (.int (nI 103)) from rfl) ?_
  refine z_callVi C (As := [.int (nI 103)]) (rest := []) (c_X4_faultOfWord_g0 l θ ea ad n g b r V hb) gX4_readClause_X4_faultOfWord rfl 1 (by decide +kernel) (by decide) (by decide) 1 rfl rfl rfl rfl rfl (Nat.le_of_ble_eq_true rfl) dX4_readClause_7 ?_
  rintro _ _ ⟨rfl, rfl⟩
  refine z_istore_n C [(2, .int (nI 0)), (1, .int (nI 103)), (0, .ref (ad 1))] dX4_readClause_10 rfl (by decide) rfl ?_
  refine z_iload_n C dX4_readClause_11 rfl (show zlk _ 2 = some (.int (nI 0)) from rfl) ?_
  refine z_if_eqN C 25 dX4_readClause_12 (by decide) (by decide) (fun _ => ?_) (fun h => absurd h (by decide))
  refine z_aload_n C dX4_readClause_25 rfl (show zlk _ 0 = some (.ref (ad 1)) from rfl) ?_
  refine z_dup C dX4_readClause_26 rfl ?_
  refine z_get C hinX4 1 cc_1 rfl 3 (by decide) (by decide +kernel) cg_1_3 dX4_readClause_27 ?_
  refine z_iconst C (v := nI 1) dX4_readClause_30 (by decide) ?_
  refine z_iaddN C dX4_readClause_31 ?_
  refine z_put C hinX4 tyX4 tyX4_ok nmX4 1 cc_1 rfl 3 (by decide) (by decide +kernel) rfl rfl rfl rfl (Nat.le_of_ble_eq_true rfl) _ cp_1_3 dX4_readClause_32 ?_
  refine z_iload_n C dX4_readClause_35 rfl (show zlk _ 1 = some (.int (nI 103)) from rfl) ?_
  refine z_bipush C (v := nI 103) dX4_readClause_36 (by decide) ?_
  refine z_icmp_neF C 66 dX4_readClause_38 (by decide) (by omega) (by omega) (by decide) ?_
  refine z_aload_n C dX4_readClause_41 rfl (show zlk _ 0 = some (.ref (ad 1)) from rfl) ?_
  refine z_get C hinX4 1 cc_1 rfl 1 (by decide) (by decide +kernel) cg_1_1 dX4_readClause_42 ?_
  refine z_iconst C (v := nI 1) dX4_readClause_45 (by decide) ?_
  refine z_top (v' := .int (bI true)) rfl ?_
  refine z_putN C (host := "GnatPortraits") hinX0 tyX0 tyX0_ok nmX0 2 cc_2 rfl 0 (by decide) (by decide +kernel) rfl rfl (bI_n _) (bI_f2 _) (Nat.le_of_ble_eq_true rfl) _ cp_2_0 dX4_readClause_46 ?_
  refine z_aload_n C dX4_readClause_49 rfl (show zlk _ 0 = some (.ref (ad 1)) from rfl) ?_
  refine z_get C hinX4 1 cc_1 rfl 1 (by decide) (by decide +kernel) cg_1_1 dX4_readClause_50 ?_
  refine z_aload_n C dX4_readClause_53 rfl (show zlk _ 0 = some (.ref (ad 1)) from rfl) ?_
  refine z_iconst C (v := nI 1) dX4_readClause_54 (by decide) ?_
  refine z_bipush C (v := nI 30) dX4_readClause_55 (by decide) ?_
  refine z_callVi C (As := [.int (nI 1), .int (nI 30)]) (rest := [.ref (ad 2)]) (c_X4_readNumber_2 l θ ea ad (cnv (n 0) (n 1) (n 2) (n 3 + 1) (n 4) (n 5) (n 6) (n 7) (n 8) (n 9) (n 10) (n 11) (n 12) (n 13) (n 14) (n 15) (n 16) (n 17) (n 18) (n 19) (n 20)) g (cbv true (b 1) (b 2)) r V 1 30 (show n 4 = 0 from hf) (show n 3 + 1 ≤ n 2 from (hlt)) hL (by decide) (by decide)) gX4_readClause_X4_readNumber rfl 2 (by decide +kernel) (by decide) (by decide) 1 rfl rfl rfl rfl rfl (Nat.le_of_ble_eq_true rfl) dX4_readClause_57 ?_
  rintro _ _ ⟨pa10, pb10, ea10, eb10, (⟨hA10, rfl, rfl⟩ | ⟨hA10, hB10, rfl, rfl⟩ | ⟨hA10, hB10, rfl, rfl⟩)⟩
  · replace ea10 : sk (r 0) (n 2) (n 3 + 1) = pa10 := ea10
    replace eb10 : nE (r 0) (n 2) (n 3 + 1) = pb10 := eb10
    replace hA10 : nOk (r 0) (n 2) (n 3 + 1) = false := hA10
    have la10 : pa10 ≤ n 2 := by rw [← ea10]; exact (sk_le (hlt)).2
    refine z_X (Y := CW θ ea ad (cnv (n 0) (n 1) (n 2) pa10 1 (n 5) (n 6) (n 7) (n 8) (n 9) (n 10) (n 11) (n 12) (n 13) (n 14) (n 15) (n 16) (n 17) (n 18) (n 19) (n 20)) (cgv (g 0) (g 1) (nI pa10) (g 3) (g 4) (g 5) (g 6)) (cbv true (b 1) (b 2)) r V) (cw_eq rfl rfl rfl rfl rfl rfl rfl rfl rfl rfl rfl rfl rfl rfl rfl rfl rfl rfl rfl rfl rfl rfl rfl rfl rfl rfl rfl rfl rfl rfl rfl rfl rfl rfl rfl rfl rfl rfl rfl rfl rfl rfl rfl rfl rfl rfl rfl rfl rfl rfl rfl) ?_
    refine z_putN C (host := "GnatPortraits") hinX0 tyX0 tyX0_ok nmX0 2 cc_2 rfl 1 (by decide) (by decide +kernel) rfl rfl rfl rfl (Nat.le_of_ble_eq_true rfl) _ cv_2_1 dX4_readClause_60 ?_
    refine z_goto C 186 dX4_readClause_63 (by decide) ?_
    have hbF : bF (r 0) (n 2) (n 3 + 1) 0 = (1, pa10) := by rw [bF_0, nF_A hA10, ea10]
    have hFF : clF (r 0) (n 2) (n 3) (n 5) (n 6) (n 7) (n 8) = (1, pa10) := (clF_b hq.symm hK (by omega) hfu (by rw [hbF]; simp)).trans hbF
    refine z_aload_n C dX4_readClause_186 rfl (show zlk _ 0 = some (.ref (ad 1)) from rfl) ?_
    refine z_bipush C (v := nI 59) dX4_readClause_187 (by decide) ?_
    refine z_callVv C (As := [.int (nI 59)]) (rest := []) (c_X4_readSign_1 l θ ea ad (cnv (n 0) (n 1) (n 2) pa10 1 0 (n 6) (n 7) (n 8) (n 9) (n 10) (n 11) (n 12) (n 13) (n 14) (n 15) (n 16) (n 17) (n 18) (n 19) (n 20)) (cgv (g 0) (g 1) (nI pa10) (g 3) (g 4) (g 5) (g 6)) (cbv true (b 1) (b 2)) r V (nI 59) (show ¬ 1 = 0 by decide) (show 1 < 2 ^ 31 by decide)) gX4_readClause_X4_readSign rfl 1 (by decide +kernel) (by decide) (by decide) 1 rfl rfl rfl rfl rfl (Nat.le_of_ble_eq_true rfl) dX4_readClause_189 ?_
    rintro _ rfl
    exact E _ _ _ (Or.inl (by rw [hFF]; exact ⟨by simp, _, _, _, _, _, _, _, _, _, (show pa10 ≤ n 2 by omega), (cw_eq rfl rfl rfl rfl rfl rfl rfl rfl rfl rfl rfl rfl rfl rfl rfl rfl rfl rfl rfl rfl rfl rfl rfl rfl rfl rfl rfl rfl rfl rfl rfl rfl rfl rfl rfl rfl rfl rfl rfl rfl rfl rfl rfl rfl rfl rfl rfl rfl rfl rfl rfl)⟩)) dX4_readClause_192
  · replace ea10 : sk (r 0) (n 2) (n 3 + 1) = pa10 := ea10
    replace eb10 : nE (r 0) (n 2) (n 3 + 1) = pb10 := eb10
    replace hA10 : nOk (r 0) (n 2) (n 3 + 1) = true := hA10
    replace hB10 : nBad (r 0) (n 2) (n 3 + 1) 1 30 := hB10
    have lb10 : pb10 ≤ n 2 := by rw [← eb10]; exact (nE_le (hlt)).2
    refine z_X (Y := CW θ ea ad (cnv (n 0) (n 1) (n 2) pb10 2 (n 5) (n 6) (n 7) (n 8) (n 9) (n 10) (n 11) (n 12) (n 13) (n 14) (n 15) (n 16) (n 17) (n 18) (n 19) (n 20)) (cgv (g 0) (g 1) (nI pa10) (g 3) (g 4) (g 5) (g 6)) (cbv true (b 1) (b 2)) r V) (cw_eq rfl rfl rfl rfl rfl rfl rfl rfl rfl rfl rfl rfl rfl rfl rfl rfl rfl rfl rfl rfl rfl rfl rfl rfl rfl rfl rfl rfl rfl rfl rfl rfl rfl rfl rfl rfl rfl rfl rfl rfl rfl rfl rfl rfl rfl rfl rfl rfl rfl rfl rfl) ?_
    refine z_putN C (host := "GnatPortraits") hinX0 tyX0 tyX0_ok nmX0 2 cc_2 rfl 1 (by decide) (by decide +kernel) rfl rfl rfl rfl (Nat.le_of_ble_eq_true rfl) _ cv_2_1 dX4_readClause_60 ?_
    refine z_goto C 186 dX4_readClause_63 (by decide) ?_
    have hbF : bF (r 0) (n 2) (n 3 + 1) 0 = (2, pa10) := by rw [bF_0, nF_B hA10 hB10, ea10]
    have hFF : clF (r 0) (n 2) (n 3) (n 5) (n 6) (n 7) (n 8) = (2, pa10) := (clF_b hq.symm hK (by omega) hfu (by rw [hbF]; simp)).trans hbF
    refine z_aload_n C dX4_readClause_186 rfl (show zlk _ 0 = some (.ref (ad 1)) from rfl) ?_
    refine z_bipush C (v := nI 59) dX4_readClause_187 (by decide) ?_
    refine z_callVv C (As := [.int (nI 59)]) (rest := []) (c_X4_readSign_1 l θ ea ad (cnv (n 0) (n 1) (n 2) pb10 2 0 (n 6) (n 7) (n 8) (n 9) (n 10) (n 11) (n 12) (n 13) (n 14) (n 15) (n 16) (n 17) (n 18) (n 19) (n 20)) (cgv (g 0) (g 1) (nI pa10) (g 3) (g 4) (g 5) (g 6)) (cbv true (b 1) (b 2)) r V (nI 59) (show ¬ 2 = 0 by decide) (show 2 < 2 ^ 31 by decide)) gX4_readClause_X4_readSign rfl 1 (by decide +kernel) (by decide) (by decide) 1 rfl rfl rfl rfl rfl (Nat.le_of_ble_eq_true rfl) dX4_readClause_189 ?_
    rintro _ rfl
    exact E _ _ _ (Or.inl (by rw [hFF]; exact ⟨by simp, _, _, _, _, _, _, _, _, _, (show pb10 ≤ n 2 by omega), (cw_eq rfl rfl rfl rfl rfl rfl rfl rfl rfl rfl rfl rfl rfl rfl rfl rfl rfl rfl rfl rfl rfl rfl rfl rfl rfl rfl rfl rfl rfl rfl rfl rfl rfl rfl rfl rfl rfl rfl rfl rfl rfl rfl rfl rfl rfl rfl rfl rfl rfl rfl rfl)⟩)) dX4_readClause_192
  · replace ea10 : sk (r 0) (n 2) (n 3 + 1) = pa10 := ea10
    replace eb10 : nE (r 0) (n 2) (n 3 + 1) = pb10 := eb10
    replace hA10 : nOk (r 0) (n 2) (n 3 + 1) = true := hA10
    replace hB10 : ¬ nBad (r 0) (n 2) (n 3 + 1) 1 30 := hB10
    have lb10 : pb10 ≤ n 2 := by rw [← eb10]; exact (nE_le (hlt)).2
    refine z_top (v' := .int (nI (nV (r 0) (n 2) (n 3 + 1)))) rfl ?_
    refine z_X (Y := CW θ ea ad (cnv (n 0) (n 1) (n 2) pb10 (n 4) (n 5) (n 6) (n 7) (n 8) (n 9) (n 10) (n 11) (n 12) (n 13) (n 14) (n 15) (n 16) (n 17) (n 18) (n 19) (n 20)) g (cbv true (b 1) (b 2)) r V) (cw_eq rfl rfl rfl rfl rfl rfl rfl rfl rfl rfl rfl rfl rfl rfl rfl rfl rfl rfl rfl rfl rfl rfl rfl rfl rfl rfl rfl rfl rfl rfl rfl rfl rfl rfl rfl rfl rfl rfl rfl rfl rfl rfl rfl rfl rfl rfl rfl rfl rfl rfl rfl) ?_
    refine z_putN C (host := "GnatPortraits") hinX0 tyX0 tyX0_ok nmX0 2 cc_2 rfl 1 (by decide) (by decide +kernel) rfl rfl rfl rfl (Nat.le_of_ble_eq_true rfl) _ cv_2_1 dX4_readClause_60 ?_
    refine z_goto C 186 dX4_readClause_63 (by decide) ?_
    have hB0 : (bF (r 0) (n 2) (n 3 + 1) 0).1 = 0 := by rw [bF_0, nF_C hA10 hB10]
    have hbE : bE (r 0) (n 2) (n 3 + 1) 0 = pb10 := by unfold bE; rw [if_neg (by decide)]; exact eb10
    have hS := clF_s (C := n 8) (W := n 7) (S := n 6) (G := n 5) hq.symm hK (by omega) hfu hB0
    rw [hbE] at hS; unfold sF at hS
    refine z_aload_n C dX4_readClause_186 rfl (show zlk _ 0 = some (.ref (ad 1)) from rfl) ?_
    refine z_bipush C (v := nI 59) dX4_readClause_187 (by decide) ?_
    refine z_callVv C (As := [.int (nI 59)]) (rest := []) (c_X4_readSign_2 l θ ea ad (cnv (n 0) (n 1) (n 2) pb10 (n 4) (nV (r 0) (n 2) (n 3 + 1)) (n 6) (n 7) (n 8) (n 9) (n 10) (n 11) (n 12) (n 13) (n 14) (n 15) (n 16) (n 17) (n 18) (n 19) (n 20)) g (cbv true (b 1) (b 2)) r V (nI 59) (show n 4 = 0 from hf) (show pb10 ≤ 240 by omega) hL) gX4_readClause_X4_readSign rfl 1 (by decide +kernel) (by decide) (by decide) 1 rfl rfl rfl rfl rfl (Nat.le_of_ble_eq_true rfl) dX4_readClause_189 ?_
    rintro _ ⟨pg11, eg11, (⟨hs11, rfl⟩ | ⟨hs11, rfl⟩)⟩
    · replace eg11 : sk (r 0) (n 2) (pb10) = pg11 := eg11
      replace hs11 : m_hr (r 0) (n 2) pg11 = nI 59 := hs11
      have lg11 := hr_lt hs11 (by decide)
      refine z_X (Y := CW θ ea ad (cnv (n 0) (n 1) (n 2) (pg11 + 1) (n 4) (nV (r 0) (n 2) (n 3 + 1)) (n 6) (n 7) (n 8) (n 9) (n 10) (n 11) (n 12) (n 13) (n 14) (n 15) (n 16) (n 17) (n 18) (n 19) (n 20)) g (cbv true (b 1) (b 2)) r V) (cw_eq rfl rfl rfl rfl rfl rfl rfl rfl rfl rfl rfl rfl rfl rfl rfl rfl rfl rfl rfl rfl rfl rfl rfl rfl rfl rfl rfl rfl rfl rfl rfl rfl rfl rfl rfl rfl rfl rfl rfl rfl rfl rfl rfl rfl rfl rfl rfl rfl rfl rfl rfl) ?_
      exact E _ _ _ (Or.inr (by rw [eg11, if_pos hs11] at hS; rw [hS]; refine ⟨rfl, _, _, _, _, _, _, _, _, ?_, ?_, ?_, ?_, ?_, ?_, ?_, ?_, (cw_eq rfl rfl rfl rfl rfl rfl rfl rfl rfl rfl rfl rfl rfl rfl rfl rfl rfl rfl rfl rfl rfl rfl rfl rfl rfl rfl rfl rfl rfl rfl rfl rfl rfl rfl rfl rfl rfl rfl rfl rfl rfl rfl rfl rfl rfl rfl rfl rfl rfl rfl rfl)⟩; (unfold clP clK; rw [hq, hK, hbE, eg11]); all_goals (first | (unfold clG clK; rw [hq, hK]; rfl) | (unfold clC clK; rw [hq, hK]; rfl) | (unfold clO clK; rw [hq, hK]; rfl) | (unfold clR clK; rw [hq, hK]; rfl)))) dX4_readClause_192
    · replace eg11 : sk (r 0) (n 2) (pb10) = pg11 := eg11
      replace hs11 : ¬ m_hr (r 0) (n 2) pg11 = nI 59 := hs11
      have lf11 : pg11 ≤ n 2 := by rw [← eg11]; exact (sk_le lb10).2
      refine z_X (Y := CW θ ea ad (cnv (n 0) (n 1) (n 2) pg11 1 (nV (r 0) (n 2) (n 3 + 1)) (n 6) (n 7) (n 8) (n 9) (n 10) (n 11) (n 12) (n 13) (n 14) (n 15) (n 16) (n 17) (n 18) (n 19) (n 20)) (cgv (g 0) (g 1) (nI pg11) (g 3) (g 4) (g 5) (g 6)) (cbv true (b 1) (b 2)) r V) (cw_eq rfl rfl rfl rfl rfl rfl rfl rfl rfl rfl rfl rfl rfl rfl rfl rfl rfl rfl rfl rfl rfl rfl rfl rfl rfl rfl rfl rfl rfl rfl rfl rfl rfl rfl rfl rfl rfl rfl rfl rfl rfl rfl rfl rfl rfl rfl rfl rfl rfl rfl rfl) ?_
      exact E _ _ _ (Or.inl (by rw [eg11, if_neg hs11] at hS; rw [hS]; exact ⟨by simp, _, _, _, _, _, _, _, _, _, (show pg11 ≤ n 2 by omega), (cw_eq rfl rfl rfl rfl rfl rfl rfl rfl rfl rfl rfl rfl rfl rfl rfl rfl rfl rfl rfl rfl rfl rfl rfl rfl rfl rfl rfl rfl rfl rfl rfl rfl rfl rfl rfl rfl rfl rfl rfl rfl rfl rfl rfl rfl rfl rfl rfl rfl rfl rfl rfl)⟩)) dX4_readClause_192

set_option maxHeartbeats 4000000 in
set_option maxRecDepth 100000 in
theorem c_X4_readClause_s (l : Launch) (θ : zH) (ea : Nat → Nat → Nat) (ad : Nat → Nat) (n : Nat → Nat) (g : Nat → Int32) (b : Nat → Bool) (r : Nat → Nat → Int32) (V : Nat → Ev)  (hf : n 4 = 0) (hp : n 3 ≤ n 2) (hL : n 2 ≤ 240) (hq : sk (r 0) (n 2) (n 3) = n 3) (hc : m_hr (r 0) (n 2) (n 3) = nI 115) (hb : b 0 = true) (hG : 0 < n 5) (hn : n 6 < 6) : cV l yX4_readClause wsX4_readClause 4 θ [.ref (ad 1)] (CW θ ea ad n g b r V) (fun Y => (¬ (clF (r 0) (n 2) (n 3) (n 5) (n 6) (n 7) (n 8)).1 = 0 ∧ ∃ (p : Nat) (t : Bool) (G S W C : Nat) (o lm lk : Nat → Int32), p ≤ n 2 ∧ Y = CW θ ea ad (cnv (n 0) (n 1) (n 2) p ((clF (r 0) (n 2) (n 3) (n 5) (n 6) (n 7) (n 8)).1) G S W C (n 9) (n 10) (n 11) (n 12) (n 13) (n 14) (n 15) (n 16) (n 17) (n 18) (n 19) (n 20)) (cgv (g 0) (g 1) (nI (clF (r 0) (n 2) (n 3) (n 5) (n 6) (n 7) (n 8)).2) (g 3) (g 4) (g 5) (g 6)) (cbv t (b 1) (b 2)) (crv (r 0) o lm lk (r 4) (r 5) (r 6) (r 7) (r 8) (r 9) (r 10) (r 11) (r 12) (r 13) (r 14) (r 15) (r 16) (r 17) (r 18)) V) ∨ ((clF (r 0) (n 2) (n 3) (n 5) (n 6) (n 7) (n 8)).1 = 0 ∧ ∃ p2 G2 S2 W2 C2 o2 l2 k2, p2 = clP (r 0) (n 2) (n 3) ∧ G2 = clG (r 0) (n 2) (n 3) (n 5) ∧ S2 = clC (r 0) (n 2) (n 3) 1 (n 6) ∧ W2 = clC (r 0) (n 2) (n 3) 2 (n 7) ∧ C2 = clC (r 0) (n 2) (n 3) 3 (n 8) ∧ o2 = clO (r 0) (n 2) (n 3) (n 6) (r 1) ∧ l2 = clR (r 0) (n 2) (n 3) 2 (n 7) (r 2) ∧ k2 = clR (r 0) (n 2) (n 3) 3 (n 8) (r 3) ∧ Y = CW θ ea ad (cnv (n 0) (n 1) (n 2) p2 (n 4) G2 S2 W2 C2 (n 9) (n 10) (n 11) (n 12) (n 13) (n 14) (n 15) (n 16) (n 17) (n 18) (n 19) (n 20)) g (cbv true (b 1) (b 2)) (crv (r 0) o2 l2 k2 (r 4) (r 5) (r 6) (r 7) (r 8) (r 9) (r 10) (r 11) (r 12) (r 13) (r 14) (r 15) (r 16) (r 17) (r 18)) V)) := by
  have hlt : n 3 + 1 ≤ n 2 := hr_lt hc (by decide)
  have hK : cK (m_hr (r 0) (n 2) (n 3)) = 1 := by rw [hc]; decide
  have hfu : fullK (n 5) (n 6) (n 7) (n 8) 1 = false := by unfold fullK; simp; omega
  refine z_cV (by decide) rfl rfl (Nat.le_of_ble_eq_true rfl) (lv := [(0, .ref (ad 1))]) rfl (fun κ C E => ?_)
  have hinX4 : ∀ w ∈ wsX40, w ∈ wsX4_readClause := by decide +kernel
  refine z_aload_n C dX4_readClause_0 rfl (show zlk _ 0 = some (.ref (ad 1)) from rfl) ?_
  refine z_callVi C (As := []) (rest := []) (c_X4_letterHere l θ ea ad n g b r V (show n 3 < 2 ^ 30 by omega) hL) gX4_readClause_X4_letterHere rfl 0 (by decide +kernel) (by decide) (by decide) 1 rfl rfl rfl rfl rfl (Nat.le_of_ble_eq_true rfl) dX4_readClause_1 ?_
  rintro _ _ ⟨rfl, rfl⟩
  refine z_top (v' := .int (nI 115)) (by rw [hc]) ?_
  refine z_istore_n C [(1, .int (nI 115)), (0, .ref (ad 1))] dX4_readClause_4 rfl (by decide) rfl ?_
  refine z_aload_n C dX4_readClause_5 rfl (show zlk _ 0 = some (.ref (ad 1)) from rfl) ?_
  refine z_iload_n C dX4_readClause_6 rfl (show zlk _ 1 = some (.int (nI 115)) from rfl) ?_
  refine z_callVi C (As := [.int (nI 115)]) (rest := []) (c_X4_faultOfWord_s1 l θ ea ad n g b r V hb hn) gX4_readClause_X4_faultOfWord rfl 1 (by decide +kernel) (by decide) (by decide) 1 rfl rfl rfl rfl rfl (Nat.le_of_ble_eq_true rfl) dX4_readClause_7 ?_
  rintro _ _ ⟨rfl, rfl⟩
  refine z_istore_n C [(2, .int (nI 0)), (1, .int (nI 115)), (0, .ref (ad 1))] dX4_readClause_10 rfl (by decide) rfl ?_
  refine z_iload_n C dX4_readClause_11 rfl (show zlk _ 2 = some (.int (nI 0)) from rfl) ?_
  refine z_if_eqN C 25 dX4_readClause_12 (by decide) (by decide) (fun _ => ?_) (fun h => absurd h (by decide))
  refine z_aload_n C dX4_readClause_25 rfl (show zlk _ 0 = some (.ref (ad 1)) from rfl) ?_
  refine z_dup C dX4_readClause_26 rfl ?_
  refine z_get C hinX4 1 cc_1 rfl 3 (by decide) (by decide +kernel) cg_1_3 dX4_readClause_27 ?_
  refine z_iconst C (v := nI 1) dX4_readClause_30 (by decide) ?_
  refine z_iaddN C dX4_readClause_31 ?_
  refine z_put C hinX4 tyX4 tyX4_ok nmX4 1 cc_1 rfl 3 (by decide) (by decide +kernel) rfl rfl rfl rfl (Nat.le_of_ble_eq_true rfl) _ cp_1_3 dX4_readClause_32 ?_
  refine z_iload_n C dX4_readClause_35 rfl (show zlk _ 1 = some (.int (nI 115)) from rfl) ?_
  refine z_bipush C (v := nI 103) dX4_readClause_36 (by decide) ?_
  refine z_icmp_neT C 66 dX4_readClause_38 (by decide) (by omega) (by omega) (by decide) ?_
  refine z_iload_n C dX4_readClause_66 rfl (show zlk _ 1 = some (.int (nI 115)) from rfl) ?_
  refine z_bipush C (v := nI 115) dX4_readClause_67 (by decide) ?_
  refine z_icmp_neF C 79 dX4_readClause_69 (by decide) (by omega) (by omega) (by decide) ?_
  refine z_aload_n C dX4_readClause_72 rfl (show zlk _ 0 = some (.ref (ad 1)) from rfl) ?_
  refine z_callVv C (As := []) (rest := []) (c_X4_readSitter l θ ea ad (cnv (n 0) (n 1) (n 2) (n 3 + 1) (n 4) (n 5) (n 6) (n 7) (n 8) (n 9) (n 10) (n 11) (n 12) (n 13) (n 14) (n 15) (n 16) (n 17) (n 18) (n 19) (n 20)) g b r V (show n 4 = 0 from hf) (show n 3 + 1 ≤ n 2 from hlt) hL hn) gX4_readClause_X4_readSitter rfl 0 (by decide +kernel) (by decide) (by decide) 1 rfl rfl rfl rfl rfl (Nat.le_of_ble_eq_true rfl) dX4_readClause_73 ?_
  rintro _ (⟨hR12, px12, ox12, lx12, rfl⟩ | ⟨hR12, py12, ey12, rfl⟩)
  · replace hR12 : ¬ (rF (r 0) (n 2) (n 3 + 1) 5).1 = 0 := hR12
    replace lx12 : px12 ≤ n 2 := lx12
    refine z_X (Y := CW θ ea ad (cnv (n 0) (n 1) (n 2) px12 ((rF (r 0) (n 2) (n 3 + 1) 5).1) (n 5) (n 6 + 1) (n 7) (n 8) (n 9) (n 10) (n 11) (n 12) (n 13) (n 14) (n 15) (n 16) (n 17) (n 18) (n 19) (n 20)) (cgv (g 0) (g 1) (nI (rF (r 0) (n 2) (n 3 + 1) 5).2) (g 3) (g 4) (g 5) (g 6)) b (crv (r 0) (upd (r 1) (n 6) ox12) (r 2) (r 3) (r 4) (r 5) (r 6) (r 7) (r 8) (r 9) (r 10) (r 11) (r 12) (r 13) (r 14) (r 15) (r 16) (r 17) (r 18)) V) (cw_eq rfl rfl rfl rfl rfl rfl rfl rfl rfl rfl rfl rfl rfl rfl rfl rfl rfl rfl rfl rfl rfl rfl rfl rfl rfl rfl rfl rfl rfl rfl rfl rfl rfl rfl rfl rfl rfl rfl rfl rfl rfl rfl rfl rfl rfl rfl rfl rfl rfl rfl rfl) ?_
    refine z_goto C 186 dX4_readClause_76 (by decide) ?_
    have hFF : clF (r 0) (n 2) (n 3) (n 5) (n 6) (n 7) (n 8) = rF (r 0) (n 2) (n 3 + 1) 5 := (clF_b hq.symm hK (by omega) hfu (by rw [bF_1]; exact hR12)).trans bF_1
    refine z_aload_n C dX4_readClause_186 rfl (show zlk _ 0 = some (.ref (ad 1)) from rfl) ?_
    refine z_bipush C (v := nI 59) dX4_readClause_187 (by decide) ?_
    refine z_callVv C (As := [.int (nI 59)]) (rest := []) (c_X4_readSign_1 l θ ea ad (cnv (n 0) (n 1) (n 2) px12 ((rF (r 0) (n 2) (n 3 + 1) 5).1) (n 5) (n 6 + 1) (n 7) (n 8) (n 9) (n 10) (n 11) (n 12) (n 13) (n 14) (n 15) (n 16) (n 17) (n 18) (n 19) (n 20)) (cgv (g 0) (g 1) (nI (rF (r 0) (n 2) (n 3 + 1) 5).2) (g 3) (g 4) (g 5) (g 6)) b (crv (r 0) (upd (r 1) (n 6) ox12) (r 2) (r 3) (r 4) (r 5) (r 6) (r 7) (r 8) (r 9) (r 10) (r 11) (r 12) (r 13) (r 14) (r 15) (r 16) (r 17) (r 18)) V (nI 59) hR12 (Nat.lt_of_le_of_lt (rF_le _ _ _ 5) (by decide))) gX4_readClause_X4_readSign rfl 1 (by decide +kernel) (by decide) (by decide) 1 rfl rfl rfl rfl rfl (Nat.le_of_ble_eq_true rfl) dX4_readClause_189 ?_
    rintro _ rfl
    exact E _ _ _ (Or.inl (by rw [hFF]; exact ⟨hR12, _, _, _, _, _, _, _, _, _, (show px12 ≤ n 2 by omega), (cw_eq rfl rfl rfl rfl rfl rfl rfl rfl rfl rfl rfl rfl rfl rfl rfl rfl rfl rfl rfl rfl rfl rfl rfl rfl rfl rfl rfl rfl rfl rfl rfl rfl rfl rfl rfl rfl rfl rfl rfl rfl rfl rfl rfl rfl rfl rfl rfl rfl rfl rfl rfl)⟩)) dX4_readClause_192
  · replace hR12 : (rF (r 0) (n 2) (n 3 + 1) 5).1 = 0 := hR12
    replace ey12 : py12 = nE (r 0) (n 2) (rwq (r 0) (n 2) (n 3 + 1) 4) := ey12
    have hly : py12 ≤ n 2 := by have h9 := bE_le (f := r 0) (L := n 2) (p := n 3 + 1) (k := 1) hlt (by rw [bF_1]; exact hR12); unfold bE at h9; rw [if_pos rfl] at h9; rw [ey12]; exact h9
    refine z_X (Y := CW θ ea ad (cnv (n 0) (n 1) (n 2) py12 (n 4) (n 5) (n 6 + 1) (n 7) (n 8) (n 9) (n 10) (n 11) (n 12) (n 13) (n 14) (n 15) (n 16) (n 17) (n 18) (n 19) (n 20)) g b (crv (r 0) (upd (r 1) (n 6) (rS (r 0) (n 2) (n 3 + 1) 5)) (r 2) (r 3) (r 4) (r 5) (r 6) (r 7) (r 8) (r 9) (r 10) (r 11) (r 12) (r 13) (r 14) (r 15) (r 16) (r 17) (r 18)) V) (cw_eq rfl rfl rfl rfl rfl rfl rfl rfl rfl rfl rfl rfl rfl rfl rfl rfl rfl rfl rfl rfl rfl rfl rfl rfl rfl rfl rfl rfl rfl rfl rfl rfl rfl rfl rfl rfl rfl rfl rfl rfl rfl rfl rfl rfl rfl rfl rfl rfl rfl rfl rfl) ?_
    refine z_goto C 186 dX4_readClause_76 (by decide) ?_
    have hB0 : (bF (r 0) (n 2) (n 3 + 1) 1).1 = 0 := by rw [bF_1]; exact hR12
    have hbE : bE (r 0) (n 2) (n 3 + 1) 1 = py12 := by unfold bE; rw [if_pos rfl]; exact ey12.symm
    have hS := clF_s (C := n 8) (W := n 7) (S := n 6) (G := n 5) hq.symm hK (by omega) hfu hB0
    rw [hbE] at hS; unfold sF at hS
    refine z_aload_n C dX4_readClause_186 rfl (show zlk _ 0 = some (.ref (ad 1)) from rfl) ?_
    refine z_bipush C (v := nI 59) dX4_readClause_187 (by decide) ?_
    refine z_callVv C (As := [.int (nI 59)]) (rest := []) (c_X4_readSign_2 l θ ea ad (cnv (n 0) (n 1) (n 2) py12 (n 4) (n 5) (n 6 + 1) (n 7) (n 8) (n 9) (n 10) (n 11) (n 12) (n 13) (n 14) (n 15) (n 16) (n 17) (n 18) (n 19) (n 20)) g b (crv (r 0) (upd (r 1) (n 6) (rS (r 0) (n 2) (n 3 + 1) 5)) (r 2) (r 3) (r 4) (r 5) (r 6) (r 7) (r 8) (r 9) (r 10) (r 11) (r 12) (r 13) (r 14) (r 15) (r 16) (r 17) (r 18)) V (nI 59) (show n 4 = 0 from hf) (show py12 ≤ 240 by omega) hL) gX4_readClause_X4_readSign rfl 1 (by decide +kernel) (by decide) (by decide) 1 rfl rfl rfl rfl rfl (Nat.le_of_ble_eq_true rfl) dX4_readClause_189 ?_
    rintro _ ⟨pg13, eg13, (⟨hs13, rfl⟩ | ⟨hs13, rfl⟩)⟩
    · replace eg13 : sk (r 0) (n 2) (py12) = pg13 := eg13
      replace hs13 : m_hr (r 0) (n 2) pg13 = nI 59 := hs13
      have lg13 := hr_lt hs13 (by decide)
      refine z_X (Y := CW θ ea ad (cnv (n 0) (n 1) (n 2) (pg13 + 1) (n 4) (n 5) (n 6 + 1) (n 7) (n 8) (n 9) (n 10) (n 11) (n 12) (n 13) (n 14) (n 15) (n 16) (n 17) (n 18) (n 19) (n 20)) g b (crv (r 0) (upd (r 1) (n 6) (rS (r 0) (n 2) (n 3 + 1) 5)) (r 2) (r 3) (r 4) (r 5) (r 6) (r 7) (r 8) (r 9) (r 10) (r 11) (r 12) (r 13) (r 14) (r 15) (r 16) (r 17) (r 18)) V) (cw_eq rfl rfl rfl rfl rfl rfl rfl rfl rfl rfl rfl rfl rfl rfl rfl rfl rfl rfl rfl rfl rfl rfl rfl rfl rfl rfl rfl rfl rfl rfl rfl rfl rfl rfl rfl rfl rfl rfl rfl rfl rfl rfl rfl rfl rfl rfl rfl rfl rfl rfl rfl) ?_
      exact E _ _ _ (Or.inr (by rw [eg13, if_pos hs13] at hS; rw [hS]; refine ⟨rfl, _, _, _, _, _, _, _, _, ?_, ?_, ?_, ?_, ?_, ?_, ?_, ?_, (cw_eq rfl rfl rfl rfl rfl rfl rfl rfl rfl rfl rfl rfl rfl rfl rfl rfl rfl rfl rfl rfl rfl rfl rfl rfl rfl rfl rfl rfl hb rfl rfl rfl rfl rfl rfl rfl rfl rfl rfl rfl rfl rfl rfl rfl rfl rfl rfl rfl rfl rfl rfl)⟩; (unfold clP clK; rw [hq, hK, hbE, eg13]); all_goals (first | (unfold clG clK; rw [hq, hK]; rfl) | (unfold clC clK; rw [hq, hK]; rfl) | (unfold clO clK; rw [hq, hK]; rfl) | (unfold clR clK; rw [hq, hK]; rfl)))) dX4_readClause_192
    · replace eg13 : sk (r 0) (n 2) (py12) = pg13 := eg13
      replace hs13 : ¬ m_hr (r 0) (n 2) pg13 = nI 59 := hs13
      have lf13 : pg13 ≤ n 2 := by rw [← eg13]; exact (sk_le hly).2
      refine z_X (Y := CW θ ea ad (cnv (n 0) (n 1) (n 2) pg13 1 (n 5) (n 6 + 1) (n 7) (n 8) (n 9) (n 10) (n 11) (n 12) (n 13) (n 14) (n 15) (n 16) (n 17) (n 18) (n 19) (n 20)) (cgv (g 0) (g 1) (nI pg13) (g 3) (g 4) (g 5) (g 6)) b (crv (r 0) (upd (r 1) (n 6) (rS (r 0) (n 2) (n 3 + 1) 5)) (r 2) (r 3) (r 4) (r 5) (r 6) (r 7) (r 8) (r 9) (r 10) (r 11) (r 12) (r 13) (r 14) (r 15) (r 16) (r 17) (r 18)) V) (cw_eq rfl rfl rfl rfl rfl rfl rfl rfl rfl rfl rfl rfl rfl rfl rfl rfl rfl rfl rfl rfl rfl rfl rfl rfl rfl rfl rfl rfl rfl rfl rfl rfl rfl rfl rfl rfl rfl rfl rfl rfl rfl rfl rfl rfl rfl rfl rfl rfl rfl rfl rfl) ?_
      exact E _ _ _ (Or.inl (by rw [eg13, if_neg hs13] at hS; rw [hS]; exact ⟨by simp, _, _, _, _, _, _, _, _, _, (show pg13 ≤ n 2 by omega), (cw_eq rfl rfl rfl rfl rfl rfl rfl rfl rfl rfl rfl rfl rfl rfl rfl rfl rfl rfl rfl rfl rfl rfl rfl rfl rfl rfl rfl rfl rfl rfl rfl rfl rfl rfl rfl rfl rfl rfl rfl rfl rfl rfl rfl rfl rfl rfl rfl rfl rfl rfl rfl)⟩)) dX4_readClause_192

set_option maxHeartbeats 4000000 in
set_option maxRecDepth 100000 in
theorem c_X4_readClause_w (l : Launch) (θ : zH) (ea : Nat → Nat → Nat) (ad : Nat → Nat) (n : Nat → Nat) (g : Nat → Int32) (b : Nat → Bool) (r : Nat → Nat → Int32) (V : Nat → Ev)  (hf : n 4 = 0) (hp : n 3 ≤ n 2) (hL : n 2 ≤ 240) (hq : sk (r 0) (n 2) (n 3) = n 3) (hc : m_hr (r 0) (n 2) (n 3) = nI 119) (hb : b 0 = true) (hG : 0 < n 5) (hn : n 7 < 5) : cV l yX4_readClause wsX4_readClause 4 θ [.ref (ad 1)] (CW θ ea ad n g b r V) (fun Y => (¬ (clF (r 0) (n 2) (n 3) (n 5) (n 6) (n 7) (n 8)).1 = 0 ∧ ∃ (p : Nat) (t : Bool) (G S W C : Nat) (o lm lk : Nat → Int32), p ≤ n 2 ∧ Y = CW θ ea ad (cnv (n 0) (n 1) (n 2) p ((clF (r 0) (n 2) (n 3) (n 5) (n 6) (n 7) (n 8)).1) G S W C (n 9) (n 10) (n 11) (n 12) (n 13) (n 14) (n 15) (n 16) (n 17) (n 18) (n 19) (n 20)) (cgv (g 0) (g 1) (nI (clF (r 0) (n 2) (n 3) (n 5) (n 6) (n 7) (n 8)).2) (g 3) (g 4) (g 5) (g 6)) (cbv t (b 1) (b 2)) (crv (r 0) o lm lk (r 4) (r 5) (r 6) (r 7) (r 8) (r 9) (r 10) (r 11) (r 12) (r 13) (r 14) (r 15) (r 16) (r 17) (r 18)) V) ∨ ((clF (r 0) (n 2) (n 3) (n 5) (n 6) (n 7) (n 8)).1 = 0 ∧ ∃ p2 G2 S2 W2 C2 o2 l2 k2, p2 = clP (r 0) (n 2) (n 3) ∧ G2 = clG (r 0) (n 2) (n 3) (n 5) ∧ S2 = clC (r 0) (n 2) (n 3) 1 (n 6) ∧ W2 = clC (r 0) (n 2) (n 3) 2 (n 7) ∧ C2 = clC (r 0) (n 2) (n 3) 3 (n 8) ∧ o2 = clO (r 0) (n 2) (n 3) (n 6) (r 1) ∧ l2 = clR (r 0) (n 2) (n 3) 2 (n 7) (r 2) ∧ k2 = clR (r 0) (n 2) (n 3) 3 (n 8) (r 3) ∧ Y = CW θ ea ad (cnv (n 0) (n 1) (n 2) p2 (n 4) G2 S2 W2 C2 (n 9) (n 10) (n 11) (n 12) (n 13) (n 14) (n 15) (n 16) (n 17) (n 18) (n 19) (n 20)) g (cbv true (b 1) (b 2)) (crv (r 0) o2 l2 k2 (r 4) (r 5) (r 6) (r 7) (r 8) (r 9) (r 10) (r 11) (r 12) (r 13) (r 14) (r 15) (r 16) (r 17) (r 18)) V)) := by
  have hlt : n 3 + 1 ≤ n 2 := hr_lt hc (by decide)
  have hK : cK (m_hr (r 0) (n 2) (n 3)) = 2 := by rw [hc]; decide
  have hfu : fullK (n 5) (n 6) (n 7) (n 8) 2 = false := by unfold fullK; simp; omega
  refine z_cV (by decide) rfl rfl (Nat.le_of_ble_eq_true rfl) (lv := [(0, .ref (ad 1))]) rfl (fun κ C E => ?_)
  have hinX0 : ∀ w ∈ wsX00, w ∈ wsX4_readClause := by decide +kernel
  have hinX4 : ∀ w ∈ wsX40, w ∈ wsX4_readClause := by decide +kernel
  refine z_aload_n C dX4_readClause_0 rfl (show zlk _ 0 = some (.ref (ad 1)) from rfl) ?_
  refine z_callVi C (As := []) (rest := []) (c_X4_letterHere l θ ea ad n g b r V (show n 3 < 2 ^ 30 by omega) hL) gX4_readClause_X4_letterHere rfl 0 (by decide +kernel) (by decide) (by decide) 1 rfl rfl rfl rfl rfl (Nat.le_of_ble_eq_true rfl) dX4_readClause_1 ?_
  rintro _ _ ⟨rfl, rfl⟩
  refine z_top (v' := .int (nI 119)) (by rw [hc]) ?_
  refine z_istore_n C [(1, .int (nI 119)), (0, .ref (ad 1))] dX4_readClause_4 rfl (by decide) rfl ?_
  refine z_aload_n C dX4_readClause_5 rfl (show zlk _ 0 = some (.ref (ad 1)) from rfl) ?_
  refine z_iload_n C dX4_readClause_6 rfl (show zlk _ 1 = some (.int (nI 119)) from rfl) ?_
  refine z_callVi C (As := [.int (nI 119)]) (rest := []) (c_X4_faultOfWord_w1 l θ ea ad n g b r V hb hn) gX4_readClause_X4_faultOfWord rfl 1 (by decide +kernel) (by decide) (by decide) 1 rfl rfl rfl rfl rfl (Nat.le_of_ble_eq_true rfl) dX4_readClause_7 ?_
  rintro _ _ ⟨rfl, rfl⟩
  refine z_istore_n C [(2, .int (nI 0)), (1, .int (nI 119)), (0, .ref (ad 1))] dX4_readClause_10 rfl (by decide) rfl ?_
  refine z_iload_n C dX4_readClause_11 rfl (show zlk _ 2 = some (.int (nI 0)) from rfl) ?_
  refine z_if_eqN C 25 dX4_readClause_12 (by decide) (by decide) (fun _ => ?_) (fun h => absurd h (by decide))
  refine z_aload_n C dX4_readClause_25 rfl (show zlk _ 0 = some (.ref (ad 1)) from rfl) ?_
  refine z_dup C dX4_readClause_26 rfl ?_
  refine z_get C hinX4 1 cc_1 rfl 3 (by decide) (by decide +kernel) cg_1_3 dX4_readClause_27 ?_
  refine z_iconst C (v := nI 1) dX4_readClause_30 (by decide) ?_
  refine z_iaddN C dX4_readClause_31 ?_
  refine z_put C hinX4 tyX4 tyX4_ok nmX4 1 cc_1 rfl 3 (by decide) (by decide +kernel) rfl rfl rfl rfl (Nat.le_of_ble_eq_true rfl) _ cp_1_3 dX4_readClause_32 ?_
  refine z_iload_n C dX4_readClause_35 rfl (show zlk _ 1 = some (.int (nI 119)) from rfl) ?_
  refine z_bipush C (v := nI 103) dX4_readClause_36 (by decide) ?_
  refine z_icmp_neT C 66 dX4_readClause_38 (by decide) (by omega) (by omega) (by decide) ?_
  refine z_iload_n C dX4_readClause_66 rfl (show zlk _ 1 = some (.int (nI 119)) from rfl) ?_
  refine z_bipush C (v := nI 115) dX4_readClause_67 (by decide) ?_
  refine z_icmp_neT C 79 dX4_readClause_69 (by decide) (by omega) (by omega) (by decide) ?_
  refine z_iload_n C dX4_readClause_79 rfl (show zlk _ 1 = some (.int (nI 119)) from rfl) ?_
  refine z_bipush C (v := nI 119) dX4_readClause_80 (by decide) ?_
  refine z_icmp_neF C 133 dX4_readClause_82 (by decide) (by omega) (by omega) (by decide) ?_
  refine z_aload_n C dX4_readClause_85 rfl (show zlk _ 0 = some (.ref (ad 1)) from rfl) ?_
  refine z_get C hinX4 1 cc_1 rfl 1 (by decide) (by decide +kernel) cg_1_1 dX4_readClause_86 ?_
  refine z_getN C (host := "GnatPortraits") hinX0 2 cc_2 rfl 3 (by decide) (by decide +kernel) ch_2_3 dX4_readClause_89 ?_
  refine z_iconst C (v := nI 5) dX4_readClause_92 (by decide) ?_
  refine z_icmp_geF C 133 dX4_readClause_93 (by decide) (by omega) (by omega) (by omega) ?_
  refine z_aload_n C dX4_readClause_96 rfl (show zlk _ 0 = some (.ref (ad 1)) from rfl) ?_
  refine z_get C hinX4 1 cc_1 rfl 1 (by decide) (by decide +kernel) cg_1_1 dX4_readClause_97 ?_
  refine z_getN C (host := "GnatPortraits") hinX0 2 cc_2 rfl 6 (by decide) (by decide +kernel) cg_2_6 dX4_readClause_100 ?_
  refine z_aload_n C dX4_readClause_103 rfl (show zlk _ 0 = some (.ref (ad 1)) from rfl) ?_
  refine z_get C hinX4 1 cc_1 rfl 1 (by decide) (by decide +kernel) cg_1_1 dX4_readClause_104 ?_
  refine z_getN C (host := "GnatPortraits") hinX0 2 cc_2 rfl 3 (by decide) (by decide +kernel) ch_2_3 dX4_readClause_107 ?_
  refine z_aload_n C dX4_readClause_110 rfl (show zlk _ 0 = some (.ref (ad 1)) from rfl) ?_
  refine z_iconst C (v := nI 0) dX4_readClause_111 (by decide) ?_
  refine z_iconst C (v := nI 5) dX4_readClause_112 (by decide) ?_
  refine z_callVi C (As := [.int (nI 0), .int (nI 5)]) (rest := [.int (nI (n 7)), .ref (ad 13)]) (c_X4_readNumber_2 l θ ea ad (cnv (n 0) (n 1) (n 2) (n 3 + 1) (n 4) (n 5) (n 6) (n 7) (n 8) (n 9) (n 10) (n 11) (n 12) (n 13) (n 14) (n 15) (n 16) (n 17) (n 18) (n 19) (n 20)) g b r V 0 5 (show n 4 = 0 from hf) (show n 3 + 1 ≤ n 2 from (hlt)) hL (by decide) (by decide)) gX4_readClause_X4_readNumber rfl 2 (by decide +kernel) (by decide) (by decide) 1 rfl rfl rfl rfl rfl (Nat.le_of_ble_eq_true rfl) dX4_readClause_113 ?_
  rintro _ _ ⟨pa14, pb14, ea14, eb14, (⟨hA14, rfl, rfl⟩ | ⟨hA14, hB14, rfl, rfl⟩ | ⟨hA14, hB14, rfl, rfl⟩)⟩
  · replace ea14 : sk (r 0) (n 2) (n 3 + 1) = pa14 := ea14
    replace eb14 : nE (r 0) (n 2) (n 3 + 1) = pb14 := eb14
    replace hA14 : nOk (r 0) (n 2) (n 3 + 1) = false := hA14
    have la14 : pa14 ≤ n 2 := by rw [← ea14]; exact (sk_le (hlt)).2
    refine z_X (Y := CW θ ea ad (cnv (n 0) (n 1) (n 2) pa14 1 (n 5) (n 6) (n 7) (n 8) (n 9) (n 10) (n 11) (n 12) (n 13) (n 14) (n 15) (n 16) (n 17) (n 18) (n 19) (n 20)) (cgv (g 0) (g 1) (nI pa14) (g 3) (g 4) (g 5) (g 6)) b r V) (cw_eq rfl rfl rfl rfl rfl rfl rfl rfl rfl rfl rfl rfl rfl rfl rfl rfl rfl rfl rfl rfl rfl rfl rfl rfl rfl rfl rfl rfl rfl rfl rfl rfl rfl rfl rfl rfl rfl rfl rfl rfl rfl rfl rfl rfl rfl rfl rfl rfl rfl rfl rfl) ?_
    refine z_iast C (f := (r 2)) 13 ca_13 (n 7) rfl (by omega) (by decide) _ cs_13 dX4_readClause_116 ?_
    refine z_aload_n C dX4_readClause_117 rfl (show zlk _ 0 = some (.ref (ad 1)) from rfl) ?_
    refine z_get C hinX4 1 cc_1 rfl 1 (by decide) (by decide +kernel) cg_1_1 dX4_readClause_118 ?_
    refine z_dup C dX4_readClause_121 rfl ?_
    refine z_getN C (host := "GnatPortraits") hinX0 2 cc_2 rfl 3 (by decide) (by decide +kernel) ch_2_3 dX4_readClause_122 ?_
    refine z_iconst C (v := nI 1) dX4_readClause_125 (by decide) ?_
    refine z_iaddN C dX4_readClause_126 ?_
    refine z_putN C (host := "GnatPortraits") hinX0 tyX0 tyX0_ok nmX0 2 cc_2 rfl 3 (by decide) (by decide +kernel) rfl rfl rfl rfl (Nat.le_of_ble_eq_true rfl) _ cv_2_3 dX4_readClause_127 ?_
    refine z_goto C 186 dX4_readClause_130 (by decide) ?_
    have hbF : bF (r 0) (n 2) (n 3 + 1) 2 = (1, pa14) := by rw [bF_2, nF_A hA14, ea14]
    have hFF : clF (r 0) (n 2) (n 3) (n 5) (n 6) (n 7) (n 8) = (1, pa14) := (clF_b hq.symm hK (by omega) hfu (by rw [hbF]; simp)).trans hbF
    refine z_aload_n C dX4_readClause_186 rfl (show zlk _ 0 = some (.ref (ad 1)) from rfl) ?_
    refine z_bipush C (v := nI 59) dX4_readClause_187 (by decide) ?_
    refine z_callVv C (As := [.int (nI 59)]) (rest := []) (c_X4_readSign_1 l θ ea ad (cnv (n 0) (n 1) (n 2) pa14 1 (n 5) (n 6) (n 7 + 1) (n 8) (n 9) (n 10) (n 11) (n 12) (n 13) (n 14) (n 15) (n 16) (n 17) (n 18) (n 19) (n 20)) (cgv (g 0) (g 1) (nI pa14) (g 3) (g 4) (g 5) (g 6)) b (crv (r 0) (r 1) (upd (r 2) (n 7) (nI 0)) (r 3) (r 4) (r 5) (r 6) (r 7) (r 8) (r 9) (r 10) (r 11) (r 12) (r 13) (r 14) (r 15) (r 16) (r 17) (r 18)) V (nI 59) (show ¬ 1 = 0 by decide) (show 1 < 2 ^ 31 by decide)) gX4_readClause_X4_readSign rfl 1 (by decide +kernel) (by decide) (by decide) 1 rfl rfl rfl rfl rfl (Nat.le_of_ble_eq_true rfl) dX4_readClause_189 ?_
    rintro _ rfl
    exact E _ _ _ (Or.inl (by rw [hFF]; exact ⟨by simp, _, _, _, _, _, _, _, _, _, (show pa14 ≤ n 2 by omega), (cw_eq rfl rfl rfl rfl rfl rfl rfl rfl rfl rfl rfl rfl rfl rfl rfl rfl rfl rfl rfl rfl rfl rfl rfl rfl rfl rfl rfl rfl rfl rfl rfl rfl rfl rfl rfl rfl rfl rfl rfl rfl rfl rfl rfl rfl rfl rfl rfl rfl rfl rfl rfl)⟩)) dX4_readClause_192
  · replace ea14 : sk (r 0) (n 2) (n 3 + 1) = pa14 := ea14
    replace eb14 : nE (r 0) (n 2) (n 3 + 1) = pb14 := eb14
    replace hA14 : nOk (r 0) (n 2) (n 3 + 1) = true := hA14
    replace hB14 : nBad (r 0) (n 2) (n 3 + 1) 0 5 := hB14
    have lb14 : pb14 ≤ n 2 := by rw [← eb14]; exact (nE_le (hlt)).2
    refine z_X (Y := CW θ ea ad (cnv (n 0) (n 1) (n 2) pb14 2 (n 5) (n 6) (n 7) (n 8) (n 9) (n 10) (n 11) (n 12) (n 13) (n 14) (n 15) (n 16) (n 17) (n 18) (n 19) (n 20)) (cgv (g 0) (g 1) (nI pa14) (g 3) (g 4) (g 5) (g 6)) b r V) (cw_eq rfl rfl rfl rfl rfl rfl rfl rfl rfl rfl rfl rfl rfl rfl rfl rfl rfl rfl rfl rfl rfl rfl rfl rfl rfl rfl rfl rfl rfl rfl rfl rfl rfl rfl rfl rfl rfl rfl rfl rfl rfl rfl rfl rfl rfl rfl rfl rfl rfl rfl rfl) ?_
    refine z_iast C (f := (r 2)) 13 ca_13 (n 7) rfl (by omega) (by decide) _ cs_13 dX4_readClause_116 ?_
    refine z_aload_n C dX4_readClause_117 rfl (show zlk _ 0 = some (.ref (ad 1)) from rfl) ?_
    refine z_get C hinX4 1 cc_1 rfl 1 (by decide) (by decide +kernel) cg_1_1 dX4_readClause_118 ?_
    refine z_dup C dX4_readClause_121 rfl ?_
    refine z_getN C (host := "GnatPortraits") hinX0 2 cc_2 rfl 3 (by decide) (by decide +kernel) ch_2_3 dX4_readClause_122 ?_
    refine z_iconst C (v := nI 1) dX4_readClause_125 (by decide) ?_
    refine z_iaddN C dX4_readClause_126 ?_
    refine z_putN C (host := "GnatPortraits") hinX0 tyX0 tyX0_ok nmX0 2 cc_2 rfl 3 (by decide) (by decide +kernel) rfl rfl rfl rfl (Nat.le_of_ble_eq_true rfl) _ cv_2_3 dX4_readClause_127 ?_
    refine z_goto C 186 dX4_readClause_130 (by decide) ?_
    have hbF : bF (r 0) (n 2) (n 3 + 1) 2 = (2, pa14) := by rw [bF_2, nF_B hA14 hB14, ea14]
    have hFF : clF (r 0) (n 2) (n 3) (n 5) (n 6) (n 7) (n 8) = (2, pa14) := (clF_b hq.symm hK (by omega) hfu (by rw [hbF]; simp)).trans hbF
    refine z_aload_n C dX4_readClause_186 rfl (show zlk _ 0 = some (.ref (ad 1)) from rfl) ?_
    refine z_bipush C (v := nI 59) dX4_readClause_187 (by decide) ?_
    refine z_callVv C (As := [.int (nI 59)]) (rest := []) (c_X4_readSign_1 l θ ea ad (cnv (n 0) (n 1) (n 2) pb14 2 (n 5) (n 6) (n 7 + 1) (n 8) (n 9) (n 10) (n 11) (n 12) (n 13) (n 14) (n 15) (n 16) (n 17) (n 18) (n 19) (n 20)) (cgv (g 0) (g 1) (nI pa14) (g 3) (g 4) (g 5) (g 6)) b (crv (r 0) (r 1) (upd (r 2) (n 7) (nI 0)) (r 3) (r 4) (r 5) (r 6) (r 7) (r 8) (r 9) (r 10) (r 11) (r 12) (r 13) (r 14) (r 15) (r 16) (r 17) (r 18)) V (nI 59) (show ¬ 2 = 0 by decide) (show 2 < 2 ^ 31 by decide)) gX4_readClause_X4_readSign rfl 1 (by decide +kernel) (by decide) (by decide) 1 rfl rfl rfl rfl rfl (Nat.le_of_ble_eq_true rfl) dX4_readClause_189 ?_
    rintro _ rfl
    exact E _ _ _ (Or.inl (by rw [hFF]; exact ⟨by simp, _, _, _, _, _, _, _, _, _, (show pb14 ≤ n 2 by omega), (cw_eq rfl rfl rfl rfl rfl rfl rfl rfl rfl rfl rfl rfl rfl rfl rfl rfl rfl rfl rfl rfl rfl rfl rfl rfl rfl rfl rfl rfl rfl rfl rfl rfl rfl rfl rfl rfl rfl rfl rfl rfl rfl rfl rfl rfl rfl rfl rfl rfl rfl rfl rfl)⟩)) dX4_readClause_192
  · replace ea14 : sk (r 0) (n 2) (n 3 + 1) = pa14 := ea14
    replace eb14 : nE (r 0) (n 2) (n 3 + 1) = pb14 := eb14
    replace hA14 : nOk (r 0) (n 2) (n 3 + 1) = true := hA14
    replace hB14 : ¬ nBad (r 0) (n 2) (n 3 + 1) 0 5 := hB14
    have lb14 : pb14 ≤ n 2 := by rw [← eb14]; exact (nE_le (hlt)).2
    refine z_top (v' := .int (nI (nV (r 0) (n 2) (n 3 + 1)))) rfl ?_
    refine z_X (Y := CW θ ea ad (cnv (n 0) (n 1) (n 2) pb14 (n 4) (n 5) (n 6) (n 7) (n 8) (n 9) (n 10) (n 11) (n 12) (n 13) (n 14) (n 15) (n 16) (n 17) (n 18) (n 19) (n 20)) g b r V) (cw_eq rfl rfl rfl rfl rfl rfl rfl rfl rfl rfl rfl rfl rfl rfl rfl rfl rfl rfl rfl rfl rfl rfl rfl rfl rfl rfl rfl rfl rfl rfl rfl rfl rfl rfl rfl rfl rfl rfl rfl rfl rfl rfl rfl rfl rfl rfl rfl rfl rfl rfl rfl) ?_
    refine z_iast C (f := (r 2)) 13 ca_13 (n 7) rfl (by omega) (by decide) _ cs_13 dX4_readClause_116 ?_
    refine z_aload_n C dX4_readClause_117 rfl (show zlk _ 0 = some (.ref (ad 1)) from rfl) ?_
    refine z_get C hinX4 1 cc_1 rfl 1 (by decide) (by decide +kernel) cg_1_1 dX4_readClause_118 ?_
    refine z_dup C dX4_readClause_121 rfl ?_
    refine z_getN C (host := "GnatPortraits") hinX0 2 cc_2 rfl 3 (by decide) (by decide +kernel) ch_2_3 dX4_readClause_122 ?_
    refine z_iconst C (v := nI 1) dX4_readClause_125 (by decide) ?_
    refine z_iaddN C dX4_readClause_126 ?_
    refine z_putN C (host := "GnatPortraits") hinX0 tyX0 tyX0_ok nmX0 2 cc_2 rfl 3 (by decide) (by decide +kernel) rfl rfl rfl rfl (Nat.le_of_ble_eq_true rfl) _ cv_2_3 dX4_readClause_127 ?_
    refine z_goto C 186 dX4_readClause_130 (by decide) ?_
    have hB0 : (bF (r 0) (n 2) (n 3 + 1) 2).1 = 0 := by rw [bF_2, nF_C hA14 hB14]
    have hbE : bE (r 0) (n 2) (n 3 + 1) 2 = pb14 := by unfold bE; rw [if_neg (by decide)]; exact eb14
    have hS := clF_s (C := n 8) (W := n 7) (S := n 6) (G := n 5) hq.symm hK (by omega) hfu hB0
    rw [hbE] at hS; unfold sF at hS
    refine z_aload_n C dX4_readClause_186 rfl (show zlk _ 0 = some (.ref (ad 1)) from rfl) ?_
    refine z_bipush C (v := nI 59) dX4_readClause_187 (by decide) ?_
    refine z_callVv C (As := [.int (nI 59)]) (rest := []) (c_X4_readSign_2 l θ ea ad (cnv (n 0) (n 1) (n 2) pb14 (n 4) (n 5) (n 6) (n 7 + 1) (n 8) (n 9) (n 10) (n 11) (n 12) (n 13) (n 14) (n 15) (n 16) (n 17) (n 18) (n 19) (n 20)) g b (crv (r 0) (r 1) (upd (r 2) (n 7) (nI (nV (r 0) (n 2) (n 3 + 1)))) (r 3) (r 4) (r 5) (r 6) (r 7) (r 8) (r 9) (r 10) (r 11) (r 12) (r 13) (r 14) (r 15) (r 16) (r 17) (r 18)) V (nI 59) (show n 4 = 0 from hf) (show pb14 ≤ 240 by omega) hL) gX4_readClause_X4_readSign rfl 1 (by decide +kernel) (by decide) (by decide) 1 rfl rfl rfl rfl rfl (Nat.le_of_ble_eq_true rfl) dX4_readClause_189 ?_
    rintro _ ⟨pg15, eg15, (⟨hs15, rfl⟩ | ⟨hs15, rfl⟩)⟩
    · replace eg15 : sk (r 0) (n 2) (pb14) = pg15 := eg15
      replace hs15 : m_hr (r 0) (n 2) pg15 = nI 59 := hs15
      have lg15 := hr_lt hs15 (by decide)
      refine z_X (Y := CW θ ea ad (cnv (n 0) (n 1) (n 2) (pg15 + 1) (n 4) (n 5) (n 6) (n 7 + 1) (n 8) (n 9) (n 10) (n 11) (n 12) (n 13) (n 14) (n 15) (n 16) (n 17) (n 18) (n 19) (n 20)) g b (crv (r 0) (r 1) (upd (r 2) (n 7) (nI (nV (r 0) (n 2) (n 3 + 1)))) (r 3) (r 4) (r 5) (r 6) (r 7) (r 8) (r 9) (r 10) (r 11) (r 12) (r 13) (r 14) (r 15) (r 16) (r 17) (r 18)) V) (cw_eq rfl rfl rfl rfl rfl rfl rfl rfl rfl rfl rfl rfl rfl rfl rfl rfl rfl rfl rfl rfl rfl rfl rfl rfl rfl rfl rfl rfl rfl rfl rfl rfl rfl rfl rfl rfl rfl rfl rfl rfl rfl rfl rfl rfl rfl rfl rfl rfl rfl rfl rfl) ?_
      exact E _ _ _ (Or.inr (by rw [eg15, if_pos hs15] at hS; rw [hS]; refine ⟨rfl, _, _, _, _, _, _, _, _, ?_, ?_, ?_, ?_, ?_, ?_, ?_, ?_, (cw_eq rfl rfl rfl rfl rfl rfl rfl rfl rfl rfl rfl rfl rfl rfl rfl rfl rfl rfl rfl rfl rfl rfl rfl rfl rfl rfl rfl rfl hb rfl rfl rfl rfl rfl rfl rfl rfl rfl rfl rfl rfl rfl rfl rfl rfl rfl rfl rfl rfl rfl rfl)⟩; (unfold clP clK; rw [hq, hK, hbE, eg15]); all_goals (first | (unfold clG clK; rw [hq, hK]; rfl) | (unfold clC clK; rw [hq, hK]; rfl) | (unfold clO clK; rw [hq, hK]; rfl) | (unfold clR clK; rw [hq, hK]; rfl)))) dX4_readClause_192
    · replace eg15 : sk (r 0) (n 2) (pb14) = pg15 := eg15
      replace hs15 : ¬ m_hr (r 0) (n 2) pg15 = nI 59 := hs15
      have lf15 : pg15 ≤ n 2 := by rw [← eg15]; exact (sk_le lb14).2
      refine z_X (Y := CW θ ea ad (cnv (n 0) (n 1) (n 2) pg15 1 (n 5) (n 6) (n 7 + 1) (n 8) (n 9) (n 10) (n 11) (n 12) (n 13) (n 14) (n 15) (n 16) (n 17) (n 18) (n 19) (n 20)) (cgv (g 0) (g 1) (nI pg15) (g 3) (g 4) (g 5) (g 6)) b (crv (r 0) (r 1) (upd (r 2) (n 7) (nI (nV (r 0) (n 2) (n 3 + 1)))) (r 3) (r 4) (r 5) (r 6) (r 7) (r 8) (r 9) (r 10) (r 11) (r 12) (r 13) (r 14) (r 15) (r 16) (r 17) (r 18)) V) (cw_eq rfl rfl rfl rfl rfl rfl rfl rfl rfl rfl rfl rfl rfl rfl rfl rfl rfl rfl rfl rfl rfl rfl rfl rfl rfl rfl rfl rfl rfl rfl rfl rfl rfl rfl rfl rfl rfl rfl rfl rfl rfl rfl rfl rfl rfl rfl rfl rfl rfl rfl rfl) ?_
      exact E _ _ _ (Or.inl (by rw [eg15, if_neg hs15] at hS; rw [hS]; exact ⟨by simp, _, _, _, _, _, _, _, _, _, (show pg15 ≤ n 2 by omega), (cw_eq rfl rfl rfl rfl rfl rfl rfl rfl rfl rfl rfl rfl rfl rfl rfl rfl rfl rfl rfl rfl rfl rfl rfl rfl rfl rfl rfl rfl rfl rfl rfl rfl rfl rfl rfl rfl rfl rfl rfl rfl rfl rfl rfl rfl rfl rfl rfl rfl rfl rfl rfl)⟩)) dX4_readClause_192

set_option maxHeartbeats 4000000 in
set_option maxRecDepth 100000 in
theorem c_X4_readClause_c (l : Launch) (θ : zH) (ea : Nat → Nat → Nat) (ad : Nat → Nat) (n : Nat → Nat) (g : Nat → Int32) (b : Nat → Bool) (r : Nat → Nat → Int32) (V : Nat → Ev)  (hf : n 4 = 0) (hp : n 3 ≤ n 2) (hL : n 2 ≤ 240) (hq : sk (r 0) (n 2) (n 3) = n 3) (hc : m_hr (r 0) (n 2) (n 3) = nI 99) (hb : b 0 = true) (hG : 0 < n 5) (hn : n 8 < 6) : cV l yX4_readClause wsX4_readClause 4 θ [.ref (ad 1)] (CW θ ea ad n g b r V) (fun Y => (¬ (clF (r 0) (n 2) (n 3) (n 5) (n 6) (n 7) (n 8)).1 = 0 ∧ ∃ (p : Nat) (t : Bool) (G S W C : Nat) (o lm lk : Nat → Int32), p ≤ n 2 ∧ Y = CW θ ea ad (cnv (n 0) (n 1) (n 2) p ((clF (r 0) (n 2) (n 3) (n 5) (n 6) (n 7) (n 8)).1) G S W C (n 9) (n 10) (n 11) (n 12) (n 13) (n 14) (n 15) (n 16) (n 17) (n 18) (n 19) (n 20)) (cgv (g 0) (g 1) (nI (clF (r 0) (n 2) (n 3) (n 5) (n 6) (n 7) (n 8)).2) (g 3) (g 4) (g 5) (g 6)) (cbv t (b 1) (b 2)) (crv (r 0) o lm lk (r 4) (r 5) (r 6) (r 7) (r 8) (r 9) (r 10) (r 11) (r 12) (r 13) (r 14) (r 15) (r 16) (r 17) (r 18)) V) ∨ ((clF (r 0) (n 2) (n 3) (n 5) (n 6) (n 7) (n 8)).1 = 0 ∧ ∃ p2 G2 S2 W2 C2 o2 l2 k2, p2 = clP (r 0) (n 2) (n 3) ∧ G2 = clG (r 0) (n 2) (n 3) (n 5) ∧ S2 = clC (r 0) (n 2) (n 3) 1 (n 6) ∧ W2 = clC (r 0) (n 2) (n 3) 2 (n 7) ∧ C2 = clC (r 0) (n 2) (n 3) 3 (n 8) ∧ o2 = clO (r 0) (n 2) (n 3) (n 6) (r 1) ∧ l2 = clR (r 0) (n 2) (n 3) 2 (n 7) (r 2) ∧ k2 = clR (r 0) (n 2) (n 3) 3 (n 8) (r 3) ∧ Y = CW θ ea ad (cnv (n 0) (n 1) (n 2) p2 (n 4) G2 S2 W2 C2 (n 9) (n 10) (n 11) (n 12) (n 13) (n 14) (n 15) (n 16) (n 17) (n 18) (n 19) (n 20)) g (cbv true (b 1) (b 2)) (crv (r 0) o2 l2 k2 (r 4) (r 5) (r 6) (r 7) (r 8) (r 9) (r 10) (r 11) (r 12) (r 13) (r 14) (r 15) (r 16) (r 17) (r 18)) V)) := by
  have hlt : n 3 + 1 ≤ n 2 := hr_lt hc (by decide)
  have hK : cK (m_hr (r 0) (n 2) (n 3)) = 3 := by rw [hc]; decide
  have hfu : fullK (n 5) (n 6) (n 7) (n 8) 3 = false := by unfold fullK; simp; omega
  refine z_cV (by decide) rfl rfl (Nat.le_of_ble_eq_true rfl) (lv := [(0, .ref (ad 1))]) rfl (fun κ C E => ?_)
  have hinX0 : ∀ w ∈ wsX00, w ∈ wsX4_readClause := by decide +kernel
  have hinX4 : ∀ w ∈ wsX40, w ∈ wsX4_readClause := by decide +kernel
  refine z_aload_n C dX4_readClause_0 rfl (show zlk _ 0 = some (.ref (ad 1)) from rfl) ?_
  refine z_callVi C (As := []) (rest := []) (c_X4_letterHere l θ ea ad n g b r V (show n 3 < 2 ^ 30 by omega) hL) gX4_readClause_X4_letterHere rfl 0 (by decide +kernel) (by decide) (by decide) 1 rfl rfl rfl rfl rfl (Nat.le_of_ble_eq_true rfl) dX4_readClause_1 ?_
  rintro _ _ ⟨rfl, rfl⟩
  refine z_top (v' := .int (nI 99)) (by rw [hc]) ?_
  refine z_istore_n C [(1, .int (nI 99)), (0, .ref (ad 1))] dX4_readClause_4 rfl (by decide) rfl ?_
  refine z_aload_n C dX4_readClause_5 rfl (show zlk _ 0 = some (.ref (ad 1)) from rfl) ?_
  refine z_iload_n C dX4_readClause_6 rfl (show zlk _ 1 = some (.int (nI 99)) from rfl) ?_
  refine z_callVi C (As := [.int (nI 99)]) (rest := []) (c_X4_faultOfWord_c1 l θ ea ad n g b r V hb hn) gX4_readClause_X4_faultOfWord rfl 1 (by decide +kernel) (by decide) (by decide) 1 rfl rfl rfl rfl rfl (Nat.le_of_ble_eq_true rfl) dX4_readClause_7 ?_
  rintro _ _ ⟨rfl, rfl⟩
  refine z_istore_n C [(2, .int (nI 0)), (1, .int (nI 99)), (0, .ref (ad 1))] dX4_readClause_10 rfl (by decide) rfl ?_
  refine z_iload_n C dX4_readClause_11 rfl (show zlk _ 2 = some (.int (nI 0)) from rfl) ?_
  refine z_if_eqN C 25 dX4_readClause_12 (by decide) (by decide) (fun _ => ?_) (fun h => absurd h (by decide))
  refine z_aload_n C dX4_readClause_25 rfl (show zlk _ 0 = some (.ref (ad 1)) from rfl) ?_
  refine z_dup C dX4_readClause_26 rfl ?_
  refine z_get C hinX4 1 cc_1 rfl 3 (by decide) (by decide +kernel) cg_1_3 dX4_readClause_27 ?_
  refine z_iconst C (v := nI 1) dX4_readClause_30 (by decide) ?_
  refine z_iaddN C dX4_readClause_31 ?_
  refine z_put C hinX4 tyX4 tyX4_ok nmX4 1 cc_1 rfl 3 (by decide) (by decide +kernel) rfl rfl rfl rfl (Nat.le_of_ble_eq_true rfl) _ cp_1_3 dX4_readClause_32 ?_
  refine z_iload_n C dX4_readClause_35 rfl (show zlk _ 1 = some (.int (nI 99)) from rfl) ?_
  refine z_bipush C (v := nI 103) dX4_readClause_36 (by decide) ?_
  refine z_icmp_neT C 66 dX4_readClause_38 (by decide) (by omega) (by omega) (by decide) ?_
  refine z_iload_n C dX4_readClause_66 rfl (show zlk _ 1 = some (.int (nI 99)) from rfl) ?_
  refine z_bipush C (v := nI 115) dX4_readClause_67 (by decide) ?_
  refine z_icmp_neT C 79 dX4_readClause_69 (by decide) (by omega) (by omega) (by decide) ?_
  refine z_iload_n C dX4_readClause_79 rfl (show zlk _ 1 = some (.int (nI 99)) from rfl) ?_
  refine z_bipush C (v := nI 119) dX4_readClause_80 (by decide) ?_
  refine z_icmp_neT C 133 dX4_readClause_82 (by decide) (by omega) (by omega) (by decide) ?_
  refine z_iload_n C dX4_readClause_133 rfl (show zlk _ 1 = some (.int (nI 99)) from rfl) ?_
  refine z_bipush C (v := nI 99) dX4_readClause_134 (by decide) ?_
  refine z_icmp_neF C 186 dX4_readClause_136 (by decide) (by omega) (by omega) (by decide) ?_
  refine z_aload_n C dX4_readClause_139 rfl (show zlk _ 0 = some (.ref (ad 1)) from rfl) ?_
  refine z_get C hinX4 1 cc_1 rfl 1 (by decide) (by decide +kernel) cg_1_1 dX4_readClause_140 ?_
  refine z_getN C (host := "GnatPortraits") hinX0 2 cc_2 rfl 4 (by decide) (by decide +kernel) ch_2_4 dX4_readClause_143 ?_
  refine z_bipush C (v := nI 6) dX4_readClause_146 (by decide) ?_
  refine z_icmp_geF C 186 dX4_readClause_148 (by decide) (by omega) (by omega) (by omega) ?_
  refine z_aload_n C dX4_readClause_151 rfl (show zlk _ 0 = some (.ref (ad 1)) from rfl) ?_
  refine z_get C hinX4 1 cc_1 rfl 1 (by decide) (by decide +kernel) cg_1_1 dX4_readClause_152 ?_
  refine z_getN C (host := "GnatPortraits") hinX0 2 cc_2 rfl 7 (by decide) (by decide +kernel) cg_2_7 dX4_readClause_155 ?_
  refine z_aload_n C dX4_readClause_158 rfl (show zlk _ 0 = some (.ref (ad 1)) from rfl) ?_
  refine z_get C hinX4 1 cc_1 rfl 1 (by decide) (by decide +kernel) cg_1_1 dX4_readClause_159 ?_
  refine z_getN C (host := "GnatPortraits") hinX0 2 cc_2 rfl 4 (by decide) (by decide +kernel) ch_2_4 dX4_readClause_162 ?_
  refine z_aload_n C dX4_readClause_165 rfl (show zlk _ 0 = some (.ref (ad 1)) from rfl) ?_
  refine z_iconst C (v := nI 1) dX4_readClause_166 (by decide) ?_
  refine z_bipush C (v := nI 63) dX4_readClause_167 (by decide) ?_
  refine z_callVi C (As := [.int (nI 1), .int (nI 63)]) (rest := [.int (nI (n 8)), .ref (ad 14)]) (c_X4_readNumber_2 l θ ea ad (cnv (n 0) (n 1) (n 2) (n 3 + 1) (n 4) (n 5) (n 6) (n 7) (n 8) (n 9) (n 10) (n 11) (n 12) (n 13) (n 14) (n 15) (n 16) (n 17) (n 18) (n 19) (n 20)) g b r V 1 63 (show n 4 = 0 from hf) (show n 3 + 1 ≤ n 2 from (hlt)) hL (by decide) (by decide)) gX4_readClause_X4_readNumber rfl 2 (by decide +kernel) (by decide) (by decide) 1 rfl rfl rfl rfl rfl (Nat.le_of_ble_eq_true rfl) dX4_readClause_169 ?_
  rintro _ _ ⟨pa16, pb16, ea16, eb16, (⟨hA16, rfl, rfl⟩ | ⟨hA16, hB16, rfl, rfl⟩ | ⟨hA16, hB16, rfl, rfl⟩)⟩
  · replace ea16 : sk (r 0) (n 2) (n 3 + 1) = pa16 := ea16
    replace eb16 : nE (r 0) (n 2) (n 3 + 1) = pb16 := eb16
    replace hA16 : nOk (r 0) (n 2) (n 3 + 1) = false := hA16
    have la16 : pa16 ≤ n 2 := by rw [← ea16]; exact (sk_le (hlt)).2
    refine z_X (Y := CW θ ea ad (cnv (n 0) (n 1) (n 2) pa16 1 (n 5) (n 6) (n 7) (n 8) (n 9) (n 10) (n 11) (n 12) (n 13) (n 14) (n 15) (n 16) (n 17) (n 18) (n 19) (n 20)) (cgv (g 0) (g 1) (nI pa16) (g 3) (g 4) (g 5) (g 6)) b r V) (cw_eq rfl rfl rfl rfl rfl rfl rfl rfl rfl rfl rfl rfl rfl rfl rfl rfl rfl rfl rfl rfl rfl rfl rfl rfl rfl rfl rfl rfl rfl rfl rfl rfl rfl rfl rfl rfl rfl rfl rfl rfl rfl rfl rfl rfl rfl rfl rfl rfl rfl rfl rfl) ?_
    refine z_iast C (f := (r 3)) 14 ca_14 (n 8) rfl (by omega) (by decide) _ cs_14 dX4_readClause_172 ?_
    refine z_aload_n C dX4_readClause_173 rfl (show zlk _ 0 = some (.ref (ad 1)) from rfl) ?_
    refine z_get C hinX4 1 cc_1 rfl 1 (by decide) (by decide +kernel) cg_1_1 dX4_readClause_174 ?_
    refine z_dup C dX4_readClause_177 rfl ?_
    refine z_getN C (host := "GnatPortraits") hinX0 2 cc_2 rfl 4 (by decide) (by decide +kernel) ch_2_4 dX4_readClause_178 ?_
    refine z_iconst C (v := nI 1) dX4_readClause_181 (by decide) ?_
    refine z_iaddN C dX4_readClause_182 ?_
    refine z_putN C (host := "GnatPortraits") hinX0 tyX0 tyX0_ok nmX0 2 cc_2 rfl 4 (by decide) (by decide +kernel) rfl rfl rfl rfl (Nat.le_of_ble_eq_true rfl) _ cv_2_4 dX4_readClause_183 ?_
    have hbF : bF (r 0) (n 2) (n 3 + 1) 3 = (1, pa16) := by rw [bF_3, nF_A hA16, ea16]
    have hFF : clF (r 0) (n 2) (n 3) (n 5) (n 6) (n 7) (n 8) = (1, pa16) := (clF_b hq.symm hK (by omega) hfu (by rw [hbF]; simp)).trans hbF
    refine z_aload_n C dX4_readClause_186 rfl (show zlk _ 0 = some (.ref (ad 1)) from rfl) ?_
    refine z_bipush C (v := nI 59) dX4_readClause_187 (by decide) ?_
    refine z_callVv C (As := [.int (nI 59)]) (rest := []) (c_X4_readSign_1 l θ ea ad (cnv (n 0) (n 1) (n 2) pa16 1 (n 5) (n 6) (n 7) (n 8 + 1) (n 9) (n 10) (n 11) (n 12) (n 13) (n 14) (n 15) (n 16) (n 17) (n 18) (n 19) (n 20)) (cgv (g 0) (g 1) (nI pa16) (g 3) (g 4) (g 5) (g 6)) b (crv (r 0) (r 1) (r 2) (upd (r 3) (n 8) (nI 0)) (r 4) (r 5) (r 6) (r 7) (r 8) (r 9) (r 10) (r 11) (r 12) (r 13) (r 14) (r 15) (r 16) (r 17) (r 18)) V (nI 59) (show ¬ 1 = 0 by decide) (show 1 < 2 ^ 31 by decide)) gX4_readClause_X4_readSign rfl 1 (by decide +kernel) (by decide) (by decide) 1 rfl rfl rfl rfl rfl (Nat.le_of_ble_eq_true rfl) dX4_readClause_189 ?_
    rintro _ rfl
    exact E _ _ _ (Or.inl (by rw [hFF]; exact ⟨by simp, _, _, _, _, _, _, _, _, _, (show pa16 ≤ n 2 by omega), (cw_eq rfl rfl rfl rfl rfl rfl rfl rfl rfl rfl rfl rfl rfl rfl rfl rfl rfl rfl rfl rfl rfl rfl rfl rfl rfl rfl rfl rfl rfl rfl rfl rfl rfl rfl rfl rfl rfl rfl rfl rfl rfl rfl rfl rfl rfl rfl rfl rfl rfl rfl rfl)⟩)) dX4_readClause_192
  · replace ea16 : sk (r 0) (n 2) (n 3 + 1) = pa16 := ea16
    replace eb16 : nE (r 0) (n 2) (n 3 + 1) = pb16 := eb16
    replace hA16 : nOk (r 0) (n 2) (n 3 + 1) = true := hA16
    replace hB16 : nBad (r 0) (n 2) (n 3 + 1) 1 63 := hB16
    have lb16 : pb16 ≤ n 2 := by rw [← eb16]; exact (nE_le (hlt)).2
    refine z_X (Y := CW θ ea ad (cnv (n 0) (n 1) (n 2) pb16 2 (n 5) (n 6) (n 7) (n 8) (n 9) (n 10) (n 11) (n 12) (n 13) (n 14) (n 15) (n 16) (n 17) (n 18) (n 19) (n 20)) (cgv (g 0) (g 1) (nI pa16) (g 3) (g 4) (g 5) (g 6)) b r V) (cw_eq rfl rfl rfl rfl rfl rfl rfl rfl rfl rfl rfl rfl rfl rfl rfl rfl rfl rfl rfl rfl rfl rfl rfl rfl rfl rfl rfl rfl rfl rfl rfl rfl rfl rfl rfl rfl rfl rfl rfl rfl rfl rfl rfl rfl rfl rfl rfl rfl rfl rfl rfl) ?_
    refine z_iast C (f := (r 3)) 14 ca_14 (n 8) rfl (by omega) (by decide) _ cs_14 dX4_readClause_172 ?_
    refine z_aload_n C dX4_readClause_173 rfl (show zlk _ 0 = some (.ref (ad 1)) from rfl) ?_
    refine z_get C hinX4 1 cc_1 rfl 1 (by decide) (by decide +kernel) cg_1_1 dX4_readClause_174 ?_
    refine z_dup C dX4_readClause_177 rfl ?_
    refine z_getN C (host := "GnatPortraits") hinX0 2 cc_2 rfl 4 (by decide) (by decide +kernel) ch_2_4 dX4_readClause_178 ?_
    refine z_iconst C (v := nI 1) dX4_readClause_181 (by decide) ?_
    refine z_iaddN C dX4_readClause_182 ?_
    refine z_putN C (host := "GnatPortraits") hinX0 tyX0 tyX0_ok nmX0 2 cc_2 rfl 4 (by decide) (by decide +kernel) rfl rfl rfl rfl (Nat.le_of_ble_eq_true rfl) _ cv_2_4 dX4_readClause_183 ?_
    have hbF : bF (r 0) (n 2) (n 3 + 1) 3 = (2, pa16) := by rw [bF_3, nF_B hA16 hB16, ea16]
    have hFF : clF (r 0) (n 2) (n 3) (n 5) (n 6) (n 7) (n 8) = (2, pa16) := (clF_b hq.symm hK (by omega) hfu (by rw [hbF]; simp)).trans hbF
    refine z_aload_n C dX4_readClause_186 rfl (show zlk _ 0 = some (.ref (ad 1)) from rfl) ?_
    refine z_bipush C (v := nI 59) dX4_readClause_187 (by decide) ?_
    refine z_callVv C (As := [.int (nI 59)]) (rest := []) (c_X4_readSign_1 l θ ea ad (cnv (n 0) (n 1) (n 2) pb16 2 (n 5) (n 6) (n 7) (n 8 + 1) (n 9) (n 10) (n 11) (n 12) (n 13) (n 14) (n 15) (n 16) (n 17) (n 18) (n 19) (n 20)) (cgv (g 0) (g 1) (nI pa16) (g 3) (g 4) (g 5) (g 6)) b (crv (r 0) (r 1) (r 2) (upd (r 3) (n 8) (nI 0)) (r 4) (r 5) (r 6) (r 7) (r 8) (r 9) (r 10) (r 11) (r 12) (r 13) (r 14) (r 15) (r 16) (r 17) (r 18)) V (nI 59) (show ¬ 2 = 0 by decide) (show 2 < 2 ^ 31 by decide)) gX4_readClause_X4_readSign rfl 1 (by decide +kernel) (by decide) (by decide) 1 rfl rfl rfl rfl rfl (Nat.le_of_ble_eq_true rfl) dX4_readClause_189 ?_
    rintro _ rfl
    exact E _ _ _ (Or.inl (by rw [hFF]; exact ⟨by simp, _, _, _, _, _, _, _, _, _, (show pb16 ≤ n 2 by omega), (cw_eq rfl rfl rfl rfl rfl rfl rfl rfl rfl rfl rfl rfl rfl rfl rfl rfl rfl rfl rfl rfl rfl rfl rfl rfl rfl rfl rfl rfl rfl rfl rfl rfl rfl rfl rfl rfl rfl rfl rfl rfl rfl rfl rfl rfl rfl rfl rfl rfl rfl rfl rfl)⟩)) dX4_readClause_192
  · replace ea16 : sk (r 0) (n 2) (n 3 + 1) = pa16 := ea16
    replace eb16 : nE (r 0) (n 2) (n 3 + 1) = pb16 := eb16
    replace hA16 : nOk (r 0) (n 2) (n 3 + 1) = true := hA16
    replace hB16 : ¬ nBad (r 0) (n 2) (n 3 + 1) 1 63 := hB16
    have lb16 : pb16 ≤ n 2 := by rw [← eb16]; exact (nE_le (hlt)).2
    refine z_top (v' := .int (nI (nV (r 0) (n 2) (n 3 + 1)))) rfl ?_
    refine z_X (Y := CW θ ea ad (cnv (n 0) (n 1) (n 2) pb16 (n 4) (n 5) (n 6) (n 7) (n 8) (n 9) (n 10) (n 11) (n 12) (n 13) (n 14) (n 15) (n 16) (n 17) (n 18) (n 19) (n 20)) g b r V) (cw_eq rfl rfl rfl rfl rfl rfl rfl rfl rfl rfl rfl rfl rfl rfl rfl rfl rfl rfl rfl rfl rfl rfl rfl rfl rfl rfl rfl rfl rfl rfl rfl rfl rfl rfl rfl rfl rfl rfl rfl rfl rfl rfl rfl rfl rfl rfl rfl rfl rfl rfl rfl) ?_
    refine z_iast C (f := (r 3)) 14 ca_14 (n 8) rfl (by omega) (by decide) _ cs_14 dX4_readClause_172 ?_
    refine z_aload_n C dX4_readClause_173 rfl (show zlk _ 0 = some (.ref (ad 1)) from rfl) ?_
    refine z_get C hinX4 1 cc_1 rfl 1 (by decide) (by decide +kernel) cg_1_1 dX4_readClause_174 ?_
    refine z_dup C dX4_readClause_177 rfl ?_
    refine z_getN C (host := "GnatPortraits") hinX0 2 cc_2 rfl 4 (by decide) (by decide +kernel) ch_2_4 dX4_readClause_178 ?_
    refine z_iconst C (v := nI 1) dX4_readClause_181 (by decide) ?_
    refine z_iaddN C dX4_readClause_182 ?_
    refine z_putN C (host := "GnatPortraits") hinX0 tyX0 tyX0_ok nmX0 2 cc_2 rfl 4 (by decide) (by decide +kernel) rfl rfl rfl rfl (Nat.le_of_ble_eq_true rfl) _ cv_2_4 dX4_readClause_183 ?_
    have hB0 : (bF (r 0) (n 2) (n 3 + 1) 3).1 = 0 := by rw [bF_3, nF_C hA16 hB16]
    have hbE : bE (r 0) (n 2) (n 3 + 1) 3 = pb16 := by unfold bE; rw [if_neg (by decide)]; exact eb16
    have hS := clF_s (C := n 8) (W := n 7) (S := n 6) (G := n 5) hq.symm hK (by omega) hfu hB0
    rw [hbE] at hS; unfold sF at hS
    refine z_aload_n C dX4_readClause_186 rfl (show zlk _ 0 = some (.ref (ad 1)) from rfl) ?_
    refine z_bipush C (v := nI 59) dX4_readClause_187 (by decide) ?_
    refine z_callVv C (As := [.int (nI 59)]) (rest := []) (c_X4_readSign_2 l θ ea ad (cnv (n 0) (n 1) (n 2) pb16 (n 4) (n 5) (n 6) (n 7) (n 8 + 1) (n 9) (n 10) (n 11) (n 12) (n 13) (n 14) (n 15) (n 16) (n 17) (n 18) (n 19) (n 20)) g b (crv (r 0) (r 1) (r 2) (upd (r 3) (n 8) (nI (nV (r 0) (n 2) (n 3 + 1)))) (r 4) (r 5) (r 6) (r 7) (r 8) (r 9) (r 10) (r 11) (r 12) (r 13) (r 14) (r 15) (r 16) (r 17) (r 18)) V (nI 59) (show n 4 = 0 from hf) (show pb16 ≤ 240 by omega) hL) gX4_readClause_X4_readSign rfl 1 (by decide +kernel) (by decide) (by decide) 1 rfl rfl rfl rfl rfl (Nat.le_of_ble_eq_true rfl) dX4_readClause_189 ?_
    rintro _ ⟨pg17, eg17, (⟨hs17, rfl⟩ | ⟨hs17, rfl⟩)⟩
    · replace eg17 : sk (r 0) (n 2) (pb16) = pg17 := eg17
      replace hs17 : m_hr (r 0) (n 2) pg17 = nI 59 := hs17
      have lg17 := hr_lt hs17 (by decide)
      refine z_X (Y := CW θ ea ad (cnv (n 0) (n 1) (n 2) (pg17 + 1) (n 4) (n 5) (n 6) (n 7) (n 8 + 1) (n 9) (n 10) (n 11) (n 12) (n 13) (n 14) (n 15) (n 16) (n 17) (n 18) (n 19) (n 20)) g b (crv (r 0) (r 1) (r 2) (upd (r 3) (n 8) (nI (nV (r 0) (n 2) (n 3 + 1)))) (r 4) (r 5) (r 6) (r 7) (r 8) (r 9) (r 10) (r 11) (r 12) (r 13) (r 14) (r 15) (r 16) (r 17) (r 18)) V) (cw_eq rfl rfl rfl rfl rfl rfl rfl rfl rfl rfl rfl rfl rfl rfl rfl rfl rfl rfl rfl rfl rfl rfl rfl rfl rfl rfl rfl rfl rfl rfl rfl rfl rfl rfl rfl rfl rfl rfl rfl rfl rfl rfl rfl rfl rfl rfl rfl rfl rfl rfl rfl) ?_
      exact E _ _ _ (Or.inr (by rw [eg17, if_pos hs17] at hS; rw [hS]; refine ⟨rfl, _, _, _, _, _, _, _, _, ?_, ?_, ?_, ?_, ?_, ?_, ?_, ?_, (cw_eq rfl rfl rfl rfl rfl rfl rfl rfl rfl rfl rfl rfl rfl rfl rfl rfl rfl rfl rfl rfl rfl rfl rfl rfl rfl rfl rfl rfl hb rfl rfl rfl rfl rfl rfl rfl rfl rfl rfl rfl rfl rfl rfl rfl rfl rfl rfl rfl rfl rfl rfl)⟩; (unfold clP clK; rw [hq, hK, hbE, eg17]); all_goals (first | (unfold clG clK; rw [hq, hK]; rfl) | (unfold clC clK; rw [hq, hK]; rfl) | (unfold clO clK; rw [hq, hK]; rfl) | (unfold clR clK; rw [hq, hK]; rfl)))) dX4_readClause_192
    · replace eg17 : sk (r 0) (n 2) (pb16) = pg17 := eg17
      replace hs17 : ¬ m_hr (r 0) (n 2) pg17 = nI 59 := hs17
      have lf17 : pg17 ≤ n 2 := by rw [← eg17]; exact (sk_le lb16).2
      refine z_X (Y := CW θ ea ad (cnv (n 0) (n 1) (n 2) pg17 1 (n 5) (n 6) (n 7) (n 8 + 1) (n 9) (n 10) (n 11) (n 12) (n 13) (n 14) (n 15) (n 16) (n 17) (n 18) (n 19) (n 20)) (cgv (g 0) (g 1) (nI pg17) (g 3) (g 4) (g 5) (g 6)) b (crv (r 0) (r 1) (r 2) (upd (r 3) (n 8) (nI (nV (r 0) (n 2) (n 3 + 1)))) (r 4) (r 5) (r 6) (r 7) (r 8) (r 9) (r 10) (r 11) (r 12) (r 13) (r 14) (r 15) (r 16) (r 17) (r 18)) V) (cw_eq rfl rfl rfl rfl rfl rfl rfl rfl rfl rfl rfl rfl rfl rfl rfl rfl rfl rfl rfl rfl rfl rfl rfl rfl rfl rfl rfl rfl rfl rfl rfl rfl rfl rfl rfl rfl rfl rfl rfl rfl rfl rfl rfl rfl rfl rfl rfl rfl rfl rfl rfl) ?_
      exact E _ _ _ (Or.inl (by rw [eg17, if_neg hs17] at hS; rw [hS]; exact ⟨by simp, _, _, _, _, _, _, _, _, _, (show pg17 ≤ n 2 by omega), (cw_eq rfl rfl rfl rfl rfl rfl rfl rfl rfl rfl rfl rfl rfl rfl rfl rfl rfl rfl rfl rfl rfl rfl rfl rfl rfl rfl rfl rfl rfl rfl rfl rfl rfl rfl rfl rfl rfl rfl rfl rfl rfl rfl rfl rfl rfl rfl rfl rfl rfl rfl rfl)⟩)) dX4_readClause_192

set_option maxHeartbeats 4000000 in
set_option maxRecDepth 100000 in
theorem c_X4_readClause_g3 (l : Launch) (θ : zH) (ea : Nat → Nat → Nat) (ad : Nat → Nat) (n : Nat → Nat) (g : Nat → Int32) (b : Nat → Bool) (r : Nat → Nat → Int32) (V : Nat → Ev)  (hf : n 4 = 0) (hp : n 3 ≤ n 2) (hL : n 2 ≤ 240) (hq : sk (r 0) (n 2) (n 3) = n 3) (hc : m_hr (r 0) (n 2) (n 3) = nI 103) (hb : b 0 = true) (hG : 0 < n 5) : cV l yX4_readClause wsX4_readClause 4 θ [.ref (ad 1)] (CW θ ea ad n g b r V) (fun Y => (¬ (clF (r 0) (n 2) (n 3) (n 5) (n 6) (n 7) (n 8)).1 = 0 ∧ ∃ (p : Nat) (t : Bool) (G S W C : Nat) (o lm lk : Nat → Int32), p ≤ n 2 ∧ Y = CW θ ea ad (cnv (n 0) (n 1) (n 2) p ((clF (r 0) (n 2) (n 3) (n 5) (n 6) (n 7) (n 8)).1) G S W C (n 9) (n 10) (n 11) (n 12) (n 13) (n 14) (n 15) (n 16) (n 17) (n 18) (n 19) (n 20)) (cgv (g 0) (g 1) (nI (clF (r 0) (n 2) (n 3) (n 5) (n 6) (n 7) (n 8)).2) (g 3) (g 4) (g 5) (g 6)) (cbv t (b 1) (b 2)) (crv (r 0) o lm lk (r 4) (r 5) (r 6) (r 7) (r 8) (r 9) (r 10) (r 11) (r 12) (r 13) (r 14) (r 15) (r 16) (r 17) (r 18)) V) ∨ ((clF (r 0) (n 2) (n 3) (n 5) (n 6) (n 7) (n 8)).1 = 0 ∧ ∃ p2 G2 S2 W2 C2 o2 l2 k2, p2 = clP (r 0) (n 2) (n 3) ∧ G2 = clG (r 0) (n 2) (n 3) (n 5) ∧ S2 = clC (r 0) (n 2) (n 3) 1 (n 6) ∧ W2 = clC (r 0) (n 2) (n 3) 2 (n 7) ∧ C2 = clC (r 0) (n 2) (n 3) 3 (n 8) ∧ o2 = clO (r 0) (n 2) (n 3) (n 6) (r 1) ∧ l2 = clR (r 0) (n 2) (n 3) 2 (n 7) (r 2) ∧ k2 = clR (r 0) (n 2) (n 3) 3 (n 8) (r 3) ∧ Y = CW θ ea ad (cnv (n 0) (n 1) (n 2) p2 (n 4) G2 S2 W2 C2 (n 9) (n 10) (n 11) (n 12) (n 13) (n 14) (n 15) (n 16) (n 17) (n 18) (n 19) (n 20)) g (cbv true (b 1) (b 2)) (crv (r 0) o2 l2 k2 (r 4) (r 5) (r 6) (r 7) (r 8) (r 9) (r 10) (r 11) (r 12) (r 13) (r 14) (r 15) (r 16) (r 17) (r 18)) V)) := by
  refine z_cV (by decide) rfl rfl (Nat.le_of_ble_eq_true rfl) (lv := [(0, .ref (ad 1))]) rfl (fun κ C E => ?_)
  have hinX4 : ∀ w ∈ wsX40, w ∈ wsX4_readClause := by decide +kernel
  refine z_aload_n C dX4_readClause_0 rfl (show zlk _ 0 = some (.ref (ad 1)) from rfl) ?_
  refine z_callVi C (As := []) (rest := []) (c_X4_letterHere l θ ea ad n g b r V (show n 3 < 2 ^ 30 by omega) hL) gX4_readClause_X4_letterHere rfl 0 (by decide +kernel) (by decide) (by decide) 1 rfl rfl rfl rfl rfl (Nat.le_of_ble_eq_true rfl) dX4_readClause_1 ?_
  rintro _ _ ⟨rfl, rfl⟩
  refine z_top (v' := .int (nI 103)) (by rw [hc]) ?_
  refine z_istore_n C [(1, .int (nI 103)), (0, .ref (ad 1))] dX4_readClause_4 rfl (by decide) rfl ?_
  refine z_aload_n C dX4_readClause_5 rfl (show zlk _ 0 = some (.ref (ad 1)) from rfl) ?_
  refine z_iload_n C dX4_readClause_6 rfl (show zlk _ 1 = some (.int (nI 103)) from rfl) ?_
  refine z_callVi C (As := [.int (nI 103)]) (rest := []) (c_X4_faultOfWord_g1 l θ ea ad n g b r V hb) gX4_readClause_X4_faultOfWord rfl 1 (by decide +kernel) (by decide) (by decide) 1 rfl rfl rfl rfl rfl (Nat.le_of_ble_eq_true rfl) dX4_readClause_7 ?_
  rintro _ _ ⟨rfl, rfl⟩
  refine z_istore_n C [(2, .int (nI 3)), (1, .int (nI 103)), (0, .ref (ad 1))] dX4_readClause_10 rfl (by decide) rfl ?_
  refine z_iload_n C dX4_readClause_11 rfl (show zlk _ 2 = some (.int (nI 3)) from rfl) ?_
  refine z_if_eqN C 25 dX4_readClause_12 (by decide) (by decide) (fun h => absurd h (by decide)) (fun _ => ?_)
  refine z_aload_n C dX4_readClause_15 rfl (show zlk _ 0 = some (.ref (ad 1)) from rfl) ?_
  refine z_iload_n C dX4_readClause_16 rfl (show zlk _ 2 = some (.int (nI 3)) from rfl) ?_
  refine z_aload_n C dX4_readClause_17 rfl (show zlk _ 0 = some (.ref (ad 1)) from rfl) ?_
  refine z_get C hinX4 1 cc_1 rfl 3 (by decide) (by decide +kernel) cg_1_3 dX4_readClause_18 ?_
  refine z_callVv C (As := [.int (nI 3), .int (nI (n 3))]) (rest := []) (c_X4_blame l θ ea ad n g b r V 3 (n 3)) gX4_readClause_X4_blame rfl 2 (by decide +kernel) (by decide) (by decide) 1 rfl rfl rfl rfl rfl (Nat.le_of_ble_eq_true rfl) dX4_readClause_21 ?_
  rintro _ rfl
  refine z_X (Y := CW θ ea ad (cnv (n 0) (n 1) (n 2) (n 3) 3 (n 5) (n 6) (n 7) (n 8) (n 9) (n 10) (n 11) (n 12) (n 13) (n 14) (n 15) (n 16) (n 17) (n 18) (n 19) (n 20)) (cgv (g 0) (g 1) (nI (n 3)) (g 3) (g 4) (g 5) (g 6)) b r V) (cw_eq rfl rfl rfl rfl rfl rfl rfl rfl rfl rfl rfl rfl rfl rfl rfl rfl rfl rfl rfl rfl rfl rfl rfl rfl rfl rfl rfl rfl rfl rfl rfl rfl rfl rfl rfl rfl rfl rfl rfl rfl rfl rfl rfl rfl rfl rfl rfl rfl rfl rfl rfl) ?_
  exact E _ _ _ (Or.inl (by rw [clF_3 (k := 0) hq.symm (by rw [hc]; decide) (by omega) (by unfold fullK; simp; omega)]; exact ⟨by simp, _, _, _, _, _, _, _, _, _, hp, (cw_eq rfl rfl rfl rfl rfl rfl rfl rfl rfl rfl rfl rfl rfl rfl rfl rfl rfl rfl rfl rfl rfl rfl rfl rfl rfl rfl rfl rfl rfl rfl rfl rfl rfl rfl rfl rfl rfl rfl rfl rfl rfl rfl rfl rfl rfl rfl rfl rfl rfl rfl rfl)⟩)) dX4_readClause_24

set_option maxHeartbeats 4000000 in
set_option maxRecDepth 100000 in
theorem c_X4_readClause_s3 (l : Launch) (θ : zH) (ea : Nat → Nat → Nat) (ad : Nat → Nat) (n : Nat → Nat) (g : Nat → Int32) (b : Nat → Bool) (r : Nat → Nat → Int32) (V : Nat → Ev)  (hf : n 4 = 0) (hp : n 3 ≤ n 2) (hL : n 2 ≤ 240) (hq : sk (r 0) (n 2) (n 3) = n 3) (hc : m_hr (r 0) (n 2) (n 3) = nI 115) (hb : b 0 = true) (hG : 0 < n 5) (hn : n 6 = 6) : cV l yX4_readClause wsX4_readClause 4 θ [.ref (ad 1)] (CW θ ea ad n g b r V) (fun Y => (¬ (clF (r 0) (n 2) (n 3) (n 5) (n 6) (n 7) (n 8)).1 = 0 ∧ ∃ (p : Nat) (t : Bool) (G S W C : Nat) (o lm lk : Nat → Int32), p ≤ n 2 ∧ Y = CW θ ea ad (cnv (n 0) (n 1) (n 2) p ((clF (r 0) (n 2) (n 3) (n 5) (n 6) (n 7) (n 8)).1) G S W C (n 9) (n 10) (n 11) (n 12) (n 13) (n 14) (n 15) (n 16) (n 17) (n 18) (n 19) (n 20)) (cgv (g 0) (g 1) (nI (clF (r 0) (n 2) (n 3) (n 5) (n 6) (n 7) (n 8)).2) (g 3) (g 4) (g 5) (g 6)) (cbv t (b 1) (b 2)) (crv (r 0) o lm lk (r 4) (r 5) (r 6) (r 7) (r 8) (r 9) (r 10) (r 11) (r 12) (r 13) (r 14) (r 15) (r 16) (r 17) (r 18)) V) ∨ ((clF (r 0) (n 2) (n 3) (n 5) (n 6) (n 7) (n 8)).1 = 0 ∧ ∃ p2 G2 S2 W2 C2 o2 l2 k2, p2 = clP (r 0) (n 2) (n 3) ∧ G2 = clG (r 0) (n 2) (n 3) (n 5) ∧ S2 = clC (r 0) (n 2) (n 3) 1 (n 6) ∧ W2 = clC (r 0) (n 2) (n 3) 2 (n 7) ∧ C2 = clC (r 0) (n 2) (n 3) 3 (n 8) ∧ o2 = clO (r 0) (n 2) (n 3) (n 6) (r 1) ∧ l2 = clR (r 0) (n 2) (n 3) 2 (n 7) (r 2) ∧ k2 = clR (r 0) (n 2) (n 3) 3 (n 8) (r 3) ∧ Y = CW θ ea ad (cnv (n 0) (n 1) (n 2) p2 (n 4) G2 S2 W2 C2 (n 9) (n 10) (n 11) (n 12) (n 13) (n 14) (n 15) (n 16) (n 17) (n 18) (n 19) (n 20)) g (cbv true (b 1) (b 2)) (crv (r 0) o2 l2 k2 (r 4) (r 5) (r 6) (r 7) (r 8) (r 9) (r 10) (r 11) (r 12) (r 13) (r 14) (r 15) (r 16) (r 17) (r 18)) V)) := by
  refine z_cV (by decide) rfl rfl (Nat.le_of_ble_eq_true rfl) (lv := [(0, .ref (ad 1))]) rfl (fun κ C E => ?_)
  have hinX4 : ∀ w ∈ wsX40, w ∈ wsX4_readClause := by decide +kernel
  refine z_aload_n C dX4_readClause_0 rfl (show zlk _ 0 = some (.ref (ad 1)) from rfl) ?_
  refine z_callVi C (As := []) (rest := []) (c_X4_letterHere l θ ea ad n g b r V (show n 3 < 2 ^ 30 by omega) hL) gX4_readClause_X4_letterHere rfl 0 (by decide +kernel) (by decide) (by decide) 1 rfl rfl rfl rfl rfl (Nat.le_of_ble_eq_true rfl) dX4_readClause_1 ?_
  rintro _ _ ⟨rfl, rfl⟩
  refine z_top (v' := .int (nI 115)) (by rw [hc]) ?_
  refine z_istore_n C [(1, .int (nI 115)), (0, .ref (ad 1))] dX4_readClause_4 rfl (by decide) rfl ?_
  refine z_aload_n C dX4_readClause_5 rfl (show zlk _ 0 = some (.ref (ad 1)) from rfl) ?_
  refine z_iload_n C dX4_readClause_6 rfl (show zlk _ 1 = some (.int (nI 115)) from rfl) ?_
  refine z_callVi C (As := [.int (nI 115)]) (rest := []) (c_X4_faultOfWord_s3 l θ ea ad n g b r V hb hn) gX4_readClause_X4_faultOfWord rfl 1 (by decide +kernel) (by decide) (by decide) 1 rfl rfl rfl rfl rfl (Nat.le_of_ble_eq_true rfl) dX4_readClause_7 ?_
  rintro _ _ ⟨rfl, rfl⟩
  refine z_istore_n C [(2, .int (nI 3)), (1, .int (nI 115)), (0, .ref (ad 1))] dX4_readClause_10 rfl (by decide) rfl ?_
  refine z_iload_n C dX4_readClause_11 rfl (show zlk _ 2 = some (.int (nI 3)) from rfl) ?_
  refine z_if_eqN C 25 dX4_readClause_12 (by decide) (by decide) (fun h => absurd h (by decide)) (fun _ => ?_)
  refine z_aload_n C dX4_readClause_15 rfl (show zlk _ 0 = some (.ref (ad 1)) from rfl) ?_
  refine z_iload_n C dX4_readClause_16 rfl (show zlk _ 2 = some (.int (nI 3)) from rfl) ?_
  refine z_aload_n C dX4_readClause_17 rfl (show zlk _ 0 = some (.ref (ad 1)) from rfl) ?_
  refine z_get C hinX4 1 cc_1 rfl 3 (by decide) (by decide +kernel) cg_1_3 dX4_readClause_18 ?_
  refine z_callVv C (As := [.int (nI 3), .int (nI (n 3))]) (rest := []) (c_X4_blame l θ ea ad n g b r V 3 (n 3)) gX4_readClause_X4_blame rfl 2 (by decide +kernel) (by decide) (by decide) 1 rfl rfl rfl rfl rfl (Nat.le_of_ble_eq_true rfl) dX4_readClause_21 ?_
  rintro _ rfl
  refine z_X (Y := CW θ ea ad (cnv (n 0) (n 1) (n 2) (n 3) 3 (n 5) (n 6) (n 7) (n 8) (n 9) (n 10) (n 11) (n 12) (n 13) (n 14) (n 15) (n 16) (n 17) (n 18) (n 19) (n 20)) (cgv (g 0) (g 1) (nI (n 3)) (g 3) (g 4) (g 5) (g 6)) b r V) (cw_eq rfl rfl rfl rfl rfl rfl rfl rfl rfl rfl rfl rfl rfl rfl rfl rfl rfl rfl rfl rfl rfl rfl rfl rfl rfl rfl rfl rfl rfl rfl rfl rfl rfl rfl rfl rfl rfl rfl rfl rfl rfl rfl rfl rfl rfl rfl rfl rfl rfl rfl rfl) ?_
  exact E _ _ _ (Or.inl (by rw [clF_3 (k := 1) hq.symm (by rw [hc]; decide) (by omega) (by unfold fullK; simp; omega)]; exact ⟨by simp, _, _, _, _, _, _, _, _, _, hp, (cw_eq rfl rfl rfl rfl rfl rfl rfl rfl rfl rfl rfl rfl rfl rfl rfl rfl rfl rfl rfl rfl rfl rfl rfl rfl rfl rfl rfl rfl rfl rfl rfl rfl rfl rfl rfl rfl rfl rfl rfl rfl rfl rfl rfl rfl rfl rfl rfl rfl rfl rfl rfl)⟩)) dX4_readClause_24

set_option maxHeartbeats 4000000 in
set_option maxRecDepth 100000 in
theorem c_X4_readClause_w3 (l : Launch) (θ : zH) (ea : Nat → Nat → Nat) (ad : Nat → Nat) (n : Nat → Nat) (g : Nat → Int32) (b : Nat → Bool) (r : Nat → Nat → Int32) (V : Nat → Ev)  (hf : n 4 = 0) (hp : n 3 ≤ n 2) (hL : n 2 ≤ 240) (hq : sk (r 0) (n 2) (n 3) = n 3) (hc : m_hr (r 0) (n 2) (n 3) = nI 119) (hb : b 0 = true) (hG : 0 < n 5) (hn : n 7 = 5) : cV l yX4_readClause wsX4_readClause 4 θ [.ref (ad 1)] (CW θ ea ad n g b r V) (fun Y => (¬ (clF (r 0) (n 2) (n 3) (n 5) (n 6) (n 7) (n 8)).1 = 0 ∧ ∃ (p : Nat) (t : Bool) (G S W C : Nat) (o lm lk : Nat → Int32), p ≤ n 2 ∧ Y = CW θ ea ad (cnv (n 0) (n 1) (n 2) p ((clF (r 0) (n 2) (n 3) (n 5) (n 6) (n 7) (n 8)).1) G S W C (n 9) (n 10) (n 11) (n 12) (n 13) (n 14) (n 15) (n 16) (n 17) (n 18) (n 19) (n 20)) (cgv (g 0) (g 1) (nI (clF (r 0) (n 2) (n 3) (n 5) (n 6) (n 7) (n 8)).2) (g 3) (g 4) (g 5) (g 6)) (cbv t (b 1) (b 2)) (crv (r 0) o lm lk (r 4) (r 5) (r 6) (r 7) (r 8) (r 9) (r 10) (r 11) (r 12) (r 13) (r 14) (r 15) (r 16) (r 17) (r 18)) V) ∨ ((clF (r 0) (n 2) (n 3) (n 5) (n 6) (n 7) (n 8)).1 = 0 ∧ ∃ p2 G2 S2 W2 C2 o2 l2 k2, p2 = clP (r 0) (n 2) (n 3) ∧ G2 = clG (r 0) (n 2) (n 3) (n 5) ∧ S2 = clC (r 0) (n 2) (n 3) 1 (n 6) ∧ W2 = clC (r 0) (n 2) (n 3) 2 (n 7) ∧ C2 = clC (r 0) (n 2) (n 3) 3 (n 8) ∧ o2 = clO (r 0) (n 2) (n 3) (n 6) (r 1) ∧ l2 = clR (r 0) (n 2) (n 3) 2 (n 7) (r 2) ∧ k2 = clR (r 0) (n 2) (n 3) 3 (n 8) (r 3) ∧ Y = CW θ ea ad (cnv (n 0) (n 1) (n 2) p2 (n 4) G2 S2 W2 C2 (n 9) (n 10) (n 11) (n 12) (n 13) (n 14) (n 15) (n 16) (n 17) (n 18) (n 19) (n 20)) g (cbv true (b 1) (b 2)) (crv (r 0) o2 l2 k2 (r 4) (r 5) (r 6) (r 7) (r 8) (r 9) (r 10) (r 11) (r 12) (r 13) (r 14) (r 15) (r 16) (r 17) (r 18)) V)) := by
  refine z_cV (by decide) rfl rfl (Nat.le_of_ble_eq_true rfl) (lv := [(0, .ref (ad 1))]) rfl (fun κ C E => ?_)
  have hinX4 : ∀ w ∈ wsX40, w ∈ wsX4_readClause := by decide +kernel
  refine z_aload_n C dX4_readClause_0 rfl (show zlk _ 0 = some (.ref (ad 1)) from rfl) ?_
  refine z_callVi C (As := []) (rest := []) (c_X4_letterHere l θ ea ad n g b r V (show n 3 < 2 ^ 30 by omega) hL) gX4_readClause_X4_letterHere rfl 0 (by decide +kernel) (by decide) (by decide) 1 rfl rfl rfl rfl rfl (Nat.le_of_ble_eq_true rfl) dX4_readClause_1 ?_
  rintro _ _ ⟨rfl, rfl⟩
  refine z_top (v' := .int (nI 119)) (by rw [hc]) ?_
  refine z_istore_n C [(1, .int (nI 119)), (0, .ref (ad 1))] dX4_readClause_4 rfl (by decide) rfl ?_
  refine z_aload_n C dX4_readClause_5 rfl (show zlk _ 0 = some (.ref (ad 1)) from rfl) ?_
  refine z_iload_n C dX4_readClause_6 rfl (show zlk _ 1 = some (.int (nI 119)) from rfl) ?_
  refine z_callVi C (As := [.int (nI 119)]) (rest := []) (c_X4_faultOfWord_w3 l θ ea ad n g b r V hb hn) gX4_readClause_X4_faultOfWord rfl 1 (by decide +kernel) (by decide) (by decide) 1 rfl rfl rfl rfl rfl (Nat.le_of_ble_eq_true rfl) dX4_readClause_7 ?_
  rintro _ _ ⟨rfl, rfl⟩
  refine z_istore_n C [(2, .int (nI 3)), (1, .int (nI 119)), (0, .ref (ad 1))] dX4_readClause_10 rfl (by decide) rfl ?_
  refine z_iload_n C dX4_readClause_11 rfl (show zlk _ 2 = some (.int (nI 3)) from rfl) ?_
  refine z_if_eqN C 25 dX4_readClause_12 (by decide) (by decide) (fun h => absurd h (by decide)) (fun _ => ?_)
  refine z_aload_n C dX4_readClause_15 rfl (show zlk _ 0 = some (.ref (ad 1)) from rfl) ?_
  refine z_iload_n C dX4_readClause_16 rfl (show zlk _ 2 = some (.int (nI 3)) from rfl) ?_
  refine z_aload_n C dX4_readClause_17 rfl (show zlk _ 0 = some (.ref (ad 1)) from rfl) ?_
  refine z_get C hinX4 1 cc_1 rfl 3 (by decide) (by decide +kernel) cg_1_3 dX4_readClause_18 ?_
  refine z_callVv C (As := [.int (nI 3), .int (nI (n 3))]) (rest := []) (c_X4_blame l θ ea ad n g b r V 3 (n 3)) gX4_readClause_X4_blame rfl 2 (by decide +kernel) (by decide) (by decide) 1 rfl rfl rfl rfl rfl (Nat.le_of_ble_eq_true rfl) dX4_readClause_21 ?_
  rintro _ rfl
  refine z_X (Y := CW θ ea ad (cnv (n 0) (n 1) (n 2) (n 3) 3 (n 5) (n 6) (n 7) (n 8) (n 9) (n 10) (n 11) (n 12) (n 13) (n 14) (n 15) (n 16) (n 17) (n 18) (n 19) (n 20)) (cgv (g 0) (g 1) (nI (n 3)) (g 3) (g 4) (g 5) (g 6)) b r V) (cw_eq rfl rfl rfl rfl rfl rfl rfl rfl rfl rfl rfl rfl rfl rfl rfl rfl rfl rfl rfl rfl rfl rfl rfl rfl rfl rfl rfl rfl rfl rfl rfl rfl rfl rfl rfl rfl rfl rfl rfl rfl rfl rfl rfl rfl rfl rfl rfl rfl rfl rfl rfl) ?_
  exact E _ _ _ (Or.inl (by rw [clF_3 (k := 2) hq.symm (by rw [hc]; decide) (by omega) (by unfold fullK; simp; omega)]; exact ⟨by simp, _, _, _, _, _, _, _, _, _, hp, (cw_eq rfl rfl rfl rfl rfl rfl rfl rfl rfl rfl rfl rfl rfl rfl rfl rfl rfl rfl rfl rfl rfl rfl rfl rfl rfl rfl rfl rfl rfl rfl rfl rfl rfl rfl rfl rfl rfl rfl rfl rfl rfl rfl rfl rfl rfl rfl rfl rfl rfl rfl rfl)⟩)) dX4_readClause_24

set_option maxHeartbeats 4000000 in
set_option maxRecDepth 100000 in
theorem c_X4_readClause_c3 (l : Launch) (θ : zH) (ea : Nat → Nat → Nat) (ad : Nat → Nat) (n : Nat → Nat) (g : Nat → Int32) (b : Nat → Bool) (r : Nat → Nat → Int32) (V : Nat → Ev)  (hf : n 4 = 0) (hp : n 3 ≤ n 2) (hL : n 2 ≤ 240) (hq : sk (r 0) (n 2) (n 3) = n 3) (hc : m_hr (r 0) (n 2) (n 3) = nI 99) (hb : b 0 = true) (hG : 0 < n 5) (hn : n 8 = 6) : cV l yX4_readClause wsX4_readClause 4 θ [.ref (ad 1)] (CW θ ea ad n g b r V) (fun Y => (¬ (clF (r 0) (n 2) (n 3) (n 5) (n 6) (n 7) (n 8)).1 = 0 ∧ ∃ (p : Nat) (t : Bool) (G S W C : Nat) (o lm lk : Nat → Int32), p ≤ n 2 ∧ Y = CW θ ea ad (cnv (n 0) (n 1) (n 2) p ((clF (r 0) (n 2) (n 3) (n 5) (n 6) (n 7) (n 8)).1) G S W C (n 9) (n 10) (n 11) (n 12) (n 13) (n 14) (n 15) (n 16) (n 17) (n 18) (n 19) (n 20)) (cgv (g 0) (g 1) (nI (clF (r 0) (n 2) (n 3) (n 5) (n 6) (n 7) (n 8)).2) (g 3) (g 4) (g 5) (g 6)) (cbv t (b 1) (b 2)) (crv (r 0) o lm lk (r 4) (r 5) (r 6) (r 7) (r 8) (r 9) (r 10) (r 11) (r 12) (r 13) (r 14) (r 15) (r 16) (r 17) (r 18)) V) ∨ ((clF (r 0) (n 2) (n 3) (n 5) (n 6) (n 7) (n 8)).1 = 0 ∧ ∃ p2 G2 S2 W2 C2 o2 l2 k2, p2 = clP (r 0) (n 2) (n 3) ∧ G2 = clG (r 0) (n 2) (n 3) (n 5) ∧ S2 = clC (r 0) (n 2) (n 3) 1 (n 6) ∧ W2 = clC (r 0) (n 2) (n 3) 2 (n 7) ∧ C2 = clC (r 0) (n 2) (n 3) 3 (n 8) ∧ o2 = clO (r 0) (n 2) (n 3) (n 6) (r 1) ∧ l2 = clR (r 0) (n 2) (n 3) 2 (n 7) (r 2) ∧ k2 = clR (r 0) (n 2) (n 3) 3 (n 8) (r 3) ∧ Y = CW θ ea ad (cnv (n 0) (n 1) (n 2) p2 (n 4) G2 S2 W2 C2 (n 9) (n 10) (n 11) (n 12) (n 13) (n 14) (n 15) (n 16) (n 17) (n 18) (n 19) (n 20)) g (cbv true (b 1) (b 2)) (crv (r 0) o2 l2 k2 (r 4) (r 5) (r 6) (r 7) (r 8) (r 9) (r 10) (r 11) (r 12) (r 13) (r 14) (r 15) (r 16) (r 17) (r 18)) V)) := by
  refine z_cV (by decide) rfl rfl (Nat.le_of_ble_eq_true rfl) (lv := [(0, .ref (ad 1))]) rfl (fun κ C E => ?_)
  have hinX4 : ∀ w ∈ wsX40, w ∈ wsX4_readClause := by decide +kernel
  refine z_aload_n C dX4_readClause_0 rfl (show zlk _ 0 = some (.ref (ad 1)) from rfl) ?_
  refine z_callVi C (As := []) (rest := []) (c_X4_letterHere l θ ea ad n g b r V (show n 3 < 2 ^ 30 by omega) hL) gX4_readClause_X4_letterHere rfl 0 (by decide +kernel) (by decide) (by decide) 1 rfl rfl rfl rfl rfl (Nat.le_of_ble_eq_true rfl) dX4_readClause_1 ?_
  rintro _ _ ⟨rfl, rfl⟩
  refine z_top (v' := .int (nI 99)) (by rw [hc]) ?_
  refine z_istore_n C [(1, .int (nI 99)), (0, .ref (ad 1))] dX4_readClause_4 rfl (by decide) rfl ?_
  refine z_aload_n C dX4_readClause_5 rfl (show zlk _ 0 = some (.ref (ad 1)) from rfl) ?_
  refine z_iload_n C dX4_readClause_6 rfl (show zlk _ 1 = some (.int (nI 99)) from rfl) ?_
  refine z_callVi C (As := [.int (nI 99)]) (rest := []) (c_X4_faultOfWord_c3 l θ ea ad n g b r V hb hn) gX4_readClause_X4_faultOfWord rfl 1 (by decide +kernel) (by decide) (by decide) 1 rfl rfl rfl rfl rfl (Nat.le_of_ble_eq_true rfl) dX4_readClause_7 ?_
  rintro _ _ ⟨rfl, rfl⟩
  refine z_istore_n C [(2, .int (nI 3)), (1, .int (nI 99)), (0, .ref (ad 1))] dX4_readClause_10 rfl (by decide) rfl ?_
  refine z_iload_n C dX4_readClause_11 rfl (show zlk _ 2 = some (.int (nI 3)) from rfl) ?_
  refine z_if_eqN C 25 dX4_readClause_12 (by decide) (by decide) (fun h => absurd h (by decide)) (fun _ => ?_)
  refine z_aload_n C dX4_readClause_15 rfl (show zlk _ 0 = some (.ref (ad 1)) from rfl) ?_
  refine z_iload_n C dX4_readClause_16 rfl (show zlk _ 2 = some (.int (nI 3)) from rfl) ?_
  refine z_aload_n C dX4_readClause_17 rfl (show zlk _ 0 = some (.ref (ad 1)) from rfl) ?_
  refine z_get C hinX4 1 cc_1 rfl 3 (by decide) (by decide +kernel) cg_1_3 dX4_readClause_18 ?_
  refine z_callVv C (As := [.int (nI 3), .int (nI (n 3))]) (rest := []) (c_X4_blame l θ ea ad n g b r V 3 (n 3)) gX4_readClause_X4_blame rfl 2 (by decide +kernel) (by decide) (by decide) 1 rfl rfl rfl rfl rfl (Nat.le_of_ble_eq_true rfl) dX4_readClause_21 ?_
  rintro _ rfl
  refine z_X (Y := CW θ ea ad (cnv (n 0) (n 1) (n 2) (n 3) 3 (n 5) (n 6) (n 7) (n 8) (n 9) (n 10) (n 11) (n 12) (n 13) (n 14) (n 15) (n 16) (n 17) (n 18) (n 19) (n 20)) (cgv (g 0) (g 1) (nI (n 3)) (g 3) (g 4) (g 5) (g 6)) b r V) (cw_eq rfl rfl rfl rfl rfl rfl rfl rfl rfl rfl rfl rfl rfl rfl rfl rfl rfl rfl rfl rfl rfl rfl rfl rfl rfl rfl rfl rfl rfl rfl rfl rfl rfl rfl rfl rfl rfl rfl rfl rfl rfl rfl rfl rfl rfl rfl rfl rfl rfl rfl rfl) ?_
  exact E _ _ _ (Or.inl (by rw [clF_3 (k := 3) hq.symm (by rw [hc]; decide) (by omega) (by unfold fullK; simp; omega)]; exact ⟨by simp, _, _, _, _, _, _, _, _, _, hp, (cw_eq rfl rfl rfl rfl rfl rfl rfl rfl rfl rfl rfl rfl rfl rfl rfl rfl rfl rfl rfl rfl rfl rfl rfl rfl rfl rfl rfl rfl rfl rfl rfl rfl rfl rfl rfl rfl rfl rfl rfl rfl rfl rfl rfl rfl rfl rfl rfl rfl rfl rfl rfl)⟩)) dX4_readClause_24

theorem cK_n0 {c : Int32} (h : ¬ c = nI 103) : ¬ cK c = 0 := by
  unfold cK
  rw [if_neg h]
  repeat' split
  all_goals decide
theorem cK_4 {c : Int32} (h : ¬ c = nI 103 ∧ ¬ c = nI 115 ∧ ¬ c = nI 119 ∧ ¬ c = nI 99) : cK c = 4 := by
  unfold cK
  rw [if_neg h.1, if_neg h.2.1, if_neg h.2.2.1, if_neg h.2.2.2]
set_option maxHeartbeats 4000000 in
set_option maxRecDepth 100000 in
theorem c_X4_readClause_x0 (l : Launch) (θ : zH) (ea : Nat → Nat → Nat) (ad : Nat → Nat) (n : Nat → Nat) (g : Nat → Int32) (b : Nat → Bool) (r : Nat → Nat → Int32) (V : Nat → Ev)  (hf : n 4 = 0) (hp : n 3 ≤ n 2) (hL : n 2 ≤ 240) (hq : sk (r 0) (n 2) (n 3) = n 3) (hb : b 0 = false) (hG : n 5 = 0) (hc : ¬ m_hr (r 0) (n 2) (n 3) = nI 103) : cV l yX4_readClause wsX4_readClause 4 θ [.ref (ad 1)] (CW θ ea ad n g b r V) (fun Y => (¬ (clF (r 0) (n 2) (n 3) (n 5) (n 6) (n 7) (n 8)).1 = 0 ∧ ∃ (p : Nat) (t : Bool) (G S W C : Nat) (o lm lk : Nat → Int32), p ≤ n 2 ∧ Y = CW θ ea ad (cnv (n 0) (n 1) (n 2) p ((clF (r 0) (n 2) (n 3) (n 5) (n 6) (n 7) (n 8)).1) G S W C (n 9) (n 10) (n 11) (n 12) (n 13) (n 14) (n 15) (n 16) (n 17) (n 18) (n 19) (n 20)) (cgv (g 0) (g 1) (nI (clF (r 0) (n 2) (n 3) (n 5) (n 6) (n 7) (n 8)).2) (g 3) (g 4) (g 5) (g 6)) (cbv t (b 1) (b 2)) (crv (r 0) o lm lk (r 4) (r 5) (r 6) (r 7) (r 8) (r 9) (r 10) (r 11) (r 12) (r 13) (r 14) (r 15) (r 16) (r 17) (r 18)) V) ∨ ((clF (r 0) (n 2) (n 3) (n 5) (n 6) (n 7) (n 8)).1 = 0 ∧ ∃ p2 G2 S2 W2 C2 o2 l2 k2, p2 = clP (r 0) (n 2) (n 3) ∧ G2 = clG (r 0) (n 2) (n 3) (n 5) ∧ S2 = clC (r 0) (n 2) (n 3) 1 (n 6) ∧ W2 = clC (r 0) (n 2) (n 3) 2 (n 7) ∧ C2 = clC (r 0) (n 2) (n 3) 3 (n 8) ∧ o2 = clO (r 0) (n 2) (n 3) (n 6) (r 1) ∧ l2 = clR (r 0) (n 2) (n 3) 2 (n 7) (r 2) ∧ k2 = clR (r 0) (n 2) (n 3) 3 (n 8) (r 3) ∧ Y = CW θ ea ad (cnv (n 0) (n 1) (n 2) p2 (n 4) G2 S2 W2 C2 (n 9) (n 10) (n 11) (n 12) (n 13) (n 14) (n 15) (n 16) (n 17) (n 18) (n 19) (n 20)) g (cbv true (b 1) (b 2)) (crv (r 0) o2 l2 k2 (r 4) (r 5) (r 6) (r 7) (r 8) (r 9) (r 10) (r 11) (r 12) (r 13) (r 14) (r 15) (r 16) (r 17) (r 18)) V)) := by
  refine z_cV (by decide) rfl rfl (Nat.le_of_ble_eq_true rfl) (lv := [(0, .ref (ad 1))]) rfl (fun κ C E => ?_)
  have hinX4 : ∀ w ∈ wsX40, w ∈ wsX4_readClause := by decide +kernel
  refine z_aload_n C dX4_readClause_0 rfl (show zlk _ 0 = some (.ref (ad 1)) from rfl) ?_
  refine z_callVi C (As := []) (rest := []) (c_X4_letterHere l θ ea ad n g b r V (show n 3 < 2 ^ 30 by omega) hL) gX4_readClause_X4_letterHere rfl 0 (by decide +kernel) (by decide) (by decide) 1 rfl rfl rfl rfl rfl (Nat.le_of_ble_eq_true rfl) dX4_readClause_1 ?_
  rintro _ _ ⟨rfl, rfl⟩
  refine z_istore_n C [(1, .int (m_hr (r 0) (n 2) (n 3))), (0, .ref (ad 1))] dX4_readClause_4 rfl (by decide) rfl ?_
  refine z_aload_n C dX4_readClause_5 rfl (show zlk _ 0 = some (.ref (ad 1)) from rfl) ?_
  refine z_iload_n C dX4_readClause_6 rfl (show zlk _ 1 = some (.int (m_hr (r 0) (n 2) (n 3))) from rfl) ?_
  refine z_callVi C (As := [.int (m_hr (r 0) (n 2) (n 3))]) (rest := []) (c_X4_faultOfWord_x0 l θ ea ad n g b r V (m_hr (r 0) (n 2) (n 3)) hb hc) gX4_readClause_X4_faultOfWord rfl 1 (by decide +kernel) (by decide) (by decide) 1 rfl rfl rfl rfl rfl (Nat.le_of_ble_eq_true rfl) dX4_readClause_7 ?_
  rintro _ _ ⟨rfl, rfl⟩
  refine z_istore_n C [(2, .int (nI 1)), (1, .int (m_hr (r 0) (n 2) (n 3))), (0, .ref (ad 1))] dX4_readClause_10 rfl (by decide) rfl ?_
  refine z_iload_n C dX4_readClause_11 rfl (show zlk _ 2 = some (.int (nI 1)) from rfl) ?_
  refine z_if_eqN C 25 dX4_readClause_12 (by decide) (by decide) (fun h => absurd h (by decide)) (fun _ => ?_)
  refine z_aload_n C dX4_readClause_15 rfl (show zlk _ 0 = some (.ref (ad 1)) from rfl) ?_
  refine z_iload_n C dX4_readClause_16 rfl (show zlk _ 2 = some (.int (nI 1)) from rfl) ?_
  refine z_aload_n C dX4_readClause_17 rfl (show zlk _ 0 = some (.ref (ad 1)) from rfl) ?_
  refine z_get C hinX4 1 cc_1 rfl 3 (by decide) (by decide +kernel) cg_1_3 dX4_readClause_18 ?_
  refine z_callVv C (As := [.int (nI 1), .int (nI (n 3))]) (rest := []) (c_X4_blame l θ ea ad n g b r V 1 (n 3)) gX4_readClause_X4_blame rfl 2 (by decide +kernel) (by decide) (by decide) 1 rfl rfl rfl rfl rfl (Nat.le_of_ble_eq_true rfl) dX4_readClause_21 ?_
  rintro _ rfl
  refine z_X (Y := CW θ ea ad (cnv (n 0) (n 1) (n 2) (n 3) 1 (n 5) (n 6) (n 7) (n 8) (n 9) (n 10) (n 11) (n 12) (n 13) (n 14) (n 15) (n 16) (n 17) (n 18) (n 19) (n 20)) (cgv (g 0) (g 1) (nI (n 3)) (g 3) (g 4) (g 5) (g 6)) b r V) (cw_eq rfl rfl rfl rfl rfl rfl rfl rfl rfl rfl rfl rfl rfl rfl rfl rfl rfl rfl rfl rfl rfl rfl rfl rfl rfl rfl rfl rfl rfl rfl rfl rfl rfl rfl rfl rfl rfl rfl rfl rfl rfl rfl rfl rfl rfl rfl rfl rfl rfl rfl rfl) ?_
  exact E _ _ _ (Or.inl (by rw [clF_1 hq.symm rfl (Or.inr ⟨cK_n0 hc, hG⟩)]; exact ⟨by simp, _, _, _, _, _, _, _, _, _, hp, (cw_eq rfl rfl rfl rfl rfl rfl rfl rfl rfl rfl rfl rfl rfl rfl rfl rfl rfl rfl rfl rfl rfl rfl rfl rfl rfl rfl rfl rfl rfl rfl rfl rfl rfl rfl rfl rfl rfl rfl rfl rfl rfl rfl rfl rfl rfl rfl rfl rfl rfl rfl rfl)⟩)) dX4_readClause_24

set_option maxHeartbeats 4000000 in
set_option maxRecDepth 100000 in
theorem c_X4_readClause_x1 (l : Launch) (θ : zH) (ea : Nat → Nat → Nat) (ad : Nat → Nat) (n : Nat → Nat) (g : Nat → Int32) (b : Nat → Bool) (r : Nat → Nat → Int32) (V : Nat → Ev)  (hf : n 4 = 0) (hp : n 3 ≤ n 2) (hL : n 2 ≤ 240) (hq : sk (r 0) (n 2) (n 3) = n 3) (hb : b 0 = true) (hc : ¬ m_hr (r 0) (n 2) (n 3) = nI 103 ∧ ¬ m_hr (r 0) (n 2) (n 3) = nI 115 ∧ ¬ m_hr (r 0) (n 2) (n 3) = nI 119 ∧ ¬ m_hr (r 0) (n 2) (n 3) = nI 99) : cV l yX4_readClause wsX4_readClause 4 θ [.ref (ad 1)] (CW θ ea ad n g b r V) (fun Y => (¬ (clF (r 0) (n 2) (n 3) (n 5) (n 6) (n 7) (n 8)).1 = 0 ∧ ∃ (p : Nat) (t : Bool) (G S W C : Nat) (o lm lk : Nat → Int32), p ≤ n 2 ∧ Y = CW θ ea ad (cnv (n 0) (n 1) (n 2) p ((clF (r 0) (n 2) (n 3) (n 5) (n 6) (n 7) (n 8)).1) G S W C (n 9) (n 10) (n 11) (n 12) (n 13) (n 14) (n 15) (n 16) (n 17) (n 18) (n 19) (n 20)) (cgv (g 0) (g 1) (nI (clF (r 0) (n 2) (n 3) (n 5) (n 6) (n 7) (n 8)).2) (g 3) (g 4) (g 5) (g 6)) (cbv t (b 1) (b 2)) (crv (r 0) o lm lk (r 4) (r 5) (r 6) (r 7) (r 8) (r 9) (r 10) (r 11) (r 12) (r 13) (r 14) (r 15) (r 16) (r 17) (r 18)) V) ∨ ((clF (r 0) (n 2) (n 3) (n 5) (n 6) (n 7) (n 8)).1 = 0 ∧ ∃ p2 G2 S2 W2 C2 o2 l2 k2, p2 = clP (r 0) (n 2) (n 3) ∧ G2 = clG (r 0) (n 2) (n 3) (n 5) ∧ S2 = clC (r 0) (n 2) (n 3) 1 (n 6) ∧ W2 = clC (r 0) (n 2) (n 3) 2 (n 7) ∧ C2 = clC (r 0) (n 2) (n 3) 3 (n 8) ∧ o2 = clO (r 0) (n 2) (n 3) (n 6) (r 1) ∧ l2 = clR (r 0) (n 2) (n 3) 2 (n 7) (r 2) ∧ k2 = clR (r 0) (n 2) (n 3) 3 (n 8) (r 3) ∧ Y = CW θ ea ad (cnv (n 0) (n 1) (n 2) p2 (n 4) G2 S2 W2 C2 (n 9) (n 10) (n 11) (n 12) (n 13) (n 14) (n 15) (n 16) (n 17) (n 18) (n 19) (n 20)) g (cbv true (b 1) (b 2)) (crv (r 0) o2 l2 k2 (r 4) (r 5) (r 6) (r 7) (r 8) (r 9) (r 10) (r 11) (r 12) (r 13) (r 14) (r 15) (r 16) (r 17) (r 18)) V)) := by
  refine z_cV (by decide) rfl rfl (Nat.le_of_ble_eq_true rfl) (lv := [(0, .ref (ad 1))]) rfl (fun κ C E => ?_)
  have hinX4 : ∀ w ∈ wsX40, w ∈ wsX4_readClause := by decide +kernel
  refine z_aload_n C dX4_readClause_0 rfl (show zlk _ 0 = some (.ref (ad 1)) from rfl) ?_
  refine z_callVi C (As := []) (rest := []) (c_X4_letterHere l θ ea ad n g b r V (show n 3 < 2 ^ 30 by omega) hL) gX4_readClause_X4_letterHere rfl 0 (by decide +kernel) (by decide) (by decide) 1 rfl rfl rfl rfl rfl (Nat.le_of_ble_eq_true rfl) dX4_readClause_1 ?_
  rintro _ _ ⟨rfl, rfl⟩
  refine z_istore_n C [(1, .int (m_hr (r 0) (n 2) (n 3))), (0, .ref (ad 1))] dX4_readClause_4 rfl (by decide) rfl ?_
  refine z_aload_n C dX4_readClause_5 rfl (show zlk _ 0 = some (.ref (ad 1)) from rfl) ?_
  refine z_iload_n C dX4_readClause_6 rfl (show zlk _ 1 = some (.int (m_hr (r 0) (n 2) (n 3))) from rfl) ?_
  refine z_callVi C (As := [.int (m_hr (r 0) (n 2) (n 3))]) (rest := []) (c_X4_faultOfWord_x1 l θ ea ad n g b r V (m_hr (r 0) (n 2) (n 3)) hb hc) gX4_readClause_X4_faultOfWord rfl 1 (by decide +kernel) (by decide) (by decide) 1 rfl rfl rfl rfl rfl (Nat.le_of_ble_eq_true rfl) dX4_readClause_7 ?_
  rintro _ _ ⟨rfl, rfl⟩
  refine z_istore_n C [(2, .int (nI 1)), (1, .int (m_hr (r 0) (n 2) (n 3))), (0, .ref (ad 1))] dX4_readClause_10 rfl (by decide) rfl ?_
  refine z_iload_n C dX4_readClause_11 rfl (show zlk _ 2 = some (.int (nI 1)) from rfl) ?_
  refine z_if_eqN C 25 dX4_readClause_12 (by decide) (by decide) (fun h => absurd h (by decide)) (fun _ => ?_)
  refine z_aload_n C dX4_readClause_15 rfl (show zlk _ 0 = some (.ref (ad 1)) from rfl) ?_
  refine z_iload_n C dX4_readClause_16 rfl (show zlk _ 2 = some (.int (nI 1)) from rfl) ?_
  refine z_aload_n C dX4_readClause_17 rfl (show zlk _ 0 = some (.ref (ad 1)) from rfl) ?_
  refine z_get C hinX4 1 cc_1 rfl 3 (by decide) (by decide +kernel) cg_1_3 dX4_readClause_18 ?_
  refine z_callVv C (As := [.int (nI 1), .int (nI (n 3))]) (rest := []) (c_X4_blame l θ ea ad n g b r V 1 (n 3)) gX4_readClause_X4_blame rfl 2 (by decide +kernel) (by decide) (by decide) 1 rfl rfl rfl rfl rfl (Nat.le_of_ble_eq_true rfl) dX4_readClause_21 ?_
  rintro _ rfl
  refine z_X (Y := CW θ ea ad (cnv (n 0) (n 1) (n 2) (n 3) 1 (n 5) (n 6) (n 7) (n 8) (n 9) (n 10) (n 11) (n 12) (n 13) (n 14) (n 15) (n 16) (n 17) (n 18) (n 19) (n 20)) (cgv (g 0) (g 1) (nI (n 3)) (g 3) (g 4) (g 5) (g 6)) b r V) (cw_eq rfl rfl rfl rfl rfl rfl rfl rfl rfl rfl rfl rfl rfl rfl rfl rfl rfl rfl rfl rfl rfl rfl rfl rfl rfl rfl rfl rfl rfl rfl rfl rfl rfl rfl rfl rfl rfl rfl rfl rfl rfl rfl rfl rfl rfl rfl rfl rfl rfl rfl rfl) ?_
  exact E _ _ _ (Or.inl (by rw [clF_1 hq.symm rfl (Or.inl (cK_4 hc))]; exact ⟨by simp, _, _, _, _, _, _, _, _, _, hp, (cw_eq rfl rfl rfl rfl rfl rfl rfl rfl rfl rfl rfl rfl rfl rfl rfl rfl rfl rfl rfl rfl rfl rfl rfl rfl rfl rfl rfl rfl rfl rfl rfl rfl rfl rfl rfl rfl rfl rfl rfl rfl rfl rfl rfl rfl rfl rfl rfl rfl rfl rfl rfl)⟩)) dX4_readClause_24

theorem c_X4_readClause (l : Launch) (θ : zH) (ea : Nat → Nat → Nat) (ad : Nat → Nat) (n : Nat → Nat) (g : Nat → Int32) (b : Nat → Bool) (r : Nat → Nat → Int32) (V : Nat → Ev) (hf : n 4 = 0) (hp : n 3 ≤ n 2) (hL : n 2 ≤ 240) (hq : sk (r 0) (n 2) (n 3) = n 3) (hb : b 0 = decide (0 < n 5)) (hbb : n 5 ≤ 30 ∧ n 6 ≤ 6 ∧ n 7 ≤ 5 ∧ n 8 ≤ 6) : cV l yX4_readClause wsX4_readClause 4 θ [.ref (ad 1)] (CW θ ea ad n g b r V) (fun Y => (¬ (clF (r 0) (n 2) (n 3) (n 5) (n 6) (n 7) (n 8)).1 = 0 ∧ ∃ (p : Nat) (t : Bool) (G S W C : Nat) (o lm lk : Nat → Int32), p ≤ n 2 ∧ Y = CW θ ea ad (cnv (n 0) (n 1) (n 2) p ((clF (r 0) (n 2) (n 3) (n 5) (n 6) (n 7) (n 8)).1) G S W C (n 9) (n 10) (n 11) (n 12) (n 13) (n 14) (n 15) (n 16) (n 17) (n 18) (n 19) (n 20)) (cgv (g 0) (g 1) (nI (clF (r 0) (n 2) (n 3) (n 5) (n 6) (n 7) (n 8)).2) (g 3) (g 4) (g 5) (g 6)) (cbv t (b 1) (b 2)) (crv (r 0) o lm lk (r 4) (r 5) (r 6) (r 7) (r 8) (r 9) (r 10) (r 11) (r 12) (r 13) (r 14) (r 15) (r 16) (r 17) (r 18)) V) ∨ ((clF (r 0) (n 2) (n 3) (n 5) (n 6) (n 7) (n 8)).1 = 0 ∧ ∃ p2 G2 S2 W2 C2 o2 l2 k2, p2 = clP (r 0) (n 2) (n 3) ∧ G2 = clG (r 0) (n 2) (n 3) (n 5) ∧ S2 = clC (r 0) (n 2) (n 3) 1 (n 6) ∧ W2 = clC (r 0) (n 2) (n 3) 2 (n 7) ∧ C2 = clC (r 0) (n 2) (n 3) 3 (n 8) ∧ o2 = clO (r 0) (n 2) (n 3) (n 6) (r 1) ∧ l2 = clR (r 0) (n 2) (n 3) 2 (n 7) (r 2) ∧ k2 = clR (r 0) (n 2) (n 3) 3 (n 8) (r 3) ∧ Y = CW θ ea ad (cnv (n 0) (n 1) (n 2) p2 (n 4) G2 S2 W2 C2 (n 9) (n 10) (n 11) (n 12) (n 13) (n 14) (n 15) (n 16) (n 17) (n 18) (n 19) (n 20)) g (cbv true (b 1) (b 2)) (crv (r 0) o2 l2 k2 (r 4) (r 5) (r 6) (r 7) (r 8) (r 9) (r 10) (r 11) (r 12) (r 13) (r 14) (r 15) (r 16) (r 17) (r 18)) V)) := by
  by_cases hG : 0 < n 5
  · rw [decide_eq_true hG] at hb
    by_cases e1 : m_hr (r 0) (n 2) (n 3) = nI 103
    · exact c_X4_readClause_g3 l θ ea ad n g b r V hf hp hL hq e1 hb hG
    by_cases e2 : m_hr (r 0) (n 2) (n 3) = nI 115
    · by_cases e : n 6 = 6
      · exact c_X4_readClause_s3 l θ ea ad n g b r V hf hp hL hq e2 hb hG e
      · exact c_X4_readClause_s l θ ea ad n g b r V hf hp hL hq e2 hb hG (by omega)
    by_cases e3 : m_hr (r 0) (n 2) (n 3) = nI 119
    · by_cases e : n 7 = 5
      · exact c_X4_readClause_w3 l θ ea ad n g b r V hf hp hL hq e3 hb hG e
      · exact c_X4_readClause_w l θ ea ad n g b r V hf hp hL hq e3 hb hG (by omega)
    by_cases e4 : m_hr (r 0) (n 2) (n 3) = nI 99
    · by_cases e : n 8 = 6
      · exact c_X4_readClause_c3 l θ ea ad n g b r V hf hp hL hq e4 hb hG e
      · exact c_X4_readClause_c l θ ea ad n g b r V hf hp hL hq e4 hb hG (by omega)
    exact c_X4_readClause_x1 l θ ea ad n g b r V hf hp hL hq hb ⟨e1, e2, e3, e4⟩
  · rw [decide_eq_false hG] at hb
    by_cases e1 : m_hr (r 0) (n 2) (n 3) = nI 103
    · exact c_X4_readClause_g l θ ea ad n g b r V hf hp hL hq e1 hb (by omega)
    · exact c_X4_readClause_x0 l θ ea ad n g b r V hf hp hL hq hb (by omega) e1
