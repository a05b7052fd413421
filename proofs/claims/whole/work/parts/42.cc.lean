def k_nv (f : Nat → Int32) (p : Nat) : Nat → Nat
  | 0 => 0
  | i + 1 => if i < 3 then 10 * k_nv f p i + dig (f (p + i)) else k_nv f p i
theorem k_nv_b {f : Nat → Int32} {p : Nat} : ∀ i, (∀ q, q < i → dgt (f (p + q)) = true) → k_nv f p i ≤ 999 ∧ (i = 0 → k_nv f p i ≤ 0) ∧ (i = 1 → k_nv f p i ≤ 9) ∧ (i = 2 → k_nv f p i ≤ 99)
  | 0, _ => by simp [k_nv]
  | i + 1, h => by
    have h1 := k_nv_b i (fun q hq => h q (by omega))
    have h2 := (dig_nI (h i (by omega))).2
    unfold k_nv
    by_cases e : i < 3
    · rw [if_pos e]; omega
    · rw [if_neg e]; omega
theorem k_nv_eq {f : Nat → Int32} {p : Nat} : ∀ i, i ≤ 3 → (∀ q, q < i → dgt (f (p + q)) = true) → m_num f p i = k_nv f p i
  | 0, _, _ => rfl
  | i + 1, hi, h => by
    have h1 := k_nv_eq i (by omega) (fun q hq => h q (by omega))
    have h2 := (k_nv_b (f := f) (p := p) i (fun q hq => h q (by omega))).1
    unfold m_num k_nv
    rw [h1, if_pos (by omega), if_pos (by omega)]
theorem hr_dgt {f : Nat → Int32} {L p : Nat} (h : dgt (m_hr f L p) = true) : p < L ∧ m_hr f L p = f p := by
  unfold m_hr at h ⊢
  by_cases e : p < L
  · rw [if_pos e]; exact ⟨e, rfl⟩
  · rw [if_neg e] at h; exact absurd h (by decide)
set_option maxHeartbeats 4000000 in
set_option maxRecDepth 100000 in
theorem c_X4_readNumber_1 (l : Launch) (θ : zH) (ea : Nat → Nat → Nat) (ad : Nat → Nat) (n : Nat → Nat) (g : Nat → Int32) (b : Nat → Bool) (r : Nat → Nat → Int32) (V : Nat → Ev) (lo hi : Nat) (hf : ¬ n 4 = 0) (h4 : n 4 < 2 ^ 31) : cI l yX4_readNumber wsX4_readNumber 2 θ [.ref (ad 1), .int (nI lo), .int (nI hi)] (CW θ ea ad n g b r V) (fun r0 Y => r0 = nI 0 ∧ Y = CW θ ea ad n g b r V) := by
  refine z_cI (by decide) rfl rfl (Nat.le_of_ble_eq_true rfl) (lv := [(0, .ref (ad 1)), (1, .int (nI lo)), (2, .int (nI hi))]) rfl (fun κ C E => ?_)
  have hinX4 : ∀ w ∈ wsX40, w ∈ wsX4_readNumber := by decide +kernel
  refine z_aload_n C dX4_readNumber_0 rfl (show zlk _ 0 = some (.ref (ad 1)) from rfl) ?_
  refine z_get C hinX4 1 cc_1 rfl 4 (by decide) (by decide +kernel) cg_1_4 dX4_readNumber_1 ?_
  refine z_if_eqN C 9 dX4_readNumber_4 (by decide) (by omega) (fun h4n_1 => absurd h4n_1 (hf)) (fun h4n_1 => ?_)
  refine z_iconst C (v := nI 0) dX4_readNumber_7 (by decide) ?_
  exact E _ _ _ _ (⟨rfl, rfl⟩) (rfl) dX4_readNumber_8

set_option maxHeartbeats 4000000 in
set_option maxRecDepth 100000 in
theorem c_X4_readNumber_2 (l : Launch) (θ : zH) (ea : Nat → Nat → Nat) (ad : Nat → Nat) (n : Nat → Nat) (g : Nat → Int32) (b : Nat → Bool) (r : Nat → Nat → Int32) (V : Nat → Ev) (lo hi : Nat) (hf : n 4 = 0) (hp : n 3 ≤ n 2) (hL : n 2 ≤ 240) (hlo : lo < 2 ^ 31) (hhi : hi < 2 ^ 31) : cI l yX4_readNumber wsX4_readNumber 2 θ [.ref (ad 1), .int (nI lo), .int (nI hi)] (CW θ ea ad n g b r V) (fun r0 Y => ∃ p1 p2, sk (r 0) (n 2) (n 3) = p1 ∧ nE (r 0) (n 2) (n 3) = p2 ∧ ((nOk (r 0) (n 2) (n 3) = false ∧ r0 = nI 0 ∧ Y = CW θ ea ad (cnv (n 0) (n 1) (n 2) p1 1 (n 5) (n 6) (n 7) (n 8) (n 9) (n 10) (n 11) (n 12) (n 13) (n 14) (n 15) (n 16) (n 17) (n 18) (n 19) (n 20)) (cgv (g 0) (g 1) (nI p1) (g 3) (g 4) (g 5) (g 6)) b r V) ∨ (nOk (r 0) (n 2) (n 3) = true ∧ nBad (r 0) (n 2) (n 3) lo hi ∧ r0 = nI 0 ∧ Y = CW θ ea ad (cnv (n 0) (n 1) (n 2) p2 2 (n 5) (n 6) (n 7) (n 8) (n 9) (n 10) (n 11) (n 12) (n 13) (n 14) (n 15) (n 16) (n 17) (n 18) (n 19) (n 20)) (cgv (g 0) (g 1) (nI p1) (g 3) (g 4) (g 5) (g 6)) b r V) ∨ (nOk (r 0) (n 2) (n 3) = true ∧ ¬ nBad (r 0) (n 2) (n 3) lo hi ∧ r0 = nI (nV (r 0) (n 2) (n 3)) ∧ Y = CW θ ea ad (cnv (n 0) (n 1) (n 2) p2 (n 4) (n 5) (n 6) (n 7) (n 8) (n 9) (n 10) (n 11) (n 12) (n 13) (n 14) (n 15) (n 16) (n 17) (n 18) (n 19) (n 20)) g b r V))) := by
  refine z_cI (by decide) rfl rfl (Nat.le_of_ble_eq_true rfl) (lv := [(0, .ref (ad 1)), (1, .int (nI lo)), (2, .int (nI hi))]) rfl (fun κ C E => ?_)
  have hinX4 : ∀ w ∈ wsX40, w ∈ wsX4_readNumber := by decide +kernel
  refine z_aload_n C dX4_readNumber_0 rfl (show zlk _ 0 = some (.ref (ad 1)) from rfl) ?_
  refine z_get C hinX4 1 cc_1 rfl 4 (by decide) (by decide +kernel) cg_1_4 dX4_readNumber_1 ?_
  refine z_if_eqN C 9 dX4_readNumber_4 (by decide) (by omega) (fun h4t_1 => ?_) (fun h4t_1 => absurd h4t_1 (fun z => z hf))
  refine z_aload_n C dX4_readNumber_9 rfl (show zlk _ 0 = some (.ref (ad 1)) from rfl) ?_
  refine z_callVv C (As := []) (rest := []) (c_X4_skipBlanks l θ ea ad n g b r V (show n 3 ≤ 240 by omega) hL) gX4_readNumber_X4_skipBlanks rfl 0 (by decide +kernel) (by decide) (by decide) 1 rfl rfl rfl rfl rfl (Nat.le_of_ble_eq_true rfl) dX4_readNumber_10 ?_
  rintro _ ⟨pk2, ek2, rfl⟩
  replace ek2 : sk (r 0) (n 2) (n 3) = pk2 := ek2
  have lk2 : pk2 ≤ 240 := by rw [← ek2]; exact sk_240 (by omega) (by omega)
  refine z_X (Y := CW θ ea ad (cnv (n 0) (n 1) (n 2) pk2 (n 4) (n 5) (n 6) (n 7) (n 8) (n 9) (n 10) (n 11) (n 12) (n 13) (n 14) (n 15) (n 16) (n 17) (n 18) (n 19) (n 20)) g b r V) (cw_eq rfl rfl rfl rfl rfl rfl rfl rfl rfl rfl rfl rfl rfl rfl rfl rfl rfl rfl rfl rfl rfl rfl rfl rfl rfl rfl rfl rfl rfl rfl rfl rfl rfl rfl rfl rfl rfl rfl rfl rfl rfl rfl rfl rfl rfl rfl rfl rfl rfl rfl rfl) ?_
  refine z_aload_n C dX4_readNumber_13 rfl (show zlk _ 0 = some (.ref (ad 1)) from rfl) ?_
  refine z_get C hinX4 1 cc_1 rfl 3 (by decide) (by decide +kernel) ch_1_3 dX4_readNumber_14 ?_
  refine z_istore_n C [(3, .int (nI pk2)), (0, .ref (ad 1)), (1, .int (nI lo)), (2, .int (nI hi))] dX4_readNumber_17 rfl (by decide) rfl ?_
  refine z_iconst C (v := nI 0) dX4_readNumber_18 (by decide) ?_
  refine z_istore C [(4, .int (nI 0)), (3, .int (nI pk2)), (0, .ref (ad 1)), (1, .int (nI lo)), (2, .int (nI hi))] dX4_readNumber_19 (by decide) rfl ?_
  refine z_iconst C (v := nI 0) dX4_readNumber_21 (by decide) ?_
  refine z_istore C [(5, .int (nI 0)), (4, .int (nI 0)), (3, .int (nI pk2)), (0, .ref (ad 1)), (1, .int (nI lo)), (2, .int (nI hi))] dX4_readNumber_22 (by decide) rfl ?_
  refine z_lv (lv' := [(0, .ref (ad 1)), (1, .int (nI lo)), (2, .int (nI hi)), (3, .int (nI pk2)), (4, .int (nI (k_nv (r 0) pk2 0))), (5, .int (nI 0))]) rfl ?_
  refine z_X (Y := CW θ ea ad (cnv (n 0) (n 1) (n 2) (pk2 + 0) (n 4) (n 5) (n 6) (n 7) (n 8) (n 9) (n 10) (n 11) (n 12) (n 13) (n 14) (n 15) (n 16) (n 17) (n 18) (n 19) (n 20)) g b r V) (cw_eq rfl rfl rfl rfl rfl rfl rfl rfl rfl rfl rfl rfl rfl rfl rfl rfl rfl rfl rfl rfl rfl rfl rfl rfl rfl rfl rfl rfl rfl rfl rfl rfl rfl rfl rfl rfl rfl rfl rfl rfl rfl rfl rfl rfl rfl rfl rfl rfl rfl rfl rfl) ?_
  refine z_up (fun i => dE (r 0) (n 2) (pk2 + i) = dE (r 0) (n 2) pk2 ∧ (∀ q, q < i → dgt (r 0 (pk2 + q)) = true) ∧ (0 < i → dgt (m_hr (r 0) (n 2) pk2) = true) → Z κ (CW θ ea ad (cnv (n 0) (n 1) (n 2) (pk2 + i) (n 4) (n 5) (n 6) (n 7) (n 8) (n 9) (n 10) (n 11) (n 12) (n 13) (n 14) (n 15) (n 16) (n 17) (n 18) (n 19) (n 20)) g b r V) 24 [(0, .ref (ad 1)), (1, .int (nI lo)), (2, .int (nI hi)), (3, .int (nI pk2)), (4, .int (nI (k_nv (r 0) pk2 i))), (5, .int (nI i))] []) (240) ?_ ?_ 0 (by omega) (⟨rfl, fun q hq => by omega, fun h => by omega⟩)
  · intro hinv24
    refine z_iload C dX4_readNumber_24 (show zlk _ 5 = some (.int (nI 240)) from rfl) ?_
    refine z_sipush C (v := nI 240) dX4_readNumber_26 (by decide) ?_
    refine z_icmp_geT C 79 dX4_readNumber_29 (by decide) (by omega) (by omega) (by omega) ?_
    have hq : nE (r 0) (n 2) (n 3) = pk2 + 240 := by unfold nE; rw [ek2]; exact hinv24.1.symm.trans (scan_stop (c := fun q => dgt (r 0 q)) (L := n 2) (p := pk2 + 240) (by omega))
    have hkb := (k_nv_b (f := r 0) (p := pk2) 240 hinv24.2.1).1
    refine z_aload_n C dX4_readNumber_79 rfl (show zlk _ 0 = some (.ref (ad 1)) from rfl) ?_
    refine z_get C hinX4 1 cc_1 rfl 3 (by decide) (by decide +kernel) ch_1_3 dX4_readNumber_80 ?_
    refine z_iload_n C dX4_readNumber_83 rfl (show zlk _ 3 = some (.int (nI pk2)) from rfl) ?_
    refine z_icmp_neN C 98 dX4_readNumber_84 (by decide) (by omega) (by omega) (fun h84t_2 => ?_) (fun h84n_2 => ?_)
    · refine z_aload_n C dX4_readNumber_98 rfl (show zlk _ 0 = some (.ref (ad 1)) from rfl) ?_
      refine z_get C hinX4 1 cc_1 rfl 3 (by decide) (by decide +kernel) ch_1_3 dX4_readNumber_99 ?_
      refine z_iload_n C dX4_readNumber_102 rfl (show zlk _ 3 = some (.int (nI pk2)) from rfl) ?_
      refine z_isubN C dX4_readNumber_103 (by omega) ?_
      refine z_iconst C (v := nI 3) dX4_readNumber_104 (by decide) ?_
      refine z_icmp_gtN C 120 dX4_readNumber_105 (by decide) (by omega) (by omega) (fun h105t_3 => ?_) (fun h105n_3 => ?_)
      · refine z_aload_n C dX4_readNumber_120 rfl (show zlk _ 0 = some (.ref (ad 1)) from rfl) ?_
        refine z_iconst C (v := nI 2) dX4_readNumber_121 (by decide) ?_
        refine z_iload_n C dX4_readNumber_122 rfl (show zlk _ 3 = some (.int (nI pk2)) from rfl) ?_
        refine z_callVv C (As := [.int (nI 2), .int (nI pk2)]) (rest := []) (c_X4_blame l θ ea ad (cnv (n 0) (n 1) (n 2) (pk2 + 240) (n 4) (n 5) (n 6) (n 7) (n 8) (n 9) (n 10) (n 11) (n 12) (n 13) (n 14) (n 15) (n 16) (n 17) (n 18) (n 19) (n 20)) g b r V 2 pk2) gX4_readNumber_X4_blame rfl 2 (by decide +kernel) (by decide) (by decide) 1 rfl rfl rfl rfl rfl (Nat.le_of_ble_eq_true rfl) dX4_readNumber_123 ?_
        rintro _ rfl
        refine z_X (Y := CW θ ea ad (cnv (n 0) (n 1) (n 2) (pk2 + 240) 2 (n 5) (n 6) (n 7) (n 8) (n 9) (n 10) (n 11) (n 12) (n 13) (n 14) (n 15) (n 16) (n 17) (n 18) (n 19) (n 20)) (cgv (g 0) (g 1) (nI pk2) (g 3) (g 4) (g 5) (g 6)) b r V) (cw_eq rfl rfl rfl rfl rfl rfl rfl rfl rfl rfl rfl rfl rfl rfl rfl rfl rfl rfl rfl rfl rfl rfl rfl rfl rfl rfl rfl rfl rfl rfl rfl rfl rfl rfl rfl rfl rfl rfl rfl rfl rfl rfl rfl rfl rfl rfl rfl rfl rfl rfl rfl) ?_
        refine z_iconst C (v := nI 0) dX4_readNumber_126 (by decide) ?_
        exact E _ _ _ _ (⟨_, _, ek2, hq, Or.inr (Or.inl ⟨(by unfold nOk; rw [ek2]; exact hinv24.2.2 (by have := h84t_2; omega)), by unfold nBad; rw [hq, ek2]; exact Or.inl (by have := h105t_3; omega), rfl, (cw_eq rfl rfl rfl rfl rfl rfl rfl rfl rfl rfl rfl rfl rfl rfl rfl rfl rfl rfl rfl rfl rfl rfl rfl rfl rfl rfl rfl rfl rfl rfl rfl rfl rfl rfl rfl rfl rfl rfl rfl rfl rfl rfl rfl rfl rfl rfl rfl rfl rfl rfl rfl)⟩)⟩) (rfl) dX4_readNumber_127
      · refine z_iload C dX4_readNumber_108 (show zlk _ 4 = some (.int (nI (k_nv (r 0) pk2 240))) from rfl) ?_
        refine z_iload_n C dX4_readNumber_110 rfl (show zlk _ 1 = some (.int (nI lo)) from rfl) ?_
        refine z_icmp_ltN C 120 dX4_readNumber_111 (by decide) (by omega) (by omega) (fun h111t_4 => ?_) (fun h111n_4 => ?_)
        · refine z_aload_n C dX4_readNumber_120 rfl (show zlk _ 0 = some (.ref (ad 1)) from rfl) ?_
          refine z_iconst C (v := nI 2) dX4_readNumber_121 (by decide) ?_
          refine z_iload_n C dX4_readNumber_122 rfl (show zlk _ 3 = some (.int (nI pk2)) from rfl) ?_
          refine z_callVv C (As := [.int (nI 2), .int (nI pk2)]) (rest := []) (c_X4_blame l θ ea ad (cnv (n 0) (n 1) (n 2) (pk2 + 240) (n 4) (n 5) (n 6) (n 7) (n 8) (n 9) (n 10) (n 11) (n 12) (n 13) (n 14) (n 15) (n 16) (n 17) (n 18) (n 19) (n 20)) g b r V 2 pk2) gX4_readNumber_X4_blame rfl 2 (by decide +kernel) (by decide) (by decide) 1 rfl rfl rfl rfl rfl (Nat.le_of_ble_eq_true rfl) dX4_readNumber_123 ?_
          rintro _ rfl
          refine z_X (Y := CW θ ea ad (cnv (n 0) (n 1) (n 2) (pk2 + 240) 2 (n 5) (n 6) (n 7) (n 8) (n 9) (n 10) (n 11) (n 12) (n 13) (n 14) (n 15) (n 16) (n 17) (n 18) (n 19) (n 20)) (cgv (g 0) (g 1) (nI pk2) (g 3) (g 4) (g 5) (g 6)) b r V) (cw_eq rfl rfl rfl rfl rfl rfl rfl rfl rfl rfl rfl rfl rfl rfl rfl rfl rfl rfl rfl rfl rfl rfl rfl rfl rfl rfl rfl rfl rfl rfl rfl rfl rfl rfl rfl rfl rfl rfl rfl rfl rfl rfl rfl rfl rfl rfl rfl rfl rfl rfl rfl) ?_
          refine z_iconst C (v := nI 0) dX4_readNumber_126 (by decide) ?_
          exact E _ _ _ _ (⟨_, _, ek2, hq, Or.inr (Or.inl ⟨(by unfold nOk; rw [ek2]; exact hinv24.2.2 (by have := h84t_2; omega)), by have h7 : 240 ≤ 3 := (by have := h105n_3; omega); have e9 : nV (r 0) (n 2) (n 3) = k_nv (r 0) pk2 240 := (by unfold nV; rw [hq, ek2, show pk2 + 240 - pk2 = 240 by omega]; exact k_nv_eq 240 (by omega) hinv24.2.1); unfold nBad; rw [e9]; exact Or.inr (Or.inl h111t_4), rfl, (cw_eq rfl rfl rfl rfl rfl rfl rfl rfl rfl rfl rfl rfl rfl rfl rfl rfl rfl rfl rfl rfl rfl rfl rfl rfl rfl rfl rfl rfl rfl rfl rfl rfl rfl rfl rfl rfl rfl rfl rfl rfl rfl rfl rfl rfl rfl rfl rfl rfl rfl rfl rfl)⟩)⟩) (rfl) dX4_readNumber_127
        · refine z_iload C dX4_readNumber_114 (show zlk _ 4 = some (.int (nI (k_nv (r 0) pk2 240))) from rfl) ?_
          refine z_iload_n C dX4_readNumber_116 rfl (show zlk _ 2 = some (.int (nI hi)) from rfl) ?_
          refine z_icmp_leN C 128 dX4_readNumber_117 (by decide) (by omega) (by omega) (fun h117t_5 => ?_) (fun h117n_5 => ?_)
          · refine z_iload C dX4_readNumber_128 (show zlk _ 4 = some (.int (nI (k_nv (r 0) pk2 240))) from rfl) ?_
            exact E _ _ _ _ (⟨_, _, ek2, hq, Or.inr (Or.inr ⟨(by unfold nOk; rw [ek2]; exact hinv24.2.2 (by have := h84t_2; omega)), by have h7 : 240 ≤ 3 := (by have := h105n_3; omega); have e9 : nV (r 0) (n 2) (n 3) = k_nv (r 0) pk2 240 := (by unfold nV; rw [hq, ek2, show pk2 + 240 - pk2 = 240 by omega]; exact k_nv_eq 240 (by omega) hinv24.2.1); unfold nBad; rw [e9, hq, ek2]; have h6 := h111n_4; have h5 := h117t_5; omega, by have h7 : 240 ≤ 3 := (by have := h105n_3; omega); have e9 : nV (r 0) (n 2) (n 3) = k_nv (r 0) pk2 240 := (by unfold nV; rw [hq, ek2, show pk2 + 240 - pk2 = 240 by omega]; exact k_nv_eq 240 (by omega) hinv24.2.1); rw [e9], (cw_eq rfl rfl rfl rfl rfl rfl rfl rfl rfl rfl rfl rfl rfl rfl rfl rfl rfl rfl rfl rfl rfl rfl rfl rfl rfl rfl rfl rfl rfl rfl rfl rfl rfl rfl rfl rfl rfl rfl rfl rfl rfl rfl rfl rfl rfl rfl rfl rfl rfl rfl rfl)⟩)⟩) (rfl) dX4_readNumber_130
          · refine z_aload_n C dX4_readNumber_120 rfl (show zlk _ 0 = some (.ref (ad 1)) from rfl) ?_
            refine z_iconst C (v := nI 2) dX4_readNumber_121 (by decide) ?_
            refine z_iload_n C dX4_readNumber_122 rfl (show zlk _ 3 = some (.int (nI pk2)) from rfl) ?_
            refine z_callVv C (As := [.int (nI 2), .int (nI pk2)]) (rest := []) (c_X4_blame l θ ea ad (cnv (n 0) (n 1) (n 2) (pk2 + 240) (n 4) (n 5) (n 6) (n 7) (n 8) (n 9) (n 10) (n 11) (n 12) (n 13) (n 14) (n 15) (n 16) (n 17) (n 18) (n 19) (n 20)) g b r V 2 pk2) gX4_readNumber_X4_blame rfl 2 (by decide +kernel) (by decide) (by decide) 1 rfl rfl rfl rfl rfl (Nat.le_of_ble_eq_true rfl) dX4_readNumber_123 ?_
            rintro _ rfl
            refine z_X (Y := CW θ ea ad (cnv (n 0) (n 1) (n 2) (pk2 + 240) 2 (n 5) (n 6) (n 7) (n 8) (n 9) (n 10) (n 11) (n 12) (n 13) (n 14) (n 15) (n 16) (n 17) (n 18) (n 19) (n 20)) (cgv (g 0) (g 1) (nI pk2) (g 3) (g 4) (g 5) (g 6)) b r V) (cw_eq rfl rfl rfl rfl rfl rfl rfl rfl rfl rfl rfl rfl rfl rfl rfl rfl rfl rfl rfl rfl rfl rfl rfl rfl rfl rfl rfl rfl rfl rfl rfl rfl rfl rfl rfl rfl rfl rfl rfl rfl rfl rfl rfl rfl rfl rfl rfl rfl rfl rfl rfl) ?_
            refine z_iconst C (v := nI 0) dX4_readNumber_126 (by decide) ?_
            exact E _ _ _ _ (⟨_, _, ek2, hq, Or.inr (Or.inl ⟨(by unfold nOk; rw [ek2]; exact hinv24.2.2 (by have := h84t_2; omega)), by have h7 : 240 ≤ 3 := (by have := h105n_3; omega); have e9 : nV (r 0) (n 2) (n 3) = k_nv (r 0) pk2 240 := (by unfold nV; rw [hq, ek2, show pk2 + 240 - pk2 = 240 by omega]; exact k_nv_eq 240 (by omega) hinv24.2.1); unfold nBad; rw [e9]; exact Or.inr (Or.inr (by have := h117n_5; omega)), rfl, (cw_eq rfl rfl rfl rfl rfl rfl rfl rfl rfl rfl rfl rfl rfl rfl rfl rfl rfl rfl rfl rfl rfl rfl rfl rfl rfl rfl rfl rfl rfl rfl rfl rfl rfl rfl rfl rfl rfl rfl rfl rfl rfl rfl rfl rfl rfl rfl rfl rfl rfl rfl rfl)⟩)⟩) (rfl) dX4_readNumber_127
    · refine z_aload_n C dX4_readNumber_87 rfl (show zlk _ 0 = some (.ref (ad 1)) from rfl) ?_
      refine z_iconst C (v := nI 1) dX4_readNumber_88 (by decide) ?_
      refine z_aload_n C dX4_readNumber_89 rfl (show zlk _ 0 = some (.ref (ad 1)) from rfl) ?_
      refine z_get C hinX4 1 cc_1 rfl 3 (by decide) (by decide +kernel) ch_1_3 dX4_readNumber_90 ?_
      refine z_callVv C (As := [.int (nI 1), .int (nI (pk2 + 240))]) (rest := []) (c_X4_blame l θ ea ad (cnv (n 0) (n 1) (n 2) (pk2 + 240) (n 4) (n 5) (n 6) (n 7) (n 8) (n 9) (n 10) (n 11) (n 12) (n 13) (n 14) (n 15) (n 16) (n 17) (n 18) (n 19) (n 20)) g b r V 1 (pk2 + 240)) gX4_readNumber_X4_blame rfl 2 (by decide +kernel) (by decide) (by decide) 1 rfl rfl rfl rfl rfl (Nat.le_of_ble_eq_true rfl) dX4_readNumber_93 ?_
      rintro _ rfl
      refine z_X (Y := CW θ ea ad (cnv (n 0) (n 1) (n 2) (pk2 + 240) 1 (n 5) (n 6) (n 7) (n 8) (n 9) (n 10) (n 11) (n 12) (n 13) (n 14) (n 15) (n 16) (n 17) (n 18) (n 19) (n 20)) (cgv (g 0) (g 1) (nI (pk2 + 240)) (g 3) (g 4) (g 5) (g 6)) b r V) (cw_eq rfl rfl rfl rfl rfl rfl rfl rfl rfl rfl rfl rfl rfl rfl rfl rfl rfl rfl rfl rfl rfl rfl rfl rfl rfl rfl rfl rfl rfl rfl rfl rfl rfl rfl rfl rfl rfl rfl rfl rfl rfl rfl rfl rfl rfl rfl rfl rfl rfl rfl rfl) ?_
      refine z_iconst C (v := nI 0) dX4_readNumber_96 (by decide) ?_
      exact E _ _ _ _ (⟨_, _, ek2, hq, Or.inl ⟨by exfalso; have := h84n_2; omega, rfl, by exfalso; have := h84n_2; omega⟩⟩) (rfl) dX4_readNumber_97
  · intro i hk24 ih24
    intro hinv24
    refine z_iload C dX4_readNumber_24 (show zlk _ 5 = some (.int (nI i)) from rfl) ?_
    refine z_sipush C (v := nI 240) dX4_readNumber_26 (by decide) ?_
    refine z_icmp_geF C 79 dX4_readNumber_29 (by decide) (by omega) (by omega) (by omega) ?_
    refine z_aload_n C dX4_readNumber_32 rfl (show zlk _ 0 = some (.ref (ad 1)) from rfl) ?_
    refine z_callVi C (As := []) (rest := []) (c_X4_letterHere l θ ea ad (cnv (n 0) (n 1) (n 2) (pk2 + i) (n 4) (n 5) (n 6) (n 7) (n 8) (n 9) (n 10) (n 11) (n 12) (n 13) (n 14) (n 15) (n 16) (n 17) (n 18) (n 19) (n 20)) g b r V (show pk2 + i < 2 ^ 30 by omega) hL) gX4_readNumber_X4_letterHere rfl 0 (by decide +kernel) (by decide) (by decide) 1 rfl rfl rfl rfl rfl (Nat.le_of_ble_eq_true rfl) dX4_readNumber_33 ?_
    rintro _ _ ⟨rfl, rfl⟩
    refine z_top (v' := .int (m_hr (r 0) (n 2) (pk2 + i))) rfl ?_
    refine z_callSi C (As := [.int (m_hr (r 0) (n 2) (pk2 + i))]) (rest := []) (c_X4_isFigure l θ _ (m_hr (r 0) (n 2) (pk2 + i))) gX4_readNumber_X4_isFigure rfl 1 (by decide +kernel) (by decide) (by decide) rfl rfl (Nat.le_of_ble_eq_true rfl) dX4_readNumber_36 ?_
    rintro _ _ ⟨rfl, rfl⟩
    refine z_top (v' := .int (bI (dgt (m_hr (r 0) (n 2) (pk2 + i))))) rfl ?_
    refine z_if_eqB C 79 dX4_readNumber_39 (by decide) (fun h39t_6 => ?_) (fun h39n_6 => ?_)
    · have hq : nE (r 0) (n 2) (n 3) = pk2 + i := by unfold nE; rw [ek2]; exact hinv24.1.symm.trans (scan_stop (c := fun q => dgt (r 0 q)) (L := n 2) (p := pk2 + i) (fun z => by have h8 := h39t_6; unfold m_hr at h8; rw [if_pos z.1] at h8; rw [h8] at z; exact absurd z.2 (by decide)))
      have hkb := (k_nv_b (f := r 0) (p := pk2) i hinv24.2.1).1
      refine z_aload_n C dX4_readNumber_79 rfl (show zlk _ 0 = some (.ref (ad 1)) from rfl) ?_
      refine z_get C hinX4 1 cc_1 rfl 3 (by decide) (by decide +kernel) ch_1_3 dX4_readNumber_80 ?_
      refine z_iload_n C dX4_readNumber_83 rfl (show zlk _ 3 = some (.int (nI pk2)) from rfl) ?_
      refine z_icmp_neN C 98 dX4_readNumber_84 (by decide) (by omega) (by omega) (fun h84t_7 => ?_) (fun h84n_7 => ?_)
      · refine z_aload_n C dX4_readNumber_98 rfl (show zlk _ 0 = some (.ref (ad 1)) from rfl) ?_
        refine z_get C hinX4 1 cc_1 rfl 3 (by decide) (by decide +kernel) ch_1_3 dX4_readNumber_99 ?_
        refine z_iload_n C dX4_readNumber_102 rfl (show zlk _ 3 = some (.int (nI pk2)) from rfl) ?_
        refine z_isubN C dX4_readNumber_103 (by omega) ?_
        refine z_iconst C (v := nI 3) dX4_readNumber_104 (by decide) ?_
        refine z_icmp_gtN C 120 dX4_readNumber_105 (by decide) (by omega) (by omega) (fun h105t_8 => ?_) (fun h105n_8 => ?_)
        · refine z_aload_n C dX4_readNumber_120 rfl (show zlk _ 0 = some (.ref (ad 1)) from rfl) ?_
          refine z_iconst C (v := nI 2) dX4_readNumber_121 (by decide) ?_
          refine z_iload_n C dX4_readNumber_122 rfl (show zlk _ 3 = some (.int (nI pk2)) from rfl) ?_
          refine z_callVv C (As := [.int (nI 2), .int (nI pk2)]) (rest := []) (c_X4_blame l θ ea ad (cnv (n 0) (n 1) (n 2) (pk2 + i) (n 4) (n 5) (n 6) (n 7) (n 8) (n 9) (n 10) (n 11) (n 12) (n 13) (n 14) (n 15) (n 16) (n 17) (n 18) (n 19) (n 20)) g b r V 2 pk2) gX4_readNumber_X4_blame rfl 2 (by decide +kernel) (by decide) (by decide) 1 rfl rfl rfl rfl rfl (Nat.le_of_ble_eq_true rfl) dX4_readNumber_123 ?_
          rintro _ rfl
          refine z_X (Y := CW θ ea ad (cnv (n 0) (n 1) (n 2) (pk2 + i) 2 (n 5) (n 6) (n 7) (n 8) (n 9) (n 10) (n 11) (n 12) (n 13) (n 14) (n 15) (n 16) (n 17) (n 18) (n 19) (n 20)) (cgv (g 0) (g 1) (nI pk2) (g 3) (g 4) (g 5) (g 6)) b r V) (cw_eq rfl rfl rfl rfl rfl rfl rfl rfl rfl rfl rfl rfl rfl rfl rfl rfl rfl rfl rfl rfl rfl rfl rfl rfl rfl rfl rfl rfl rfl rfl rfl rfl rfl rfl rfl rfl rfl rfl rfl rfl rfl rfl rfl rfl rfl rfl rfl rfl rfl rfl rfl) ?_
          refine z_iconst C (v := nI 0) dX4_readNumber_126 (by decide) ?_
          exact E _ _ _ _ (⟨_, _, ek2, hq, Or.inr (Or.inl ⟨(by unfold nOk; rw [ek2]; exact hinv24.2.2 (by have := h84t_7; omega)), by unfold nBad; rw [hq, ek2]; exact Or.inl (by have := h105t_8; omega), rfl, (cw_eq rfl rfl rfl rfl rfl rfl rfl rfl rfl rfl rfl rfl rfl rfl rfl rfl rfl rfl rfl rfl rfl rfl rfl rfl rfl rfl rfl rfl rfl rfl rfl rfl rfl rfl rfl rfl rfl rfl rfl rfl rfl rfl rfl rfl rfl rfl rfl rfl rfl rfl rfl)⟩)⟩) (rfl) dX4_readNumber_127
        · refine z_iload C dX4_readNumber_108 (show zlk _ 4 = some (.int (nI (k_nv (r 0) pk2 i))) from rfl) ?_
          refine z_iload_n C dX4_readNumber_110 rfl (show zlk _ 1 = some (.int (nI lo)) from rfl) ?_
          refine z_icmp_ltN C 120 dX4_readNumber_111 (by decide) (by omega) (by omega) (fun h111t_9 => ?_) (fun h111n_9 => ?_)
          · refine z_aload_n C dX4_readNumber_120 rfl (show zlk _ 0 = some (.ref (ad 1)) from rfl) ?_
            refine z_iconst C (v := nI 2) dX4_readNumber_121 (by decide) ?_
            refine z_iload_n C dX4_readNumber_122 rfl (show zlk _ 3 = some (.int (nI pk2)) from rfl) ?_
            refine z_callVv C (As := [.int (nI 2), .int (nI pk2)]) (rest := []) (c_X4_blame l θ ea ad (cnv (n 0) (n 1) (n 2) (pk2 + i) (n 4) (n 5) (n 6) (n 7) (n 8) (n 9) (n 10) (n 11) (n 12) (n 13) (n 14) (n 15) (n 16) (n 17) (n 18) (n 19) (n 20)) g b r V 2 pk2) gX4_readNumber_X4_blame rfl 2 (by decide +kernel) (by decide) (by decide) 1 rfl rfl rfl rfl rfl (Nat.le_of_ble_eq_true rfl) dX4_readNumber_123 ?_
            rintro _ rfl
            refine z_X (Y := CW θ ea ad (cnv (n 0) (n 1) (n 2) (pk2 + i) 2 (n 5) (n 6) (n 7) (n 8) (n 9) (n 10) (n 11) (n 12) (n 13) (n 14) (n 15) (n 16) (n 17) (n 18) (n 19) (n 20)) (cgv (g 0) (g 1) (nI pk2) (g 3) (g 4) (g 5) (g 6)) b r V) (cw_eq rfl rfl rfl rfl rfl rfl rfl rfl rfl rfl rfl rfl rfl rfl rfl rfl rfl rfl rfl rfl rfl rfl rfl rfl rfl rfl rfl rfl rfl rfl rfl rfl rfl rfl rfl rfl rfl rfl rfl rfl rfl rfl rfl rfl rfl rfl rfl rfl rfl rfl rfl) ?_
            refine z_iconst C (v := nI 0) dX4_readNumber_126 (by decide) ?_
            exact E _ _ _ _ (⟨_, _, ek2, hq, Or.inr (Or.inl ⟨(by unfold nOk; rw [ek2]; exact hinv24.2.2 (by have := h84t_7; omega)), by have h7 : i ≤ 3 := (by have := h105n_8; omega); have e9 : nV (r 0) (n 2) (n 3) = k_nv (r 0) pk2 i := (by unfold nV; rw [hq, ek2, show pk2 + i - pk2 = i by omega]; exact k_nv_eq i (by omega) hinv24.2.1); unfold nBad; rw [e9]; exact Or.inr (Or.inl h111t_9), rfl, (cw_eq rfl rfl rfl rfl rfl rfl rfl rfl rfl rfl rfl rfl rfl rfl rfl rfl rfl rfl rfl rfl rfl rfl rfl rfl rfl rfl rfl rfl rfl rfl rfl rfl rfl rfl rfl rfl rfl rfl rfl rfl rfl rfl rfl rfl rfl rfl rfl rfl rfl rfl rfl)⟩)⟩) (rfl) dX4_readNumber_127
          · refine z_iload C dX4_readNumber_114 (show zlk _ 4 = some (.int (nI (k_nv (r 0) pk2 i))) from rfl) ?_
            refine z_iload_n C dX4_readNumber_116 rfl (show zlk _ 2 = some (.int (nI hi)) from rfl) ?_
            refine z_icmp_leN C 128 dX4_readNumber_117 (by decide) (by omega) (by omega) (fun h117t_10 => ?_) (fun h117n_10 => ?_)
            · refine z_iload C dX4_readNumber_128 (show zlk _ 4 = some (.int (nI (k_nv (r 0) pk2 i))) from rfl) ?_
              exact E _ _ _ _ (⟨_, _, ek2, hq, Or.inr (Or.inr ⟨(by unfold nOk; rw [ek2]; exact hinv24.2.2 (by have := h84t_7; omega)), by have h7 : i ≤ 3 := (by have := h105n_8; omega); have e9 : nV (r 0) (n 2) (n 3) = k_nv (r 0) pk2 i := (by unfold nV; rw [hq, ek2, show pk2 + i - pk2 = i by omega]; exact k_nv_eq i (by omega) hinv24.2.1); unfold nBad; rw [e9, hq, ek2]; have h6 := h111n_9; have h5 := h117t_10; omega, by have h7 : i ≤ 3 := (by have := h105n_8; omega); have e9 : nV (r 0) (n 2) (n 3) = k_nv (r 0) pk2 i := (by unfold nV; rw [hq, ek2, show pk2 + i - pk2 = i by omega]; exact k_nv_eq i (by omega) hinv24.2.1); rw [e9], (cw_eq rfl rfl rfl rfl rfl rfl rfl rfl rfl rfl rfl rfl rfl rfl rfl rfl rfl rfl rfl rfl rfl rfl rfl rfl rfl rfl rfl rfl rfl rfl rfl rfl rfl rfl rfl rfl rfl rfl rfl rfl rfl rfl rfl rfl rfl rfl rfl rfl rfl rfl rfl)⟩)⟩) (rfl) dX4_readNumber_130
            · refine z_aload_n C dX4_readNumber_120 rfl (show zlk _ 0 = some (.ref (ad 1)) from rfl) ?_
              refine z_iconst C (v := nI 2) dX4_readNumber_121 (by decide) ?_
              refine z_iload_n C dX4_readNumber_122 rfl (show zlk _ 3 = some (.int (nI pk2)) from rfl) ?_
              refine z_callVv C (As := [.int (nI 2), .int (nI pk2)]) (rest := []) (c_X4_blame l θ ea ad (cnv (n 0) (n 1) (n 2) (pk2 + i) (n 4) (n 5) (n 6) (n 7) (n 8) (n 9) (n 10) (n 11) (n 12) (n 13) (n 14) (n 15) (n 16) (n 17) (n 18) (n 19) (n 20)) g b r V 2 pk2) gX4_readNumber_X4_blame rfl 2 (by decide +kernel) (by decide) (by decide) 1 rfl rfl rfl rfl rfl (Nat.le_of_ble_eq_true rfl) dX4_readNumber_123 ?_
              rintro _ rfl
              refine z_X (Y := CW θ ea ad (cnv (n 0) (n 1) (n 2) (pk2 + i) 2 (n 5) (n 6) (n 7) (n 8) (n 9) (n 10) (n 11) (n 12) (n 13) (n 14) (n 15) (n 16) (n 17) (n 18) (n 19) (n 20)) (cgv (g 0) (g 1) (nI pk2) (g 3) (g 4) (g 5) (g 6)) b r V) (cw_eq rfl rfl rfl rfl rfl rfl rfl rfl rfl rfl rfl rfl rfl rfl rfl rfl rfl rfl rfl rfl rfl rfl rfl rfl rfl rfl rfl rfl rfl rfl rfl rfl rfl rfl rfl rfl rfl rfl rfl rfl rfl rfl rfl rfl rfl rfl rfl rfl rfl rfl rfl) ?_
              refine z_iconst C (v := nI 0) dX4_readNumber_126 (by decide) ?_
              exact E _ _ _ _ (⟨_, _, ek2, hq, Or.inr (Or.inl ⟨(by unfold nOk; rw [ek2]; exact hinv24.2.2 (by have := h84t_7; omega)), by have h7 : i ≤ 3 := (by have := h105n_8; omega); have e9 : nV (r 0) (n 2) (n 3) = k_nv (r 0) pk2 i := (by unfold nV; rw [hq, ek2, show pk2 + i - pk2 = i by omega]; exact k_nv_eq i (by omega) hinv24.2.1); unfold nBad; rw [e9]; exact Or.inr (Or.inr (by have := h117n_10; omega)), rfl, (cw_eq rfl rfl rfl rfl rfl rfl rfl rfl rfl rfl rfl rfl rfl rfl rfl rfl rfl rfl rfl rfl rfl rfl rfl rfl rfl rfl rfl rfl rfl rfl rfl rfl rfl rfl rfl rfl rfl rfl rfl rfl rfl rfl rfl rfl rfl rfl rfl rfl rfl rfl rfl)⟩)⟩) (rfl) dX4_readNumber_127
      · refine z_aload_n C dX4_readNumber_87 rfl (show zlk _ 0 = some (.ref (ad 1)) from rfl) ?_
        refine z_iconst C (v := nI 1) dX4_readNumber_88 (by decide) ?_
        refine z_aload_n C dX4_readNumber_89 rfl (show zlk _ 0 = some (.ref (ad 1)) from rfl) ?_
        refine z_get C hinX4 1 cc_1 rfl 3 (by decide) (by decide +kernel) ch_1_3 dX4_readNumber_90 ?_
        refine z_callVv C (As := [.int (nI 1), .int (nI (pk2 + i))]) (rest := []) (c_X4_blame l θ ea ad (cnv (n 0) (n 1) (n 2) (pk2 + i) (n 4) (n 5) (n 6) (n 7) (n 8) (n 9) (n 10) (n 11) (n 12) (n 13) (n 14) (n 15) (n 16) (n 17) (n 18) (n 19) (n 20)) g b r V 1 (pk2 + i)) gX4_readNumber_X4_blame rfl 2 (by decide +kernel) (by decide) (by decide) 1 rfl rfl rfl rfl rfl (Nat.le_of_ble_eq_true rfl) dX4_readNumber_93 ?_
        rintro _ rfl
        refine z_X (Y := CW θ ea ad (cnv (n 0) (n 1) (n 2) (pk2 + i) 1 (n 5) (n 6) (n 7) (n 8) (n 9) (n 10) (n 11) (n 12) (n 13) (n 14) (n 15) (n 16) (n 17) (n 18) (n 19) (n 20)) (cgv (g 0) (g 1) (nI (pk2 + i)) (g 3) (g 4) (g 5) (g 6)) b r V) (cw_eq rfl rfl rfl rfl rfl rfl rfl rfl rfl rfl rfl rfl rfl rfl rfl rfl rfl rfl rfl rfl rfl rfl rfl rfl rfl rfl rfl rfl rfl rfl rfl rfl rfl rfl rfl rfl rfl rfl rfl rfl rfl rfl rfl rfl rfl rfl rfl rfl rfl rfl rfl) ?_
        refine z_iconst C (v := nI 0) dX4_readNumber_96 (by decide) ?_
        exact E _ _ _ _ (⟨_, _, ek2, hq, Or.inl ⟨by unfold nOk; rw [ek2]; have h9 := h39t_6; rw [h84n_7] at h9; exact h9, rfl, by rw [h84n_7] <;> exact (cw_eq rfl rfl rfl rfl rfl rfl rfl rfl rfl rfl rfl rfl rfl rfl rfl rfl rfl rfl rfl rfl rfl rfl rfl rfl rfl rfl rfl rfl rfl rfl rfl rfl rfl rfl rfl rfl rfl rfl rfl rfl rfl rfl rfl rfl rfl rfl rfl rfl rfl rfl rfl)⟩⟩) (rfl) dX4_readNumber_97
    · refine z_iload C dX4_readNumber_42 (show zlk _ 5 = some (.int (nI i)) from rfl) ?_
      refine z_iconst C (v := nI 3) dX4_readNumber_44 (by decide) ?_
      refine z_icmp_geN C 63 dX4_readNumber_45 (by decide) (by omega) (by omega) (fun h45t_11 => ?_) (fun h45n_11 => ?_)
      · refine z_aload_n C dX4_readNumber_63 rfl (show zlk _ 0 = some (.ref (ad 1)) from rfl) ?_
        refine z_dup C dX4_readNumber_64 rfl ?_
        refine z_get C hinX4 1 cc_1 rfl 3 (by decide) (by decide +kernel) ch_1_3 dX4_readNumber_65 ?_
        refine z_iconst C (v := nI 1) dX4_readNumber_68 (by decide) ?_
        refine z_iaddN C dX4_readNumber_69 ?_
        refine z_put C hinX4 tyX4 tyX4_ok nmX4 1 cc_1 rfl 3 (by decide) (by decide +kernel) rfl rfl rfl rfl (Nat.le_of_ble_eq_true rfl) _ cv_1_3 dX4_readNumber_70 ?_
        refine z_iincN C [(5, .int (nI (i + 1))), (0, .ref (ad 1)), (1, .int (nI lo)), (2, .int (nI hi)), (3, .int (nI pk2)), (4, .int (nI (k_nv (r 0) pk2 i)))] dX4_readNumber_73 rfl (by decide) rfl ?_
        refine z_goto C 24 dX4_readNumber_76 (by decide) ?_
        exact z_to (ih24 (by have h9 := hr_dgt (f := r 0) (L := n 2) h39n_6; have h8 := h39n_6; rw [h9.2] at h8; refine ⟨?_, fun q hq => ?_, fun _ => ?_⟩; (rw [← hinv24.1]; exact (scan_step (c := fun q => dgt (r 0 q)) h9.1 h8).symm); (by_cases e : q = i; exact e ▸ h8; exact hinv24.2.1 q (by omega)); (by_cases e : i = 0; (subst e; exact h39n_6); exact hinv24.2.2 (by omega)))) ((cw_eq rfl rfl rfl rfl rfl rfl rfl rfl rfl rfl rfl rfl rfl rfl rfl rfl rfl rfl rfl rfl rfl rfl rfl rfl rfl rfl rfl rfl rfl rfl rfl rfl rfl rfl rfl rfl rfl rfl rfl rfl rfl rfl rfl rfl rfl rfl rfl rfl rfl rfl rfl)) (by first | rfl | (rw [k_nv, if_neg (show ¬ i < 3 by have := h45t_11; omega)] <;> rfl))
      · refine z_bipush C (v := nI 10) dX4_readNumber_48 (by decide) ?_
        refine z_iload C dX4_readNumber_50 (show zlk _ 4 = some (.int (nI (k_nv (r 0) pk2 i))) from rfl) ?_
        refine z_imulN C dX4_readNumber_52 ?_
        refine z_aload_n C dX4_readNumber_53 rfl (show zlk _ 0 = some (.ref (ad 1)) from rfl) ?_
        refine z_callVi C (As := []) (rest := [.int (nI (10 * (k_nv (r 0) pk2 i)))]) (c_X4_letterHere l θ ea ad (cnv (n 0) (n 1) (n 2) (pk2 + i) (n 4) (n 5) (n 6) (n 7) (n 8) (n 9) (n 10) (n 11) (n 12) (n 13) (n 14) (n 15) (n 16) (n 17) (n 18) (n 19) (n 20)) g b r V (show pk2 + i < 2 ^ 30 by omega) hL) gX4_readNumber_X4_letterHere rfl 0 (by decide +kernel) (by decide) (by decide) 1 rfl rfl rfl rfl rfl (Nat.le_of_ble_eq_true rfl) dX4_readNumber_54 ?_
        rintro _ _ ⟨rfl, rfl⟩
        refine z_top (v' := .int (m_hr (r 0) (n 2) (pk2 + i))) rfl ?_
        refine z_iadd C dX4_readNumber_57 ?_
        refine z_bipush C (v := nI 48) dX4_readNumber_58 (by decide) ?_
        refine z_isub C dX4_readNumber_60 ?_
        refine z_top (v' := .int (nI (k_nv (r 0) pk2 (i + 1)))) (by have h9 := hr_dgt (f := r 0) (L := n 2) h39n_6; have h8 := h39n_6; rw [h9.2] at h8; rw [h9.2, k_nv, if_pos (show i < 3 by have := h45n_11; omega)]; exact congrArg Value.int (dig_add _ h8)) ?_
        refine z_istore C [(4, .int (nI (k_nv (r 0) pk2 (i + 1)))), (0, .ref (ad 1)), (1, .int (nI lo)), (2, .int (nI hi)), (3, .int (nI pk2)), (5, .int (nI i))] dX4_readNumber_61 (by decide) rfl ?_
        refine z_aload_n C dX4_readNumber_63 rfl (show zlk _ 0 = some (.ref (ad 1)) from rfl) ?_
        refine z_dup C dX4_readNumber_64 rfl ?_
        refine z_get C hinX4 1 cc_1 rfl 3 (by decide) (by decide +kernel) ch_1_3 dX4_readNumber_65 ?_
        refine z_iconst C (v := nI 1) dX4_readNumber_68 (by decide) ?_
        refine z_iaddN C dX4_readNumber_69 ?_
        refine z_put C hinX4 tyX4 tyX4_ok nmX4 1 cc_1 rfl 3 (by decide) (by decide +kernel) rfl rfl rfl rfl (Nat.le_of_ble_eq_true rfl) _ cv_1_3 dX4_readNumber_70 ?_
        refine z_iincN C [(5, .int (nI (i + 1))), (4, .int (nI (k_nv (r 0) pk2 (i + 1)))), (0, .ref (ad 1)), (1, .int (nI lo)), (2, .int (nI hi)), (3, .int (nI pk2))] dX4_readNumber_73 rfl (by decide) rfl ?_
        refine z_goto C 24 dX4_readNumber_76 (by decide) ?_
        exact z_to (ih24 (by have h9 := hr_dgt (f := r 0) (L := n 2) h39n_6; have h8 := h39n_6; rw [h9.2] at h8; refine ⟨?_, fun q hq => ?_, fun _ => ?_⟩; (rw [← hinv24.1]; exact (scan_step (c := fun q => dgt (r 0 q)) h9.1 h8).symm); (by_cases e : q = i; exact e ▸ h8; exact hinv24.2.1 q (by omega)); (by_cases e : i = 0; (subst e; exact h39n_6); exact hinv24.2.2 (by omega)))) ((cw_eq rfl rfl rfl rfl rfl rfl rfl rfl rfl rfl rfl rfl rfl rfl rfl rfl rfl rfl rfl rfl rfl rfl rfl rfl rfl rfl rfl rfl rfl rfl rfl rfl rfl rfl rfl rfl rfl rfl rfl rfl rfl rfl rfl rfl rfl rfl rfl rfl rfl rfl rfl)) (by first | rfl | (rw [k_nv, if_neg (show ¬ i < 3 by have := h45n_11; omega)] <;> rfl))

