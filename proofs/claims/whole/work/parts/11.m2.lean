def m_dr (set bats : Int32) (G : Nat) : Nat → Nat × Int32
  | 0 => (G, nI 0)
  | k + 1 => if (m_has set (nI k) = true ∧ m_has bats (nI (k % 6)) = false) ∧ ¬ (m_dr set bats G k).1 = 0 then ((m_dr set bats G k).1 - 1, (m_dr set bats G k).2 ||| (nI 1 <<< (nI k &&& 31))) else ((m_dr set bats G k).1, (m_dr set bats G k).2 ||| nI 0)
theorem m_dr_le (set bats : Int32) (G : Nat) : ∀ k, (m_dr set bats G k).1 ≤ G
  | 0 => Nat.le_refl _
  | k + 1 => by
    have := m_dr_le set bats G k
    unfold m_dr
    split <;> dsimp only <;> omega
def m_set (r : Nat → Nat → Int32) (j : Nat) (bx : Int32) : Int32 := m_sh (r 2 j) bx 30 &&& (r 7 3 ^^^ (-1))
def m_drawn (r : Nat → Nat → Int32) (G j : Nat) (bx : Int32) : Int32 := (m_dr (m_set r j bx) (r 7 2) G 30).2
set_option maxHeartbeats 4000000 in
set_option maxRecDepth 100000 in
theorem c_X6_drawnBy (l : Launch) (θ : zH) (ad : Nat → Nat) (n : Nat → Nat) (g : Int32) (r : Nat → Nat → Int32) (j : Nat) (bx : Int32) (hj : j < 6) (h0 : n 0 ≤ 30) : cI l yX6_drawnBy wsX6_drawnBy 2 θ [.ref (ad 0), .int (nI j), .int bx] (MW θ ad n g r) (fun r0 Y => r0 = m_drawn r (n 0) j bx ∧ Y = MW θ ad n g r) := by
  refine z_cI (by decide) rfl rfl (Nat.le_of_ble_eq_true rfl) (lv := [(0, .ref (ad 0)), (1, .int (nI j)), (2, .int bx)]) rfl (fun κ C E => ?_)
  have hin : ∀ w ∈ wsX60, w ∈ wsX6_drawnBy := by decide +kernel
  refine z_aload_n C dX6_drawnBy_0 rfl (show zlk _ 0 = some (.ref (ad 0)) from rfl) ?_
  refine z_mg C hin 2 (by decide) (by decide +kernel) (v := .ref (ad 2)) mf_2 dX6_drawnBy_1 ?_
  refine z_iload_n C dX6_drawnBy_4 rfl (show zlk _ 1 = some (.int (nI j)) from rfl) ?_
  refine z_iald C (f := (r 2)) 1 mr_2 j rfl (by omega) (by decide) dX6_drawnBy_5 ?_
  refine z_iload_n C dX6_drawnBy_6 rfl (show zlk _ 2 = some (.int bx) from rfl) ?_
  refine z_callSi C (As := [.int ((r 2) j), .int bx]) (rest := []) (c_X6_shifted l θ _ ((r 2) j) bx) gX6_drawnBy_X6_shifted rfl 2 (by decide +kernel) (by decide) (by decide) rfl rfl (Nat.le_of_ble_eq_true rfl) dX6_drawnBy_7 ?_
  rintro _ _ ⟨rfl, rfl⟩
  refine z_aload_n C dX6_drawnBy_10 rfl (show zlk _ 0 = some (.ref (ad 0)) from rfl) ?_
  refine z_mg C hin 7 (by decide) (by decide +kernel) (v := .ref (ad 7)) mf_7 dX6_drawnBy_11 ?_
  refine z_iconst C (v := nI 3) dX6_drawnBy_14 (by decide) ?_
  refine z_iald C (f := (r 7)) 4 mr_7 3 rfl (by omega) (by decide) dX6_drawnBy_15 ?_
  refine z_iconst C (v := (-1)) dX6_drawnBy_16 (by decide) ?_
  refine z_ixor C dX6_drawnBy_17 ?_
  refine z_iand C dX6_drawnBy_18 ?_
  refine z_top (v' := .int (m_set r j bx)) (rfl) ?_
  refine z_istore_n C [(3, .int (m_set r j bx)), (0, .ref (ad 0)), (1, .int (nI j)), (2, .int bx)] dX6_drawnBy_19 rfl (by decide) rfl ?_
  refine z_aload_n C dX6_drawnBy_20 rfl (show zlk _ 0 = some (.ref (ad 0)) from rfl) ?_
  refine z_mg C hin 0 (by decide) (by decide +kernel) (v := .int (nI (n 0))) mf_0 dX6_drawnBy_21 ?_
  refine z_istore C [(4, .int (nI (n 0))), (3, .int (m_set r j bx)), (0, .ref (ad 0)), (1, .int (nI j)), (2, .int bx)] dX6_drawnBy_24 (by decide) rfl ?_
  refine z_iconst C (v := nI 0) dX6_drawnBy_26 (by decide) ?_
  refine z_istore C [(5, .int (nI 0)), (4, .int (nI (n 0))), (3, .int (m_set r j bx)), (0, .ref (ad 0)), (1, .int (nI j)), (2, .int bx)] dX6_drawnBy_27 (by decide) rfl ?_
  refine z_iconst C (v := nI 0) dX6_drawnBy_29 (by decide) ?_
  refine z_istore C [(6, .int (nI 0)), (5, .int (nI 0)), (4, .int (nI (n 0))), (3, .int (m_set r j bx)), (0, .ref (ad 0)), (1, .int (nI j)), (2, .int bx)] dX6_drawnBy_30 (by decide) rfl ?_
  refine z_lv (lv' := [(0, .ref (ad 0)), (3, .int (m_set r j bx)), (4, .int (nI ((m_dr (m_set r j bx) (r 7 2) (n 0) 0).1))), (5, .int ((m_dr (m_set r j bx) (r 7 2) (n 0) 0).2)), (6, .int (nI 0))]) rfl ?_
  refine z_up (fun k => Z κ (MW θ ad n g r) 32 [(0, .ref (ad 0)), (3, .int (m_set r j bx)), (4, .int (nI ((m_dr (m_set r j bx) (r 7 2) (n 0) k).1))), (5, .int ((m_dr (m_set r j bx) (r 7 2) (n 0) k).2)), (6, .int (nI k))] []) (30) ?_ ?_ 0 (by omega)
  · refine z_iload C dX6_drawnBy_32 (show zlk _ 6 = some (.int (nI 30)) from rfl) ?_
    refine z_bipush C (v := nI 30) dX6_drawnBy_34 (by decide) ?_
    refine z_icmp_geT C 116 dX6_drawnBy_36 (by decide) (by omega) (by omega) (by omega) ?_
    refine z_iload C dX6_drawnBy_116 (show zlk _ 5 = some (.int ((m_dr (m_set r j bx) (r 7 2) (n 0) 30).2)) from rfl) ?_
    exact E _ _ _ _ (⟨rfl, rfl⟩) (rfl) dX6_drawnBy_118
  · intro k hk32 ih32
    refine z_iload C dX6_drawnBy_32 (show zlk _ 6 = some (.int (nI k)) from rfl) ?_
    refine z_bipush C (v := nI 30) dX6_drawnBy_34 (by decide) ?_
    refine z_icmp_geF C 116 dX6_drawnBy_36 (by decide) (by omega) (by omega) (by omega) ?_
    refine z_iload_n C dX6_drawnBy_39 rfl (show zlk _ 3 = some (.int (m_set r j bx)) from rfl) ?_
    refine z_iload C dX6_drawnBy_40 (show zlk _ 6 = some (.int (nI k)) from rfl) ?_
    refine z_callSi C (As := [.int (m_set r j bx), .int (nI k)]) (rest := []) (c_X6_has l θ _ (m_set r j bx) (nI k)) gX6_drawnBy_X6_has rfl 2 (by decide +kernel) (by decide) (by decide) rfl rfl (Nat.le_of_ble_eq_true rfl) dX6_drawnBy_42 ?_
    rintro _ _ ⟨rfl, rfl⟩
    refine z_if_eqB C 74 dX6_drawnBy_45 (by decide) (fun h45t_1 => ?_) (fun h45n_1 => ?_)
    · refine z_iconst C (v := nI 0) dX6_drawnBy_74 (by decide) ?_
      refine z_istore C [(7, .int (nI 0)), (0, .ref (ad 0)), (3, .int (m_set r j bx)), (4, .int (nI ((m_dr (m_set r j bx) (r 7 2) (n 0) k).1))), (5, .int ((m_dr (m_set r j bx) (r 7 2) (n 0) k).2)), (6, .int (nI k))] dX6_drawnBy_75 (by decide) rfl ?_
      refine z_iload C dX6_drawnBy_77 (show zlk _ 5 = some (.int ((m_dr (m_set r j bx) (r 7 2) (n 0) k).2)) from rfl) ?_
      refine z_iload C dX6_drawnBy_79 (show zlk _ 7 = some (.int (nI 0)) from rfl) ?_
      refine z_if_eqN C 91 dX6_drawnBy_81 (by decide) (by decide) (fun _ => ?_) (fun h => absurd h (by decide))
      refine z_iconst C (v := nI 0) dX6_drawnBy_91 (by decide) ?_
      refine z_ior C dX6_drawnBy_92 ?_
      refine z_istore C [(5, .int (((m_dr (m_set r j bx) (r 7 2) (n 0) k).2) ||| (nI 0))), (7, .int (nI 0)), (0, .ref (ad 0)), (3, .int (m_set r j bx)), (4, .int (nI ((m_dr (m_set r j bx) (r 7 2) (n 0) k).1))), (6, .int (nI k))] dX6_drawnBy_93 (by decide) rfl ?_
      refine z_iload C dX6_drawnBy_95 (show zlk _ 4 = some (.int (nI ((m_dr (m_set r j bx) (r 7 2) (n 0) k).1))) from rfl) ?_
      refine z_iload C dX6_drawnBy_97 (show zlk _ 7 = some (.int (nI 0)) from rfl) ?_
      refine z_if_eqN C 106 dX6_drawnBy_99 (by decide) (by decide) (fun _ => ?_) (fun h => absurd h (by decide))
      refine z_iconst C (v := nI 0) dX6_drawnBy_106 (by decide) ?_
      refine z_isubN C dX6_drawnBy_107 (by omega) ?_
      refine z_istore C [(4, .int (nI ((m_dr (m_set r j bx) (r 7 2) (n 0) k).1))), (5, .int (((m_dr (m_set r j bx) (r 7 2) (n 0) k).2) ||| (nI 0))), (7, .int (nI 0)), (0, .ref (ad 0)), (3, .int (m_set r j bx)), (6, .int (nI k))] dX6_drawnBy_108 (by decide) rfl ?_
      refine z_iincN C [(6, .int (nI (k + 1))), (4, .int (nI ((m_dr (m_set r j bx) (r 7 2) (n 0) k).1))), (5, .int (((m_dr (m_set r j bx) (r 7 2) (n 0) k).2) ||| (nI 0))), (7, .int (nI 0)), (0, .ref (ad 0)), (3, .int (m_set r j bx))] dX6_drawnBy_110 rfl (by decide) rfl ?_
      refine z_goto C 32 dX6_drawnBy_113 (by decide) ?_
      exact z_to (ih32) (rfl) (by simp [zlk, m_dr, h45t_1])
    · refine z_aload_n C dX6_drawnBy_48 rfl (show zlk _ 0 = some (.ref (ad 0)) from rfl) ?_
      refine z_mg C hin 7 (by decide) (by decide +kernel) (v := .ref (ad 7)) mf_7 dX6_drawnBy_49 ?_
      refine z_iconst C (v := nI 2) dX6_drawnBy_52 (by decide) ?_
      refine z_iald C (f := (r 7)) 4 mr_7 2 rfl (by omega) (by decide) dX6_drawnBy_53 ?_
      refine z_iload C dX6_drawnBy_54 (show zlk _ 6 = some (.int (nI k)) from rfl) ?_
      refine z_bipush C (v := nI 6) dX6_drawnBy_56 (by decide) ?_
      refine z_iremN C dX6_drawnBy_58 (by omega) (by omega) (by omega) ?_
      refine z_callSi C (As := [.int ((r 7) 2), .int (nI (k % 6))]) (rest := []) (c_X6_has l θ _ ((r 7) 2) (nI (k % 6))) gX6_drawnBy_X6_has rfl 2 (by decide +kernel) (by decide) (by decide) rfl rfl (Nat.le_of_ble_eq_true rfl) dX6_drawnBy_59 ?_
      rintro _ _ ⟨rfl, rfl⟩
      refine z_if_neB C 74 dX6_drawnBy_62 (by decide) (fun h62t_2 => ?_) (fun h62n_2 => ?_)
      · refine z_iconst C (v := nI 0) dX6_drawnBy_74 (by decide) ?_
        refine z_istore C [(7, .int (nI 0)), (0, .ref (ad 0)), (3, .int (m_set r j bx)), (4, .int (nI ((m_dr (m_set r j bx) (r 7 2) (n 0) k).1))), (5, .int ((m_dr (m_set r j bx) (r 7 2) (n 0) k).2)), (6, .int (nI k))] dX6_drawnBy_75 (by decide) rfl ?_
        refine z_iload C dX6_drawnBy_77 (show zlk _ 5 = some (.int ((m_dr (m_set r j bx) (r 7 2) (n 0) k).2)) from rfl) ?_
        refine z_iload C dX6_drawnBy_79 (show zlk _ 7 = some (.int (nI 0)) from rfl) ?_
        refine z_if_eqN C 91 dX6_drawnBy_81 (by decide) (by decide) (fun _ => ?_) (fun h => absurd h (by decide))
        refine z_iconst C (v := nI 0) dX6_drawnBy_91 (by decide) ?_
        refine z_ior C dX6_drawnBy_92 ?_
        refine z_istore C [(5, .int (((m_dr (m_set r j bx) (r 7 2) (n 0) k).2) ||| (nI 0))), (7, .int (nI 0)), (0, .ref (ad 0)), (3, .int (m_set r j bx)), (4, .int (nI ((m_dr (m_set r j bx) (r 7 2) (n 0) k).1))), (6, .int (nI k))] dX6_drawnBy_93 (by decide) rfl ?_
        refine z_iload C dX6_drawnBy_95 (show zlk _ 4 = some (.int (nI ((m_dr (m_set r j bx) (r 7 2) (n 0) k).1))) from rfl) ?_
        refine z_iload C dX6_drawnBy_97 (show zlk _ 7 = some (.int (nI 0)) from rfl) ?_
        refine z_if_eqN C 106 dX6_drawnBy_99 (by decide) (by decide) (fun _ => ?_) (fun h => absurd h (by decide))
        refine z_iconst C (v := nI 0) dX6_drawnBy_106 (by decide) ?_
        refine z_isubN C dX6_drawnBy_107 (by omega) ?_
        refine z_istore C [(4, .int (nI ((m_dr (m_set r j bx) (r 7 2) (n 0) k).1))), (5, .int (((m_dr (m_set r j bx) (r 7 2) (n 0) k).2) ||| (nI 0))), (7, .int (nI 0)), (0, .ref (ad 0)), (3, .int (m_set r j bx)), (6, .int (nI k))] dX6_drawnBy_108 (by decide) rfl ?_
        refine z_iincN C [(6, .int (nI (k + 1))), (4, .int (nI ((m_dr (m_set r j bx) (r 7 2) (n 0) k).1))), (5, .int (((m_dr (m_set r j bx) (r 7 2) (n 0) k).2) ||| (nI 0))), (7, .int (nI 0)), (0, .ref (ad 0)), (3, .int (m_set r j bx))] dX6_drawnBy_110 rfl (by decide) rfl ?_
        refine z_goto C 32 dX6_drawnBy_113 (by decide) ?_
        exact z_to (ih32) (rfl) (by simp [zlk, m_dr, h45n_1, h62t_2])
      · refine z_iload C dX6_drawnBy_65 (show zlk _ 4 = some (.int (nI ((m_dr (m_set r j bx) (r 7 2) (n 0) k).1))) from rfl) ?_
        refine z_if_leN C 74 dX6_drawnBy_67 (by decide) (by have := m_dr_le (m_set r j bx) (r 7 2) (n 0) k; omega) (fun h67t_3 => ?_) (fun h67n_3 => ?_)
        · refine z_iconst C (v := nI 0) dX6_drawnBy_74 (by decide) ?_
          refine z_istore C [(7, .int (nI 0)), (0, .ref (ad 0)), (3, .int (m_set r j bx)), (4, .int (nI ((m_dr (m_set r j bx) (r 7 2) (n 0) k).1))), (5, .int ((m_dr (m_set r j bx) (r 7 2) (n 0) k).2)), (6, .int (nI k))] dX6_drawnBy_75 (by decide) rfl ?_
          refine z_iload C dX6_drawnBy_77 (show zlk _ 5 = some (.int ((m_dr (m_set r j bx) (r 7 2) (n 0) k).2)) from rfl) ?_
          refine z_iload C dX6_drawnBy_79 (show zlk _ 7 = some (.int (nI 0)) from rfl) ?_
          refine z_if_eqN C 91 dX6_drawnBy_81 (by decide) (by decide) (fun _ => ?_) (fun h => absurd h (by decide))
          refine z_iconst C (v := nI 0) dX6_drawnBy_91 (by decide) ?_
          refine z_ior C dX6_drawnBy_92 ?_
          refine z_istore C [(5, .int (((m_dr (m_set r j bx) (r 7 2) (n 0) k).2) ||| (nI 0))), (7, .int (nI 0)), (0, .ref (ad 0)), (3, .int (m_set r j bx)), (4, .int (nI ((m_dr (m_set r j bx) (r 7 2) (n 0) k).1))), (6, .int (nI k))] dX6_drawnBy_93 (by decide) rfl ?_
          refine z_iload C dX6_drawnBy_95 (show zlk _ 4 = some (.int (nI ((m_dr (m_set r j bx) (r 7 2) (n 0) k).1))) from rfl) ?_
          refine z_iload C dX6_drawnBy_97 (show zlk _ 7 = some (.int (nI 0)) from rfl) ?_
          refine z_if_eqN C 106 dX6_drawnBy_99 (by decide) (by decide) (fun _ => ?_) (fun h => absurd h (by decide))
          refine z_iconst C (v := nI 0) dX6_drawnBy_106 (by decide) ?_
          refine z_isubN C dX6_drawnBy_107 (by omega) ?_
          refine z_istore C [(4, .int (nI ((m_dr (m_set r j bx) (r 7 2) (n 0) k).1))), (5, .int (((m_dr (m_set r j bx) (r 7 2) (n 0) k).2) ||| (nI 0))), (7, .int (nI 0)), (0, .ref (ad 0)), (3, .int (m_set r j bx)), (6, .int (nI k))] dX6_drawnBy_108 (by decide) rfl ?_
          refine z_iincN C [(6, .int (nI (k + 1))), (4, .int (nI ((m_dr (m_set r j bx) (r 7 2) (n 0) k).1))), (5, .int (((m_dr (m_set r j bx) (r 7 2) (n 0) k).2) ||| (nI 0))), (7, .int (nI 0)), (0, .ref (ad 0)), (3, .int (m_set r j bx))] dX6_drawnBy_110 rfl (by decide) rfl ?_
          refine z_goto C 32 dX6_drawnBy_113 (by decide) ?_
          exact z_to (ih32) (rfl) (by simp [zlk, m_dr, h45n_1, h62n_2, h67t_3])
        · refine z_iconst C (v := nI 1) dX6_drawnBy_70 (by decide) ?_
          refine z_goto C 75 dX6_drawnBy_71 (by decide) ?_
          refine z_istore C [(7, .int (nI 1)), (0, .ref (ad 0)), (3, .int (m_set r j bx)), (4, .int (nI ((m_dr (m_set r j bx) (r 7 2) (n 0) k).1))), (5, .int ((m_dr (m_set r j bx) (r 7 2) (n 0) k).2)), (6, .int (nI k))] dX6_drawnBy_75 (by decide) rfl ?_
          refine z_iload C dX6_drawnBy_77 (show zlk _ 5 = some (.int ((m_dr (m_set r j bx) (r 7 2) (n 0) k).2)) from rfl) ?_
          refine z_iload C dX6_drawnBy_79 (show zlk _ 7 = some (.int (nI 1)) from rfl) ?_
          refine z_if_eqN C 91 dX6_drawnBy_81 (by decide) (by decide) (fun h => absurd h (by decide)) (fun _ => ?_)
          refine z_iconst C (v := nI 1) dX6_drawnBy_84 (by decide) ?_
          refine z_iload C dX6_drawnBy_85 (show zlk _ 6 = some (.int (nI k)) from rfl) ?_
          refine z_ishl C dX6_drawnBy_87 ?_
          refine z_goto C 92 dX6_drawnBy_88 (by decide) ?_
          refine z_ior C dX6_drawnBy_92 ?_
          refine z_istore C [(5, .int (((m_dr (m_set r j bx) (r 7 2) (n 0) k).2) ||| ((nI 1) <<< ((nI k) &&& 31)))), (7, .int (nI 1)), (0, .ref (ad 0)), (3, .int (m_set r j bx)), (4, .int (nI ((m_dr (m_set r j bx) (r 7 2) (n 0) k).1))), (6, .int (nI k))] dX6_drawnBy_93 (by decide) rfl ?_
          refine z_iload C dX6_drawnBy_95 (show zlk _ 4 = some (.int (nI ((m_dr (m_set r j bx) (r 7 2) (n 0) k).1))) from rfl) ?_
          refine z_iload C dX6_drawnBy_97 (show zlk _ 7 = some (.int (nI 1)) from rfl) ?_
          refine z_if_eqN C 106 dX6_drawnBy_99 (by decide) (by decide) (fun h => absurd h (by decide)) (fun _ => ?_)
          refine z_iconst C (v := nI 1) dX6_drawnBy_102 (by decide) ?_
          refine z_goto C 107 dX6_drawnBy_103 (by decide) ?_
          refine z_isubN C dX6_drawnBy_107 (by omega) ?_
          refine z_istore C [(4, .int (nI ((m_dr (m_set r j bx) (r 7 2) (n 0) k).1 - 1))), (5, .int (((m_dr (m_set r j bx) (r 7 2) (n 0) k).2) ||| ((nI 1) <<< ((nI k) &&& 31)))), (7, .int (nI 1)), (0, .ref (ad 0)), (3, .int (m_set r j bx)), (6, .int (nI k))] dX6_drawnBy_108 (by decide) rfl ?_
          refine z_iincN C [(6, .int (nI (k + 1))), (4, .int (nI ((m_dr (m_set r j bx) (r 7 2) (n 0) k).1 - 1))), (5, .int (((m_dr (m_set r j bx) (r 7 2) (n 0) k).2) ||| ((nI 1) <<< ((nI k) &&& 31)))), (7, .int (nI 1)), (0, .ref (ad 0)), (3, .int (m_set r j bx))] dX6_drawnBy_110 rfl (by decide) rfl ?_
          refine z_goto C 32 dX6_drawnBy_113 (by decide) ?_
          exact z_to (ih32) (rfl) (by simp [zlk, m_dr, h45n_1, h62n_2, h67n_3])

theorem m_who_ex (f : Nat → Int32) (k : Int32) : ∀ S : Nat, ¬ m_who f k S = (-1) → ∃ j : Nat, j < S ∧ m_who f k S = nI j ∧ f (6 + j) = k
  | 0, h => absurd rfl h
  | S + 1, h => by
    unfold m_who at h ⊢
    by_cases e : f (6 + S) = k
    · exact ⟨S, by omega, by rw [if_pos e], e⟩
    · rw [if_neg e] at h ⊢
      obtain ⟨j, h1, h2, h3⟩ := m_who_ex f k S h
      exact ⟨j, by omega, h2, h3⟩
def m_dAt (n : Nat → Nat) (r : Nat → Nat → Int32) (w : Nat) : Int32 :=
  if m_who (r 7) (nI w) (n 1) = (-1) ∨ r 7 4 = nI 1 ∨ m_has (r 7 5) (nI w) = true then nI 0 else m_drawn r (n 0) (m_who (r 7) (nI w) (n 1)).toNatClampNeg (r 7 (12 + w) + r 7 1)
set_option maxHeartbeats 4000000 in
set_option maxRecDepth 100000 in
theorem c_X6_drawnAt (l : Launch) (θ : zH) (ad : Nat → Nat) (n : Nat → Nat) (g : Int32) (r : Nat → Nat → Int32) (w : Nat) (hw : w < 5) (hS : n 1 ≤ 6) (h0 : n 0 ≤ 30) : cI l yX6_drawnAt wsX6_drawnAt 3 θ [.ref (ad 0), .int (nI w)] (MW θ ad n g r) (fun r0 Y => r0 = m_dAt n r w ∧ Y = MW θ ad n g r) := by
  refine z_cI (by decide) rfl rfl (Nat.le_of_ble_eq_true rfl) (lv := [(0, .ref (ad 0)), (1, .int (nI w))]) rfl (fun κ C E => ?_)
  have hin : ∀ w ∈ wsX60, w ∈ wsX6_drawnAt := by decide +kernel
  refine z_aload_n C dX6_drawnAt_0 rfl (show zlk _ 0 = some (.ref (ad 0)) from rfl) ?_
  refine z_iload_n C dX6_drawnAt_1 rfl (show zlk _ 1 = some (.int (nI w)) from rfl) ?_
  refine z_callVi C (As := [.int (nI w)]) (rest := []) (c_X6_whoIsAt l θ ad n g r (nI w) (hS)) gX6_drawnAt_X6_whoIsAt rfl 1 (by decide +kernel) (by decide) (by decide) 0 rfl rfl rfl rfl rfl (Nat.le_of_ble_eq_true rfl) dX6_drawnAt_2 ?_
  rintro _ _ ⟨rfl, rfl⟩
  refine z_istore_n C [(2, .int (m_who (r 7) (nI w) (n 1))), (0, .ref (ad 0)), (1, .int (nI w))] dX6_drawnAt_5 rfl (by decide) rfl ?_
  refine z_iload_n C dX6_drawnAt_6 rfl (show zlk _ 2 = some (.int (m_who (r 7) (nI w) (n 1))) from rfl) ?_
  refine z_iconst C (v := (-1)) dX6_drawnAt_7 (by decide) ?_
  refine z_icmp_eq C 34 dX6_drawnAt_8 (by decide) (fun h8t_1 => ?_) (fun h8n_1 => ?_)
  · refine z_iconst C (v := nI 0) dX6_drawnAt_34 (by decide) ?_
    refine z_goto C 59 dX6_drawnAt_35 (by decide) ?_
    exact E _ _ _ _ (⟨by simp [m_dAt, h8t_1], rfl⟩) (rfl) dX6_drawnAt_59
  · refine z_aload_n C dX6_drawnAt_11 rfl (show zlk _ 0 = some (.ref (ad 0)) from rfl) ?_
    refine z_mg C hin 7 (by decide) (by decide +kernel) (v := .ref (ad 7)) mf_7 dX6_drawnAt_12 ?_
    refine z_iconst C (v := nI 4) dX6_drawnAt_15 (by decide) ?_
    refine z_iald C (f := (r 7)) 4 mr_7 4 rfl (by omega) (by decide) dX6_drawnAt_16 ?_
    refine z_iconst C (v := nI 1) dX6_drawnAt_17 (by decide) ?_
    refine z_icmp_eq C 34 dX6_drawnAt_18 (by decide) (fun h18t_2 => ?_) (fun h18n_2 => ?_)
    · refine z_iconst C (v := nI 0) dX6_drawnAt_34 (by decide) ?_
      refine z_goto C 59 dX6_drawnAt_35 (by decide) ?_
      exact E _ _ _ _ (⟨by simp [m_dAt, h8n_1, h18t_2], rfl⟩) (rfl) dX6_drawnAt_59
    · refine z_aload_n C dX6_drawnAt_21 rfl (show zlk _ 0 = some (.ref (ad 0)) from rfl) ?_
      refine z_mg C hin 7 (by decide) (by decide +kernel) (v := .ref (ad 7)) mf_7 dX6_drawnAt_22 ?_
      refine z_iconst C (v := nI 5) dX6_drawnAt_25 (by decide) ?_
      refine z_iald C (f := (r 7)) 4 mr_7 5 rfl (by omega) (by decide) dX6_drawnAt_26 ?_
      refine z_iload_n C dX6_drawnAt_27 rfl (show zlk _ 1 = some (.int (nI w)) from rfl) ?_
      refine z_callSi C (As := [.int ((r 7) 5), .int (nI w)]) (rest := []) (c_X6_has l θ _ ((r 7) 5) (nI w)) gX6_drawnAt_X6_has rfl 2 (by decide +kernel) (by decide) (by decide) rfl rfl (Nat.le_of_ble_eq_true rfl) dX6_drawnAt_28 ?_
      rintro _ _ ⟨rfl, rfl⟩
      refine z_if_eqB C 38 dX6_drawnAt_31 (by decide) (fun h31t_3 => ?_) (fun h31n_3 => ?_)
      · obtain ⟨j, hj, ej, -⟩ := m_who_ex (r 7) (nI w) (n 1) h8n_1
        have ejc : (m_who (r 7) (nI w) (n 1)).toNatClampNeg = j := by rw [ej]; exact nI_clamp (by omega)
        refine z_lv (lv' := [(0, .ref (ad 0)), (1, .int (nI w)), (2, .int (nI j))]) (by rw [← ej]; rfl) ?_
        refine z_aload_n C dX6_drawnAt_38 rfl (show zlk _ 0 = some (.ref (ad 0)) from rfl) ?_
        refine z_iload_n C dX6_drawnAt_39 rfl (show zlk _ 2 = some (.int (nI j)) from rfl) ?_
        refine z_aload_n C dX6_drawnAt_40 rfl (show zlk _ 0 = some (.ref (ad 0)) from rfl) ?_
        refine z_mg C hin 7 (by decide) (by decide +kernel) (v := .ref (ad 7)) mf_7 dX6_drawnAt_41 ?_
        refine z_bipush C (v := nI 12) dX6_drawnAt_44 (by decide) ?_
        refine z_iload_n C dX6_drawnAt_46 rfl (show zlk _ 1 = some (.int (nI w)) from rfl) ?_
        refine z_iaddN C dX6_drawnAt_47 ?_
        refine z_iald C (f := (r 7)) 4 mr_7 (12 + w) rfl (by omega) (by decide) dX6_drawnAt_48 ?_
        refine z_aload_n C dX6_drawnAt_49 rfl (show zlk _ 0 = some (.ref (ad 0)) from rfl) ?_
        refine z_mg C hin 7 (by decide) (by decide +kernel) (v := .ref (ad 7)) mf_7 dX6_drawnAt_50 ?_
        refine z_iconst C (v := nI 1) dX6_drawnAt_53 (by decide) ?_
        refine z_iald C (f := (r 7)) 4 mr_7 1 rfl (by omega) (by decide) dX6_drawnAt_54 ?_
        refine z_iadd C dX6_drawnAt_55 ?_
        refine z_callVi C (As := [.int (nI j), .int (((r 7) (12 + w)) + ((r 7) 1))]) (rest := []) (c_X6_drawnBy l θ ad n g r j (((r 7) (12 + w)) + ((r 7) 1)) (by omega) (h0)) gX6_drawnAt_X6_drawnBy rfl 2 (by decide +kernel) (by decide) (by decide) 0 rfl rfl rfl rfl rfl (Nat.le_of_ble_eq_true rfl) dX6_drawnAt_56 ?_
        rintro _ _ ⟨rfl, rfl⟩
        exact E _ _ _ _ (⟨by simp [m_dAt, h8n_1, h18n_2, h31t_3, ejc], rfl⟩) (rfl) dX6_drawnAt_59
      · refine z_iconst C (v := nI 0) dX6_drawnAt_34 (by decide) ?_
        refine z_goto C 59 dX6_drawnAt_35 (by decide) ?_
        exact E _ _ _ _ (⟨by simp [m_dAt, h8n_1, h18n_2, h31n_3], rfl⟩) (rfl) dX6_drawnAt_59

def m_cloud (n : Nat → Nat) (r : Nat → Nat → Int32) : Nat → Int32
  | 0 => nI 0
  | k + 1 => m_cloud n r k ||| m_dAt n r k
set_option maxHeartbeats 4000000 in
set_option maxRecDepth 100000 in
theorem c_X6_cloud (l : Launch) (θ : zH) (ad : Nat → Nat) (n : Nat → Nat) (g : Int32) (r : Nat → Nat → Int32)  (hw : n 3 ≤ 5) (hS : n 1 ≤ 6) (h0 : n 0 ≤ 30) : cI l yX6_cloud wsX6_cloud 4 θ [.ref (ad 0)] (MW θ ad n g r) (fun r0 Y => r0 = m_cloud n r (n 3) ∧ Y = MW θ ad n g r) := by
  refine z_cI (by decide) rfl rfl (Nat.le_of_ble_eq_true rfl) (lv := [(0, .ref (ad 0))]) rfl (fun κ C E => ?_)
  have hin : ∀ w ∈ wsX60, w ∈ wsX6_cloud := by decide +kernel
  refine z_iconst C (v := nI 0) dX6_cloud_0 (by decide) ?_
  refine z_istore_n C [(1, .int (nI 0)), (0, .ref (ad 0))] dX6_cloud_1 rfl (by decide) rfl ?_
  refine z_iconst C (v := nI 0) dX6_cloud_2 (by decide) ?_
  refine z_istore_n C [(2, .int (nI 0)), (1, .int (nI 0)), (0, .ref (ad 0))] dX6_cloud_3 rfl (by decide) rfl ?_
  refine z_lv (lv' := [(0, .ref (ad 0)), (1, .int (m_cloud n r 0)), (2, .int (nI 0))]) rfl ?_
  refine z_up (fun k => Z κ (MW θ ad n g r) 4 [(0, .ref (ad 0)), (1, .int (m_cloud n r k)), (2, .int (nI k))] []) (n 3) ?_ ?_ 0 (by omega)
  · refine z_iload_n C dX6_cloud_4 rfl (show zlk _ 2 = some (.int (nI (n 3))) from rfl) ?_
    refine z_aload_n C dX6_cloud_5 rfl (show zlk _ 0 = some (.ref (ad 0)) from rfl) ?_
    refine z_mg C hin 3 (by decide) (by decide +kernel) (v := .int (nI (n 3))) mf_3 dX6_cloud_6 ?_
    refine z_icmp_geT C 26 dX6_cloud_9 (by decide) (by omega) (by omega) (by omega) ?_
    refine z_iload_n C dX6_cloud_26 rfl (show zlk _ 1 = some (.int (m_cloud n r (n 3))) from rfl) ?_
    exact E _ _ _ _ (⟨rfl, rfl⟩) (rfl) dX6_cloud_27
  · intro k hk4 ih4
    refine z_iload_n C dX6_cloud_4 rfl (show zlk _ 2 = some (.int (nI k)) from rfl) ?_
    refine z_aload_n C dX6_cloud_5 rfl (show zlk _ 0 = some (.ref (ad 0)) from rfl) ?_
    refine z_mg C hin 3 (by decide) (by decide +kernel) (v := .int (nI (n 3))) mf_3 dX6_cloud_6 ?_
    refine z_icmp_geF C 26 dX6_cloud_9 (by decide) (by omega) (by omega) (by omega) ?_
    refine z_iload_n C dX6_cloud_12 rfl (show zlk _ 1 = some (.int (m_cloud n r k)) from rfl) ?_
    refine z_aload_n C dX6_cloud_13 rfl (show zlk _ 0 = some (.ref (ad 0)) from rfl) ?_
    refine z_iload_n C dX6_cloud_14 rfl (show zlk _ 2 = some (.int (nI k)) from rfl) ?_
    refine z_callVi C (As := [.int (nI k)]) (rest := [.int (m_cloud n r k)]) (c_X6_drawnAt l θ ad n g r k (by omega) (hS) (h0)) gX6_cloud_X6_drawnAt rfl 1 (by decide +kernel) (by decide) (by decide) 0 rfl rfl rfl rfl rfl (Nat.le_of_ble_eq_true rfl) dX6_cloud_15 ?_
    rintro _ _ ⟨rfl, rfl⟩
    refine z_ior C dX6_cloud_18 ?_
    refine z_istore_n C [(1, .int ((m_cloud n r k) ||| (m_dAt n r k))), (0, .ref (ad 0)), (2, .int (nI k))] dX6_cloud_19 rfl (by decide) rfl ?_
    refine z_iincN C [(2, .int (nI (k + 1))), (1, .int ((m_cloud n r k) ||| (m_dAt n r k))), (0, .ref (ad 0))] dX6_cloud_20 rfl (by decide) rfl ?_
    refine z_goto C 4 dX6_cloud_23 (by decide) ?_
    exact z_to (ih4) (rfl) (rfl)

set_option maxHeartbeats 4000000 in
set_option maxRecDepth 100000 in
theorem c_X6_likeBy (l : Launch) (θ : zH) (ad : Nat → Nat) (n : Nat → Nat) (g : Int32) (r : Nat → Nat → Int32) (j : Nat) (set : Int32) (hj : j < 6) : cI l yX6_likeBy wsX6_likeBy 1 θ [.ref (ad 0), .int (nI j), .int set] (MW θ ad n g r) (fun r0 Y => r0 = nI 30 - m_ones (r 2 j ^^^ set) 30 ∧ Y = MW θ ad n g r) := by
  refine z_cI (by decide) rfl rfl (Nat.le_of_ble_eq_true rfl) (lv := [(0, .ref (ad 0)), (1, .int (nI j)), (2, .int set)]) rfl (fun κ C E => ?_)
  have hin : ∀ w ∈ wsX60, w ∈ wsX6_likeBy := by decide +kernel
  refine z_bipush C (v := nI 30) dX6_likeBy_0 (by decide) ?_
  refine z_aload_n C dX6_likeBy_2 rfl (show zlk _ 0 = some (.ref (ad 0)) from rfl) ?_
  refine z_mg C hin 2 (by decide) (by decide +kernel) (v := .ref (ad 2)) mf_2 dX6_likeBy_3 ?_
  refine z_iload_n C dX6_likeBy_6 rfl (show zlk _ 1 = some (.int (nI j)) from rfl) ?_
  refine z_iald C (f := (r 2)) 1 mr_2 j rfl (by omega) (by decide) dX6_likeBy_7 ?_
  refine z_iload_n C dX6_likeBy_8 rfl (show zlk _ 2 = some (.int set) from rfl) ?_
  refine z_ixor C dX6_likeBy_9 ?_
  refine z_callSi C (As := [.int (((r 2) j) ^^^ set)]) (rest := [.int (nI 30)]) (c_X6_ones l θ _ (((r 2) j) ^^^ set)) gX6_likeBy_X6_ones rfl 1 (by decide +kernel) (by decide) (by decide) rfl rfl (Nat.le_of_ble_eq_true rfl) dX6_likeBy_10 ?_
  rintro _ _ ⟨rfl, rfl⟩
  refine z_isub C dX6_likeBy_13 ?_
  exact E _ _ _ _ (⟨rfl, rfl⟩) (rfl) dX6_likeBy_14

def m_its (o : Nat → Int32) (set mask : Int32) (s : Nat) : Int32 := nI 30 - m_ones ((o s ^^^ set) &&& mask) 30
def m_ml (o : Nat → Int32) (set mask : Int32) : Nat → Int32 × Int32
  | 0 => (-1, -1)
  | s + 1 => if m_its o set mask s ≤ (m_ml o set mask s).2 then m_ml o set mask s else (nI s, m_its o set mask s)
set_option maxHeartbeats 4000000 in
set_option maxRecDepth 100000 in
theorem c_X6_mostLike (l : Launch) (θ : zH) (ad : Nat → Nat) (n : Nat → Nat) (g : Int32) (r : Nat → Nat → Int32) (set mask : Int32) (hS : n 1 ≤ 6) : cI l yX6_mostLike wsX6_mostLike 1 θ [.ref (ad 0), .int set, .int mask] (MW θ ad n g r) (fun r0 Y => r0 = (m_ml (r 2) set mask (n 1)).1 ∧ Y = MW θ ad n g r) := by
  refine z_cI (by decide) rfl rfl (Nat.le_of_ble_eq_true rfl) (lv := [(0, .ref (ad 0)), (1, .int set), (2, .int mask)]) rfl (fun κ C E => ?_)
  have hin : ∀ w ∈ wsX60, w ∈ wsX6_mostLike := by decide +kernel
  refine z_iconst C (v := (-1)) dX6_mostLike_0 (by decide) ?_
  refine z_istore_n C [(3, .int (-1)), (0, .ref (ad 0)), (1, .int set), (2, .int mask)] dX6_mostLike_1 rfl (by decide) rfl ?_
  refine z_iconst C (v := (-1)) dX6_mostLike_2 (by decide) ?_
  refine z_istore C [(4, .int (-1)), (3, .int (-1)), (0, .ref (ad 0)), (1, .int set), (2, .int mask)] dX6_mostLike_3 (by decide) rfl ?_
  refine z_iconst C (v := nI 0) dX6_mostLike_5 (by decide) ?_
  refine z_istore C [(5, .int (nI 0)), (4, .int (-1)), (3, .int (-1)), (0, .ref (ad 0)), (1, .int set), (2, .int mask)] dX6_mostLike_6 (by decide) rfl ?_
  refine z_lv (lv' := [(0, .ref (ad 0)), (1, .int set), (2, .int mask), (3, .int ((m_ml (r 2) set mask 0).1)), (4, .int ((m_ml (r 2) set mask 0).2)), (5, .int (nI 0))]) rfl ?_
  refine z_up (fun k => Z κ (MW θ ad n g r) 8 [(0, .ref (ad 0)), (1, .int set), (2, .int mask), (3, .int ((m_ml (r 2) set mask k).1)), (4, .int ((m_ml (r 2) set mask k).2)), (5, .int (nI k))] []) (n 1) ?_ ?_ 0 (by omega)
  · refine z_iload C dX6_mostLike_8 (show zlk _ 5 = some (.int (nI (n 1))) from rfl) ?_
    refine z_aload_n C dX6_mostLike_10 rfl (show zlk _ 0 = some (.ref (ad 0)) from rfl) ?_
    refine z_mg C hin 1 (by decide) (by decide +kernel) (v := .int (nI (n 1))) mf_1 dX6_mostLike_11 ?_
    refine z_icmp_geT C 72 dX6_mostLike_14 (by decide) (by omega) (by omega) (by omega) ?_
    refine z_iload_n C dX6_mostLike_72 rfl (show zlk _ 3 = some (.int ((m_ml (r 2) set mask (n 1)).1)) from rfl) ?_
    exact E _ _ _ _ (⟨rfl, rfl⟩) (rfl) dX6_mostLike_73
  · intro k hk8 ih8
    refine z_iload C dX6_mostLike_8 (show zlk _ 5 = some (.int (nI k)) from rfl) ?_
    refine z_aload_n C dX6_mostLike_10 rfl (show zlk _ 0 = some (.ref (ad 0)) from rfl) ?_
    refine z_mg C hin 1 (by decide) (by decide +kernel) (v := .int (nI (n 1))) mf_1 dX6_mostLike_11 ?_
    refine z_icmp_geF C 72 dX6_mostLike_14 (by decide) (by omega) (by omega) (by omega) ?_
    refine z_bipush C (v := nI 30) dX6_mostLike_17 (by decide) ?_
    refine z_aload_n C dX6_mostLike_19 rfl (show zlk _ 0 = some (.ref (ad 0)) from rfl) ?_
    refine z_mg C hin 2 (by decide) (by decide +kernel) (v := .ref (ad 2)) mf_2 dX6_mostLike_20 ?_
    refine z_iload C dX6_mostLike_23 (show zlk _ 5 = some (.int (nI k)) from rfl) ?_
    refine z_iald C (f := (r 2)) 1 mr_2 k rfl (by omega) (by decide) dX6_mostLike_25 ?_
    refine z_iload_n C dX6_mostLike_26 rfl (show zlk _ 1 = some (.int set) from rfl) ?_
    refine z_ixor C dX6_mostLike_27 ?_
    refine z_iload_n C dX6_mostLike_28 rfl (show zlk _ 2 = some (.int mask) from rfl) ?_
    refine z_iand C dX6_mostLike_29 ?_
    refine z_callSi C (As := [.int ((((r 2) k) ^^^ set) &&& mask)]) (rest := [.int (nI 30)]) (c_X6_ones l θ _ ((((r 2) k) ^^^ set) &&& mask)) gX6_mostLike_X6_ones rfl 1 (by decide +kernel) (by decide) (by decide) rfl rfl (Nat.le_of_ble_eq_true rfl) dX6_mostLike_30 ?_
    rintro _ _ ⟨rfl, rfl⟩
    refine z_isub C dX6_mostLike_33 ?_
    refine z_top (v' := .int (m_its (r 2) set mask k)) (rfl) ?_
    refine z_istore C [(6, .int (m_its (r 2) set mask k)), (0, .ref (ad 0)), (1, .int set), (2, .int mask), (3, .int ((m_ml (r 2) set mask k).1)), (4, .int ((m_ml (r 2) set mask k).2)), (5, .int (nI k))] dX6_mostLike_34 (by decide) rfl ?_
    refine z_iload C dX6_mostLike_36 (show zlk _ 6 = some (.int (m_its (r 2) set mask k)) from rfl) ?_
    refine z_iload C dX6_mostLike_38 (show zlk _ 4 = some (.int ((m_ml (r 2) set mask k).2)) from rfl) ?_
    refine z_icmp_le C 48 dX6_mostLike_40 (by decide) (fun h40t_1 => ?_) (fun h40n_1 => ?_)
    · refine z_iload_n C dX6_mostLike_48 rfl (show zlk _ 3 = some (.int ((m_ml (r 2) set mask k).1)) from rfl) ?_
      refine z_istore_n C [(3, .int ((m_ml (r 2) set mask k).1)), (6, .int (m_its (r 2) set mask k)), (0, .ref (ad 0)), (1, .int set), (2, .int mask), (4, .int ((m_ml (r 2) set mask k).2)), (5, .int (nI k))] dX6_mostLike_49 rfl (by decide) rfl ?_
      refine z_iload C dX6_mostLike_50 (show zlk _ 6 = some (.int (m_its (r 2) set mask k)) from rfl) ?_
      refine z_iload C dX6_mostLike_52 (show zlk _ 4 = some (.int ((m_ml (r 2) set mask k).2)) from rfl) ?_
      refine z_icmp_le C 62 dX6_mostLike_54 (by decide) (fun h54t_2 => ?_) (fun h54t_2 => absurd h54t_2 (fun z => z h40t_1))
      refine z_iload C dX6_mostLike_62 (show zlk _ 4 = some (.int ((m_ml (r 2) set mask k).2)) from rfl) ?_
      refine z_istore C [(4, .int ((m_ml (r 2) set mask k).2)), (3, .int ((m_ml (r 2) set mask k).1)), (6, .int (m_its (r 2) set mask k)), (0, .ref (ad 0)), (1, .int set), (2, .int mask), (5, .int (nI k))] dX6_mostLike_64 (by decide) rfl ?_
      refine z_iincN C [(5, .int (nI (k + 1))), (4, .int ((m_ml (r 2) set mask k).2)), (3, .int ((m_ml (r 2) set mask k).1)), (6, .int (m_its (r 2) set mask k)), (0, .ref (ad 0)), (1, .int set), (2, .int mask)] dX6_mostLike_66 rfl (by decide) rfl ?_
      refine z_goto C 8 dX6_mostLike_69 (by decide) ?_
      exact z_to (ih8) (rfl) (by simp [zlk, m_ml, h40t_1, h54t_2])
    · refine z_iload C dX6_mostLike_43 (show zlk _ 5 = some (.int (nI k)) from rfl) ?_
      refine z_goto C 49 dX6_mostLike_45 (by decide) ?_
      refine z_istore_n C [(3, .int (nI k)), (6, .int (m_its (r 2) set mask k)), (0, .ref (ad 0)), (1, .int set), (2, .int mask), (4, .int ((m_ml (r 2) set mask k).2)), (5, .int (nI k))] dX6_mostLike_49 rfl (by decide) rfl ?_
      refine z_iload C dX6_mostLike_50 (show zlk _ 6 = some (.int (m_its (r 2) set mask k)) from rfl) ?_
      refine z_iload C dX6_mostLike_52 (show zlk _ 4 = some (.int ((m_ml (r 2) set mask k).2)) from rfl) ?_
      refine z_icmp_le C 62 dX6_mostLike_54 (by decide) (fun h54n_3 => absurd h54n_3 (h40n_1)) (fun h54n_3 => ?_)
      refine z_iload C dX6_mostLike_57 (show zlk _ 6 = some (.int (m_its (r 2) set mask k)) from rfl) ?_
      refine z_goto C 64 dX6_mostLike_59 (by decide) ?_
      refine z_istore C [(4, .int (m_its (r 2) set mask k)), (3, .int (nI k)), (6, .int (m_its (r 2) set mask k)), (0, .ref (ad 0)), (1, .int set), (2, .int mask), (5, .int (nI k))] dX6_mostLike_64 (by decide) rfl ?_
      refine z_iincN C [(5, .int (nI (k + 1))), (4, .int (m_its (r 2) set mask k)), (3, .int (nI k)), (6, .int (m_its (r 2) set mask k)), (0, .ref (ad 0)), (1, .int set), (2, .int mask)] dX6_mostLike_66 rfl (by decide) rfl ?_
      refine z_goto C 8 dX6_mostLike_69 (by decide) ?_
      exact z_to (ih8) (rfl) (by simp [zlk, m_ml, h40n_1, h54n_3])

def m_oft (f : Nat → Int32) (s : Int32) : Nat → Int32
  | 0 => nI 0
  | i + 1 => m_oft f s i + (if f (22 + 3 * i + 1) = s then nI 1 else nI 0)
set_option maxHeartbeats 4000000 in
set_option maxRecDepth 100000 in
theorem c_X6_often (l : Launch) (θ : zH) (ad : Nat → Nat) (n : Nat → Nat) (g : Int32) (r : Nat → Nat → Int32) (s : Int32) (cnt : Nat) (hc : r 7 21 = nI cnt) (hb : cnt ≤ 20) : cI l yX6_often wsX6_often 0 θ [.ref (ad 0), .int s] (MW θ ad n g r) (fun r0 Y => r0 = m_oft (r 7) s cnt ∧ Y = MW θ ad n g r) := by
  refine z_cI (by decide) rfl rfl (Nat.le_of_ble_eq_true rfl) (lv := [(0, .ref (ad 0)), (1, .int s)]) rfl (fun κ C E => ?_)
  have hin : ∀ w ∈ wsX60, w ∈ wsX6_often := by decide +kernel
  refine z_iconst C (v := nI 0) dX6_often_0 (by decide) ?_
  refine z_istore_n C [(2, .int (nI 0)), (0, .ref (ad 0)), (1, .int s)] dX6_often_1 rfl (by decide) rfl ?_
  refine z_iconst C (v := nI 0) dX6_often_2 (by decide) ?_
  refine z_istore_n C [(3, .int (nI 0)), (2, .int (nI 0)), (0, .ref (ad 0)), (1, .int s)] dX6_often_3 rfl (by decide) rfl ?_
  refine z_lv (lv' := [(0, .ref (ad 0)), (1, .int s), (2, .int (m_oft (r 7) s 0)), (3, .int (nI 0))]) rfl ?_
  refine z_up (fun i => Z κ (MW θ ad n g r) 4 [(0, .ref (ad 0)), (1, .int s), (2, .int (m_oft (r 7) s i)), (3, .int (nI i))] []) (cnt) ?_ ?_ 0 (by omega)
  · refine z_iload_n C dX6_often_4 rfl (show zlk _ 3 = some (.int (nI cnt)) from rfl) ?_
    refine z_aload_n C dX6_often_5 rfl (show zlk _ 0 = some (.ref (ad 0)) from rfl) ?_
    refine z_mg C hin 7 (by decide) (by decide +kernel) (v := .ref (ad 7)) mf_7 dX6_often_6 ?_
    refine z_bipush C (v := nI 21) dX6_often_9 (by decide) ?_
    refine z_iald C (f := (r 7)) 4 mr_7 21 rfl (by omega) (by decide) dX6_often_11 ?_
    refine z_top (v' := .int (nI cnt)) (by rw [hc]) ?_
    refine z_icmp_geT C 46 dX6_often_12 (by decide) (by omega) (by omega) (by omega) ?_
    refine z_iload_n C dX6_often_46 rfl (show zlk _ 2 = some (.int (m_oft (r 7) s cnt)) from rfl) ?_
    exact E _ _ _ _ (⟨rfl, rfl⟩) (rfl) dX6_often_47
  · intro i hk4 ih4
    refine z_iload_n C dX6_often_4 rfl (show zlk _ 3 = some (.int (nI i)) from rfl) ?_
    refine z_aload_n C dX6_often_5 rfl (show zlk _ 0 = some (.ref (ad 0)) from rfl) ?_
    refine z_mg C hin 7 (by decide) (by decide +kernel) (v := .ref (ad 7)) mf_7 dX6_often_6 ?_
    refine z_bipush C (v := nI 21) dX6_often_9 (by decide) ?_
    refine z_iald C (f := (r 7)) 4 mr_7 21 rfl (by omega) (by decide) dX6_often_11 ?_
    refine z_top (v' := .int (nI cnt)) (by rw [hc]) ?_
    refine z_icmp_geF C 46 dX6_often_12 (by decide) (by omega) (by omega) (by omega) ?_
    refine z_iload_n C dX6_often_15 rfl (show zlk _ 2 = some (.int (m_oft (r 7) s i)) from rfl) ?_
    refine z_aload_n C dX6_often_16 rfl (show zlk _ 0 = some (.ref (ad 0)) from rfl) ?_
    refine z_mg C hin 7 (by decide) (by decide +kernel) (v := .ref (ad 7)) mf_7 dX6_often_17 ?_
    refine z_bipush C (v := nI 22) dX6_often_20 (by decide) ?_
    refine z_iconst C (v := nI 3) dX6_often_22 (by decide) ?_
    refine z_iload_n C dX6_often_23 rfl (show zlk _ 3 = some (.int (nI i)) from rfl) ?_
    refine z_imulN C dX6_often_24 ?_
    refine z_iaddN C dX6_often_25 ?_
    refine z_iconst C (v := nI 1) dX6_often_26 (by decide) ?_
    refine z_iaddN C dX6_often_27 ?_
    refine z_iald C (f := (r 7)) 4 mr_7 (22 + (3 * i) + 1) rfl (by omega) (by decide) dX6_often_28 ?_
    refine z_iload_n C dX6_often_29 rfl (show zlk _ 1 = some (.int s) from rfl) ?_
    refine z_icmp_ne C 37 dX6_often_30 (by decide) (fun h30t_1 => ?_) (fun h30n_1 => ?_)
    · refine z_iconst C (v := nI 0) dX6_often_37 (by decide) ?_
      refine z_iadd C dX6_often_38 ?_
      refine z_istore_n C [(2, .int ((m_oft (r 7) s i) + (nI 0))), (0, .ref (ad 0)), (1, .int s), (3, .int (nI i))] dX6_often_39 rfl (by decide) rfl ?_
      refine z_iincN C [(3, .int (nI (i + 1))), (2, .int ((m_oft (r 7) s i) + (nI 0))), (0, .ref (ad 0)), (1, .int s)] dX6_often_40 rfl (by decide) rfl ?_
      refine z_goto C 4 dX6_often_43 (by decide) ?_
      exact z_to (ih4) (rfl) (by simp [zlk, m_oft, h30t_1])
    · refine z_iconst C (v := nI 1) dX6_often_33 (by decide) ?_
      refine z_goto C 38 dX6_often_34 (by decide) ?_
      refine z_iadd C dX6_often_38 ?_
      refine z_istore_n C [(2, .int ((m_oft (r 7) s i) + (nI 1))), (0, .ref (ad 0)), (1, .int s), (3, .int (nI i))] dX6_often_39 rfl (by decide) rfl ?_
      refine z_iincN C [(3, .int (nI (i + 1))), (2, .int ((m_oft (r 7) s i) + (nI 1))), (0, .ref (ad 0)), (1, .int s)] dX6_often_40 rfl (by decide) rfl ?_
      refine z_goto C 4 dX6_often_43 (by decide) ?_
      exact z_to (ih4) (rfl) (by simp [zlk, m_oft, h30n_1])

def m_vf (n : Nat → Nat) (r : Nat → Nat → Int32) (set s : Int32) : Nat → Int32
  | 0 => nI 0
  | c + 1 => m_vf n r set s c + (if (m_ml (r 2) set (m_mask (r 6 c) 30) (n 1)).1 = s then nI 1 else nI 0)
set_option maxHeartbeats 4000000 in
set_option maxRecDepth 100000 in
theorem c_X6_votesFor (l : Launch) (θ : zH) (ad : Nat → Nat) (n : Nat → Nat) (g : Int32) (r : Nat → Nat → Int32) (set s : Int32) (hS : n 1 ≤ 6) (hc : n 5 ≤ 6) : cI l yX6_votesFor wsX6_votesFor 2 θ [.ref (ad 0), .int set, .int s] (MW θ ad n g r) (fun r0 Y => r0 = m_vf n r set s (n 5) ∧ Y = MW θ ad n g r) := by
  refine z_cI (by decide) rfl rfl (Nat.le_of_ble_eq_true rfl) (lv := [(0, .ref (ad 0)), (1, .int set), (2, .int s)]) rfl (fun κ C E => ?_)
  have hin : ∀ w ∈ wsX60, w ∈ wsX6_votesFor := by decide +kernel
  refine z_iconst C (v := nI 0) dX6_votesFor_0 (by decide) ?_
  refine z_istore_n C [(3, .int (nI 0)), (0, .ref (ad 0)), (1, .int set), (2, .int s)] dX6_votesFor_1 rfl (by decide) rfl ?_
  refine z_iconst C (v := nI 0) dX6_votesFor_2 (by decide) ?_
  refine z_istore C [(4, .int (nI 0)), (3, .int (nI 0)), (0, .ref (ad 0)), (1, .int set), (2, .int s)] dX6_votesFor_3 (by decide) rfl ?_
  refine z_lv (lv' := [(0, .ref (ad 0)), (1, .int set), (2, .int s), (3, .int (m_vf n r set s 0)), (4, .int (nI 0))]) rfl ?_
  refine z_up (fun c => Z κ (MW θ ad n g r) 5 [(0, .ref (ad 0)), (1, .int set), (2, .int s), (3, .int (m_vf n r set s c)), (4, .int (nI c))] []) (n 5) ?_ ?_ 0 (by omega)
  · refine z_iload C dX6_votesFor_5 (show zlk _ 4 = some (.int (nI (n 5))) from rfl) ?_
    refine z_aload_n C dX6_votesFor_7 rfl (show zlk _ 0 = some (.ref (ad 0)) from rfl) ?_
    refine z_mg C hin 5 (by decide) (by decide +kernel) (v := .int (nI (n 5))) mf_5 dX6_votesFor_8 ?_
    refine z_icmp_geT C 47 dX6_votesFor_11 (by decide) (by omega) (by omega) (by omega) ?_
    refine z_iload_n C dX6_votesFor_47 rfl (show zlk _ 3 = some (.int (m_vf n r set s (n 5))) from rfl) ?_
    exact E _ _ _ _ (⟨rfl, rfl⟩) (rfl) dX6_votesFor_48
  · intro c hk5 ih5
    refine z_iload C dX6_votesFor_5 (show zlk _ 4 = some (.int (nI c)) from rfl) ?_
    refine z_aload_n C dX6_votesFor_7 rfl (show zlk _ 0 = some (.ref (ad 0)) from rfl) ?_
    refine z_mg C hin 5 (by decide) (by decide +kernel) (v := .int (nI (n 5))) mf_5 dX6_votesFor_8 ?_
    refine z_icmp_geF C 47 dX6_votesFor_11 (by decide) (by omega) (by omega) (by omega) ?_
    refine z_iload_n C dX6_votesFor_14 rfl (show zlk _ 3 = some (.int (m_vf n r set s c)) from rfl) ?_
    refine z_aload_n C dX6_votesFor_15 rfl (show zlk _ 0 = some (.ref (ad 0)) from rfl) ?_
    refine z_iload_n C dX6_votesFor_16 rfl (show zlk _ 1 = some (.int set) from rfl) ?_
    refine z_aload_n C dX6_votesFor_17 rfl (show zlk _ 0 = some (.ref (ad 0)) from rfl) ?_
    refine z_mg C hin 6 (by decide) (by decide +kernel) (v := .ref (ad 6)) mf_6 dX6_votesFor_18 ?_
    refine z_iload C dX6_votesFor_21 (show zlk _ 4 = some (.int (nI c)) from rfl) ?_
    refine z_iald C (f := (r 6)) 3 mr_6 c rfl (by omega) (by decide) dX6_votesFor_23 ?_
    refine z_callSi C (As := [.int ((r 6) c)]) (rest := [.int set, .ref (ad 0), .int (m_vf n r set s c)]) (c_X6_maskOf l θ _ ((r 6) c)) gX6_votesFor_X6_maskOf rfl 1 (by decide +kernel) (by decide) (by decide) rfl rfl (Nat.le_of_ble_eq_true rfl) dX6_votesFor_24 ?_
    rintro _ _ ⟨rfl, rfl⟩
    refine z_callVi C (As := [.int set, .int (m_mask ((r 6) c) 30)]) (rest := [.int (m_vf n r set s c)]) (c_X6_mostLike l θ ad n g r set (m_mask ((r 6) c) 30) (hS)) gX6_votesFor_X6_mostLike rfl 2 (by decide +kernel) (by decide) (by decide) 0 rfl rfl rfl rfl rfl (Nat.le_of_ble_eq_true rfl) dX6_votesFor_27 ?_
    rintro _ _ ⟨rfl, rfl⟩
    refine z_iload_n C dX6_votesFor_30 rfl (show zlk _ 2 = some (.int s) from rfl) ?_
    refine z_icmp_ne C 38 dX6_votesFor_31 (by decide) (fun h31t_1 => ?_) (fun h31n_1 => ?_)
    · refine z_iconst C (v := nI 0) dX6_votesFor_38 (by decide) ?_
      refine z_iadd C dX6_votesFor_39 ?_
      refine z_istore_n C [(3, .int ((m_vf n r set s c) + (nI 0))), (0, .ref (ad 0)), (1, .int set), (2, .int s), (4, .int (nI c))] dX6_votesFor_40 rfl (by decide) rfl ?_
      refine z_iincN C [(4, .int (nI (c + 1))), (3, .int ((m_vf n r set s c) + (nI 0))), (0, .ref (ad 0)), (1, .int set), (2, .int s)] dX6_votesFor_41 rfl (by decide) rfl ?_
      refine z_goto C 5 dX6_votesFor_44 (by decide) ?_
      exact z_to (ih5) (rfl) (by simp [zlk, m_vf, h31t_1])
    · refine z_iconst C (v := nI 1) dX6_votesFor_34 (by decide) ?_
      refine z_goto C 39 dX6_votesFor_35 (by decide) ?_
      refine z_iadd C dX6_votesFor_39 ?_
      refine z_istore_n C [(3, .int ((m_vf n r set s c) + (nI 1))), (0, .ref (ad 0)), (1, .int set), (2, .int s), (4, .int (nI c))] dX6_votesFor_40 rfl (by decide) rfl ?_
      refine z_iincN C [(4, .int (nI (c + 1))), (3, .int ((m_vf n r set s c) + (nI 1))), (0, .ref (ad 0)), (1, .int set), (2, .int s)] dX6_votesFor_41 rfl (by decide) rfl ?_
      refine z_goto C 5 dX6_votesFor_44 (by decide) ?_
      exact z_to (ih5) (rfl) (by simp [zlk, m_vf, h31n_1])

def m_so (set : Int32) (dt it : Nat → Int32) : Nat → Bool
  | 0 => true
  | k + 1 => m_so set dt it k && decide ((set >>> (dt k &&& 31)) &&& nI 1 = it k)
set_option maxHeartbeats 4000000 in
set_option maxRecDepth 100000 in
theorem c_X6_isSo (l : Launch) (θ : zH) (ad : Nat → Nat) (n : Nat → Nat) (g : Int32) (r : Nat → Nat → Int32) (set : Int32) (ht : n 27 ≤ 6) : cI l yX6_isSo wsX6_isSo 0 θ [.ref (ad 0), .int set] (MW θ ad n g r) (fun r0 Y => r0 = bI (m_so set (r 28) (r 29) (n 27)) ∧ Y = MW θ ad n g r) := by
  refine z_cI (by decide) rfl rfl (Nat.le_of_ble_eq_true rfl) (lv := [(0, .ref (ad 0)), (1, .int set)]) rfl (fun κ C E => ?_)
  have hin : ∀ w ∈ wsX60, w ∈ wsX6_isSo := by decide +kernel
  refine z_iconst C (v := nI 1) dX6_isSo_0 (by decide) ?_
  refine z_istore_n C [(2, .int (nI 1)), (0, .ref (ad 0)), (1, .int set)] dX6_isSo_1 rfl (by decide) rfl ?_
  refine z_iconst C (v := nI 0) dX6_isSo_2 (by decide) ?_
  refine z_istore_n C [(3, .int (nI 0)), (2, .int (nI 1)), (0, .ref (ad 0)), (1, .int set)] dX6_isSo_3 rfl (by decide) rfl ?_
  refine z_lv (lv' := [(0, .ref (ad 0)), (1, .int set), (2, .int (bI (m_so set (r 28) (r 29) 0))), (3, .int (nI 0))]) rfl ?_
  refine z_up (fun k => Z κ (MW θ ad n g r) 4 [(0, .ref (ad 0)), (1, .int set), (2, .int (bI (m_so set (r 28) (r 29) k))), (3, .int (nI k))] []) (n 27) ?_ ?_ 0 (by omega)
  · refine z_iload_n C dX6_isSo_4 rfl (show zlk _ 3 = some (.int (nI (n 27))) from rfl) ?_
    refine z_aload_n C dX6_isSo_5 rfl (show zlk _ 0 = some (.ref (ad 0)) from rfl) ?_
    refine z_mg C hin 27 (by decide) (by decide +kernel) (v := .int (nI (n 27))) mf_27 dX6_isSo_6 ?_
    refine z_icmp_geT C 47 dX6_isSo_9 (by decide) (by omega) (by omega) (by omega) ?_
    refine z_iload_n C dX6_isSo_47 rfl (show zlk _ 2 = some (.int (bI (m_so set (r 28) (r 29) (n 27)))) from rfl) ?_
    exact E _ _ _ _ (⟨rfl, rfl⟩) (bI_n _) dX6_isSo_48
  · intro k hk4 ih4
    refine z_iload_n C dX6_isSo_4 rfl (show zlk _ 3 = some (.int (nI k)) from rfl) ?_
    refine z_aload_n C dX6_isSo_5 rfl (show zlk _ 0 = some (.ref (ad 0)) from rfl) ?_
    refine z_mg C hin 27 (by decide) (by decide +kernel) (v := .int (nI (n 27))) mf_27 dX6_isSo_6 ?_
    refine z_icmp_geF C 47 dX6_isSo_9 (by decide) (by omega) (by omega) (by omega) ?_
    refine z_iload_n C dX6_isSo_12 rfl (show zlk _ 2 = some (.int (bI (m_so set (r 28) (r 29) k))) from rfl) ?_
    refine z_if_eqB C 39 dX6_isSo_13 (by decide) (fun h13t_1 => ?_) (fun h13n_1 => ?_)
    · refine z_iconst C (v := nI 0) dX6_isSo_39 (by decide) ?_
      refine z_istore_n C [(2, .int (nI 0)), (0, .ref (ad 0)), (1, .int set), (3, .int (nI k))] dX6_isSo_40 rfl (by decide) rfl ?_
      refine z_iincN C [(3, .int (nI (k + 1))), (2, .int (nI 0)), (0, .ref (ad 0)), (1, .int set)] dX6_isSo_41 rfl (by decide) rfl ?_
      refine z_goto C 4 dX6_isSo_44 (by decide) ?_
      exact z_to (ih4) (rfl) (by simp [zlk, m_so, bI, h13t_1]; try rfl)
    · refine z_iload_n C dX6_isSo_16 rfl (show zlk _ 1 = some (.int set) from rfl) ?_
      refine z_aload_n C dX6_isSo_17 rfl (show zlk _ 0 = some (.ref (ad 0)) from rfl) ?_
      refine z_mg C hin 28 (by decide) (by decide +kernel) (v := .ref (ad 28)) mf_28 dX6_isSo_18 ?_
      refine z_iload_n C dX6_isSo_21 rfl (show zlk _ 3 = some (.int (nI k)) from rfl) ?_
      refine z_iald C (f := (r 28)) 13 mr_28 k rfl (by omega) (by decide) dX6_isSo_22 ?_
      refine z_ishr C dX6_isSo_23 ?_
      refine z_iconst C (v := nI 1) dX6_isSo_24 (by decide) ?_
      refine z_iand C dX6_isSo_25 ?_
      refine z_aload_n C dX6_isSo_26 rfl (show zlk _ 0 = some (.ref (ad 0)) from rfl) ?_
      refine z_mg C hin 29 (by decide) (by decide +kernel) (v := .ref (ad 29)) mf_29 dX6_isSo_27 ?_
      refine z_iload_n C dX6_isSo_30 rfl (show zlk _ 3 = some (.int (nI k)) from rfl) ?_
      refine z_iald C (f := (r 29)) 14 mr_29 k rfl (by omega) (by decide) dX6_isSo_31 ?_
      refine z_icmp_ne C 39 dX6_isSo_32 (by decide) (fun h32t_2 => ?_) (fun h32n_2 => ?_)
      · refine z_iconst C (v := nI 0) dX6_isSo_39 (by decide) ?_
        refine z_istore_n C [(2, .int (nI 0)), (0, .ref (ad 0)), (1, .int set), (3, .int (nI k))] dX6_isSo_40 rfl (by decide) rfl ?_
        refine z_iincN C [(3, .int (nI (k + 1))), (2, .int (nI 0)), (0, .ref (ad 0)), (1, .int set)] dX6_isSo_41 rfl (by decide) rfl ?_
        refine z_goto C 4 dX6_isSo_44 (by decide) ?_
        exact z_to (ih4) (rfl) (by simp [zlk, m_so, bI, h13n_1, h32t_2]; try rfl)
      · refine z_iconst C (v := nI 1) dX6_isSo_35 (by decide) ?_
        refine z_goto C 40 dX6_isSo_36 (by decide) ?_
        refine z_istore_n C [(2, .int (nI 1)), (0, .ref (ad 0)), (1, .int set), (3, .int (nI k))] dX6_isSo_40 rfl (by decide) rfl ?_
        refine z_iincN C [(3, .int (nI (k + 1))), (2, .int (nI 1)), (0, .ref (ad 0)), (1, .int set)] dX6_isSo_41 rfl (by decide) rfl ?_
        refine z_goto C 4 dX6_isSo_44 (by decide) ?_
        exact z_to (ih4) (rfl) (by simp [zlk, m_so, bI, h13n_1, h32n_2]; try rfl)

def m_mb2 (n : Nat → Nat) (r : Nat → Nat → Int32) (s : Nat) (a : Int32) : Nat → Int32
  | 0 => a
  | x + 1 => m_mb2 n r s a x ||| (bif m_so (m_sh (r 2 s) (nI x) 30) (r 28) (r 29) (n 27) then nI 1 <<< (nI s &&& 31) else nI 0)
def m_mb (n : Nat → Nat) (r : Nat → Nat → Int32) : Nat → Int32
  | 0 => nI 0
  | s + 1 => m_mb2 n r s (m_mb n r s) 6
set_option maxHeartbeats 4000000 in
set_option maxRecDepth 100000 in
theorem c_X6_mayBe (l : Launch) (θ : zH) (ad : Nat → Nat) (n : Nat → Nat) (g : Int32) (r : Nat → Nat → Int32)  (hS : n 1 ≤ 6) (ht : n 27 ≤ 6) : cI l yX6_mayBe wsX6_mayBe 2 θ [.ref (ad 0)] (MW θ ad n g r) (fun r0 Y => r0 = m_mb n r (n 1) ∧ Y = MW θ ad n g r) := by
  refine z_cI (by decide) rfl rfl (Nat.le_of_ble_eq_true rfl) (lv := [(0, .ref (ad 0))]) rfl (fun κ C E => ?_)
  have hin : ∀ w ∈ wsX60, w ∈ wsX6_mayBe := by decide +kernel
  refine z_iconst C (v := nI 0) dX6_mayBe_0 (by decide) ?_
  refine z_istore_n C [(1, .int (nI 0)), (0, .ref (ad 0))] dX6_mayBe_1 rfl (by decide) rfl ?_
  refine z_iconst C (v := nI 0) dX6_mayBe_2 (by decide) ?_
  refine z_istore_n C [(2, .int (nI 0)), (1, .int (nI 0)), (0, .ref (ad 0))] dX6_mayBe_3 rfl (by decide) rfl ?_
  refine z_lv (lv' := [(0, .ref (ad 0)), (1, .int (m_mb n r 0)), (2, .int (nI 0))]) rfl ?_
  refine z_up (fun s => Z κ (MW θ ad n g r) 4 [(0, .ref (ad 0)), (1, .int (m_mb n r s)), (2, .int (nI s))] []) (n 1) ?_ ?_ 0 (by omega)
  · refine z_iload_n C dX6_mayBe_4 rfl (show zlk _ 2 = some (.int (nI (n 1))) from rfl) ?_
    refine z_aload_n C dX6_mayBe_5 rfl (show zlk _ 0 = some (.ref (ad 0)) from rfl) ?_
    refine z_mg C hin 1 (by decide) (by decide +kernel) (v := .int (nI (n 1))) mf_1 dX6_mayBe_6 ?_
    refine z_icmp_geT C 59 dX6_mayBe_9 (by decide) (by omega) (by omega) (by omega) ?_
    refine z_iload_n C dX6_mayBe_59 rfl (show zlk _ 1 = some (.int (m_mb n r (n 1))) from rfl) ?_
    exact E _ _ _ _ (⟨rfl, rfl⟩) (rfl) dX6_mayBe_60
  · intro s hk4 ih4
    refine z_iload_n C dX6_mayBe_4 rfl (show zlk _ 2 = some (.int (nI s)) from rfl) ?_
    refine z_aload_n C dX6_mayBe_5 rfl (show zlk _ 0 = some (.ref (ad 0)) from rfl) ?_
    refine z_mg C hin 1 (by decide) (by decide +kernel) (v := .int (nI (n 1))) mf_1 dX6_mayBe_6 ?_
    refine z_icmp_geF C 59 dX6_mayBe_9 (by decide) (by omega) (by omega) (by omega) ?_
    refine z_iconst C (v := nI 0) dX6_mayBe_12 (by decide) ?_
    refine z_istore_n C [(3, .int (nI 0)), (0, .ref (ad 0)), (1, .int (m_mb n r s)), (2, .int (nI s))] dX6_mayBe_13 rfl (by decide) rfl ?_
    refine z_lv (lv' := [(0, .ref (ad 0)), (1, .int (m_mb2 n r s (m_mb n r s) 0)), (2, .int (nI s)), (3, .int (nI 0))]) rfl ?_
    refine z_up (fun x => Z κ (MW θ ad n g r) 14 [(0, .ref (ad 0)), (1, .int (m_mb2 n r s (m_mb n r s) x)), (2, .int (nI s)), (3, .int (nI x))] []) (6) ?_ ?_ 0 (by omega)
    · refine z_iload_n C dX6_mayBe_14 rfl (show zlk _ 3 = some (.int (nI 6)) from rfl) ?_
      refine z_bipush C (v := nI 6) dX6_mayBe_15 (by decide) ?_
      refine z_icmp_geT C 53 dX6_mayBe_17 (by decide) (by omega) (by omega) (by omega) ?_
      refine z_iincN C [(2, .int (nI (s + 1))), (0, .ref (ad 0)), (1, .int (m_mb2 n r s (m_mb n r s) 6)), (3, .int (nI 6))] dX6_mayBe_53 rfl (by decide) rfl ?_
      refine z_goto C 4 dX6_mayBe_56 (by decide) ?_
      exact z_to (ih4) (rfl) (rfl)
    · intro x hk14 ih14
      refine z_iload_n C dX6_mayBe_14 rfl (show zlk _ 3 = some (.int (nI x)) from rfl) ?_
      refine z_bipush C (v := nI 6) dX6_mayBe_15 (by decide) ?_
      refine z_icmp_geF C 53 dX6_mayBe_17 (by decide) (by omega) (by omega) (by omega) ?_
      refine z_iload_n C dX6_mayBe_20 rfl (show zlk _ 1 = some (.int (m_mb2 n r s (m_mb n r s) x)) from rfl) ?_
      refine z_aload_n C dX6_mayBe_21 rfl (show zlk _ 0 = some (.ref (ad 0)) from rfl) ?_
      refine z_aload_n C dX6_mayBe_22 rfl (show zlk _ 0 = some (.ref (ad 0)) from rfl) ?_
      refine z_mg C hin 2 (by decide) (by decide +kernel) (v := .ref (ad 2)) mf_2 dX6_mayBe_23 ?_
      refine z_iload_n C dX6_mayBe_26 rfl (show zlk _ 2 = some (.int (nI s)) from rfl) ?_
      refine z_iald C (f := (r 2)) 1 mr_2 s rfl (by omega) (by decide) dX6_mayBe_27 ?_
      refine z_iload_n C dX6_mayBe_28 rfl (show zlk _ 3 = some (.int (nI x)) from rfl) ?_
      refine z_callSi C (As := [.int ((r 2) s), .int (nI x)]) (rest := [.ref (ad 0), .int (m_mb2 n r s (m_mb n r s) x)]) (c_X6_shifted l θ _ ((r 2) s) (nI x)) gX6_mayBe_X6_shifted rfl 2 (by decide +kernel) (by decide) (by decide) rfl rfl (Nat.le_of_ble_eq_true rfl) dX6_mayBe_29 ?_
      rintro _ _ ⟨rfl, rfl⟩
      refine z_callVi C (As := [.int (m_sh ((r 2) s) (nI x) 30)]) (rest := [.int (m_mb2 n r s (m_mb n r s) x)]) (c_X6_isSo l θ ad n g r (m_sh ((r 2) s) (nI x) 30) (ht)) gX6_mayBe_X6_isSo rfl 1 (by decide +kernel) (by decide) (by decide) 0 rfl rfl rfl rfl rfl (Nat.le_of_ble_eq_true rfl) dX6_mayBe_32 ?_
      rintro _ _ ⟨rfl, rfl⟩
      refine z_if_eqB C 44 dX6_mayBe_35 (by decide) (fun h35t_1 => ?_) (fun h35n_1 => ?_)
      · refine z_iconst C (v := nI 0) dX6_mayBe_44 (by decide) ?_
        refine z_ior C dX6_mayBe_45 ?_
        refine z_istore_n C [(1, .int ((m_mb2 n r s (m_mb n r s) x) ||| (nI 0))), (0, .ref (ad 0)), (2, .int (nI s)), (3, .int (nI x))] dX6_mayBe_46 rfl (by decide) rfl ?_
        refine z_iincN C [(3, .int (nI (x + 1))), (1, .int ((m_mb2 n r s (m_mb n r s) x) ||| (nI 0))), (0, .ref (ad 0)), (2, .int (nI s))] dX6_mayBe_47 rfl (by decide) rfl ?_
        refine z_goto C 14 dX6_mayBe_50 (by decide) ?_
        exact z_to (ih14) (rfl) (by simp [zlk, m_mb2, h35t_1])
      · refine z_iconst C (v := nI 1) dX6_mayBe_38 (by decide) ?_
        refine z_iload_n C dX6_mayBe_39 rfl (show zlk _ 2 = some (.int (nI s)) from rfl) ?_
        refine z_ishl C dX6_mayBe_40 ?_
        refine z_goto C 45 dX6_mayBe_41 (by decide) ?_
        refine z_ior C dX6_mayBe_45 ?_
        refine z_istore_n C [(1, .int ((m_mb2 n r s (m_mb n r s) x) ||| ((nI 1) <<< ((nI s) &&& 31)))), (0, .ref (ad 0)), (2, .int (nI s)), (3, .int (nI x))] dX6_mayBe_46 rfl (by decide) rfl ?_
        refine z_iincN C [(3, .int (nI (x + 1))), (1, .int ((m_mb2 n r s (m_mb n r s) x) ||| ((nI 1) <<< ((nI s) &&& 31)))), (0, .ref (ad 0)), (2, .int (nI s))] dX6_mayBe_47 rfl (by decide) rfl ?_
        refine z_goto C 14 dX6_mayBe_50 (by decide) ?_
        exact z_to (ih14) (rfl) (by simp [zlk, m_mb2, h35n_1])

