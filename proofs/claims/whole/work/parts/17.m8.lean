def m_hz (f : Nat → Int32) : Nat → Nat → Int32
  | 0 => f
  | k + 1 => upd (m_hz f k) k (nI 0)
def m_ha (f : Nat → Int32) (set : Int32) : Nat → Nat → Int32
  | 0 => f
  | k + 1 => upd (m_ha f set k) k (m_ha f set k k + ((set >>> (nI k &&& 31)) &&& nI 1))
def m_as (r : Nat → Nat → Int32) (b : Nat) : Int32 := m_sh (r 2 (b / 6)) (nI (b % 6)) 30
def m_ao (n : Nat → Nat) (r : Nat → Nat → Int32) : Nat → Nat × (Nat → Int32)
  | 0 => (0, m_hz (r 30) 30)
  | b + 1 => if m_so (m_as r b) (r 28) (r 29) (n 27) = true then ((m_ao n r b).1 + 1, m_ha (m_ao n r b).2 (m_as r b) 30) else m_ao n r b
theorem m_ao_le (n : Nat → Nat) (r : Nat → Nat → Int32) : ∀ b, (m_ao n r b).1 ≤ b
  | 0 => by simp [m_ao]
  | b + 1 => by
    have := m_ao_le n r b
    unfold m_ao
    split <;> (try dsimp only) <;> omega
def m_pt (h : Nat → Int32) (m : Nat) (k : Nat) : Int32 := if h k ≤ nI m - h k then nI m - h k else h k
def m_ab (h : Nat → Int32) (m : Nat) : Nat → Int32 × Int32
  | 0 => ((-1), nI m)
  | k + 1 => if (m_ab h m k).2 ≤ m_pt h m k then m_ab h m k else (nI k, m_pt h m k)
set_option maxHeartbeats 4000000 in
set_option maxRecDepth 100000 in
theorem c_X6_ask (l : Launch) (θ : zH) (ad : Nat → Nat) (n : Nat → Nat) (g : Int32) (r : Nat → Nat → Int32)  (hS : n 1 ≤ 6) (ht : n 27 ≤ 6) : cI l yX6_ask wsX6_ask 2 θ [.ref (ad 0)] (MW θ ad n g r) (fun r0 Y => r0 = (m_ab ((m_ao n r (6 * n 1)).2) ((m_ao n r (6 * n 1)).1) 30).1 ∧ Y = MW θ ad n g (rv (r 2) (r 4) (r 6) (r 7) (r 9) (r 17) (r 19) (r 21) (r 23) (r 24) (r 25) (r 26) (r 28) (r 29) ((m_ao n r (6 * n 1)).2) (r 31) (r 32))) := by
  refine z_cI (by decide) rfl rfl (Nat.le_of_ble_eq_true rfl) (lv := [(0, .ref (ad 0))]) rfl (fun κ C E => ?_)
  have hin : ∀ w ∈ wsX60, w ∈ wsX6_ask := by decide +kernel
  refine z_iconst C (v := nI 0) dX6_ask_0 (by decide) ?_
  refine z_istore_n C [(1, .int (nI 0)), (0, .ref (ad 0))] dX6_ask_1 rfl (by decide) rfl ?_
  refine z_iconst C (v := nI 0) dX6_ask_2 (by decide) ?_
  refine z_istore_n C [(2, .int (nI 0)), (1, .int (nI 0)), (0, .ref (ad 0))] dX6_ask_3 rfl (by decide) rfl ?_
  refine z_lv (lv' := [(0, .ref (ad 0)), (1, .int (nI 0)), (2, .int (nI 0))]) rfl ?_
  refine z_X (Y := MW θ ad n g (rv (r 2) (r 4) (r 6) (r 7) (r 9) (r 17) (r 19) (r 21) (r 23) (r 24) (r 25) (r 26) (r 28) (r 29) (m_hz (r 30) 0) (r 31) (r 32))) (mw_eq rfl rfl rfl rfl rfl rfl rfl rfl rfl rfl rfl rfl rfl rfl rfl rfl rfl rfl rfl rfl rfl rfl rfl rfl rfl rfl rfl rfl rfl rfl rfl rfl) ?_
  refine z_up (fun k => Z κ (MW θ ad n g (rv (r 2) (r 4) (r 6) (r 7) (r 9) (r 17) (r 19) (r 21) (r 23) (r 24) (r 25) (r 26) (r 28) (r 29) (m_hz (r 30) k) (r 31) (r 32))) 4 [(0, .ref (ad 0)), (1, .int (nI 0)), (2, .int (nI k))] []) (30) ?_ ?_ 0 (by omega)
  · refine z_iload_n C dX6_ask_4 rfl (show zlk _ 2 = some (.int (nI 30)) from rfl) ?_
    refine z_bipush C (v := nI 30) dX6_ask_5 (by decide) ?_
    refine z_icmp_geT C 23 dX6_ask_7 (by decide) (by omega) (by omega) (by omega) ?_
    refine z_iconst C (v := nI 0) dX6_ask_23 (by decide) ?_
    refine z_istore_n C [(2, .int (nI 0)), (0, .ref (ad 0)), (1, .int (nI 0))] dX6_ask_24 rfl (by decide) rfl ?_
    refine z_lv (lv' := [(0, .ref (ad 0)), (1, .int (nI ((m_ao n r 0).1))), (2, .int (nI 0))]) rfl ?_
    refine z_X (Y := MW θ ad n g (rv (r 2) (r 4) (r 6) (r 7) (r 9) (r 17) (r 19) (r 21) (r 23) (r 24) (r 25) (r 26) (r 28) (r 29) ((m_ao n r 0).2) (r 31) (r 32))) (mw_eq rfl rfl rfl rfl rfl rfl rfl rfl rfl rfl rfl rfl rfl rfl rfl rfl rfl rfl rfl rfl rfl rfl rfl rfl rfl rfl rfl rfl rfl rfl rfl rfl) ?_
    refine z_up (fun b => Z κ (MW θ ad n g (rv (r 2) (r 4) (r 6) (r 7) (r 9) (r 17) (r 19) (r 21) (r 23) (r 24) (r 25) (r 26) (r 28) (r 29) ((m_ao n r b).2) (r 31) (r 32))) 25 [(0, .ref (ad 0)), (1, .int (nI ((m_ao n r b).1))), (2, .int (nI b))] []) (6 * n 1) ?_ ?_ 0 (by omega)
    · refine z_iload_n C dX6_ask_25 rfl (show zlk _ 2 = some (.int (nI (6 * n 1))) from rfl) ?_
      refine z_bipush C (v := nI 6) dX6_ask_26 (by decide) ?_
      refine z_aload_n C dX6_ask_28 rfl (show zlk _ 0 = some (.ref (ad 0)) from rfl) ?_
      refine z_mg C hin 1 (by decide) (by decide +kernel) (v := .int (nI (n 1))) mf_1 dX6_ask_29 ?_
      refine z_imulN C dX6_ask_32 ?_
      refine z_icmp_geT C 102 dX6_ask_33 (by decide) (by omega) (by omega) (by omega) ?_
      refine z_iconst C (v := (-1)) dX6_ask_102 (by decide) ?_
      refine z_istore_n C [(2, .int (-1)), (0, .ref (ad 0)), (1, .int (nI ((m_ao n r (6 * n 1)).1)))] dX6_ask_103 rfl (by decide) rfl ?_
      refine z_iload_n C dX6_ask_104 rfl (show zlk _ 1 = some (.int (nI ((m_ao n r (6 * n 1)).1))) from rfl) ?_
      refine z_istore_n C [(3, .int (nI ((m_ao n r (6 * n 1)).1))), (2, .int (-1)), (0, .ref (ad 0)), (1, .int (nI ((m_ao n r (6 * n 1)).1)))] dX6_ask_105 rfl (by decide) rfl ?_
      refine z_iconst C (v := nI 0) dX6_ask_106 (by decide) ?_
      refine z_istore C [(4, .int (nI 0)), (3, .int (nI ((m_ao n r (6 * n 1)).1))), (2, .int (-1)), (0, .ref (ad 0)), (1, .int (nI ((m_ao n r (6 * n 1)).1)))] dX6_ask_107 (by decide) rfl ?_
      refine z_lv (lv' := [(0, .ref (ad 0)), (1, .int (nI ((m_ao n r (6 * n 1)).1))), (2, .int ((m_ab ((m_ao n r (6 * n 1)).2) ((m_ao n r (6 * n 1)).1) 0).1)), (3, .int ((m_ab ((m_ao n r (6 * n 1)).2) ((m_ao n r (6 * n 1)).1) 0).2)), (4, .int (nI 0))]) rfl ?_
      refine z_up (fun k => Z κ (MW θ ad n g (rv (r 2) (r 4) (r 6) (r 7) (r 9) (r 17) (r 19) (r 21) (r 23) (r 24) (r 25) (r 26) (r 28) (r 29) ((m_ao n r (6 * n 1)).2) (r 31) (r 32))) 109 [(0, .ref (ad 0)), (1, .int (nI ((m_ao n r (6 * n 1)).1))), (2, .int ((m_ab ((m_ao n r (6 * n 1)).2) ((m_ao n r (6 * n 1)).1) k).1)), (3, .int ((m_ab ((m_ao n r (6 * n 1)).2) ((m_ao n r (6 * n 1)).1) k).2)), (4, .int (nI k))] []) (30) ?_ ?_ 0 (by omega)
      · refine z_iload C dX6_ask_109 (show zlk _ 4 = some (.int (nI 30)) from rfl) ?_
        refine z_bipush C (v := nI 30) dX6_ask_111 (by decide) ?_
        refine z_icmp_geT C 188 dX6_ask_113 (by decide) (by omega) (by omega) (by omega) ?_
        refine z_iload_n C dX6_ask_188 rfl (show zlk _ 2 = some (.int ((m_ab ((m_ao n r (6 * n 1)).2) ((m_ao n r (6 * n 1)).1) 30).1)) from rfl) ?_
        exact E _ _ _ _ (⟨rfl, (mw_eq rfl rfl rfl rfl rfl rfl rfl rfl rfl rfl rfl rfl rfl rfl rfl rfl rfl rfl rfl rfl rfl rfl rfl rfl rfl rfl rfl rfl rfl rfl rfl rfl)⟩) (rfl) dX6_ask_189
      · intro k hk109 ih109
        refine z_iload C dX6_ask_109 (show zlk _ 4 = some (.int (nI k)) from rfl) ?_
        refine z_bipush C (v := nI 30) dX6_ask_111 (by decide) ?_
        refine z_icmp_geF C 188 dX6_ask_113 (by decide) (by omega) (by omega) (by omega) ?_
        refine z_aload_n C dX6_ask_116 rfl (show zlk _ 0 = some (.ref (ad 0)) from rfl) ?_
        refine z_mg C hin 30 (by decide) (by decide +kernel) (v := .ref (ad 30)) mf_30 dX6_ask_117 ?_
        refine z_iload C dX6_ask_120 (show zlk _ 4 = some (.int (nI k)) from rfl) ?_
        refine z_iald C (f := ((m_ao n r (6 * n 1)).2)) 15 mrv_30 k rfl (by omega) (by decide) dX6_ask_122 ?_
        refine z_iload_n C dX6_ask_123 rfl (show zlk _ 1 = some (.int (nI ((m_ao n r (6 * n 1)).1))) from rfl) ?_
        refine z_aload_n C dX6_ask_124 rfl (show zlk _ 0 = some (.ref (ad 0)) from rfl) ?_
        refine z_mg C hin 30 (by decide) (by decide +kernel) (v := .ref (ad 30)) mf_30 dX6_ask_125 ?_
        refine z_iload C dX6_ask_128 (show zlk _ 4 = some (.int (nI k)) from rfl) ?_
        refine z_iald C (f := ((m_ao n r (6 * n 1)).2)) 15 mrv_30 k rfl (by omega) (by decide) dX6_ask_130 ?_
        refine z_isub C dX6_ask_131 ?_
        refine z_icmp_le C 145 dX6_ask_132 (by decide) (fun h132t_1 => ?_) (fun h132n_1 => ?_)
        · refine z_iload_n C dX6_ask_145 rfl (show zlk _ 1 = some (.int (nI ((m_ao n r (6 * n 1)).1))) from rfl) ?_
          refine z_aload_n C dX6_ask_146 rfl (show zlk _ 0 = some (.ref (ad 0)) from rfl) ?_
          refine z_mg C hin 30 (by decide) (by decide +kernel) (v := .ref (ad 30)) mf_30 dX6_ask_147 ?_
          refine z_iload C dX6_ask_150 (show zlk _ 4 = some (.int (nI k)) from rfl) ?_
          refine z_iald C (f := ((m_ao n r (6 * n 1)).2)) 15 mrv_30 k rfl (by omega) (by decide) dX6_ask_152 ?_
          refine z_isub C dX6_ask_153 ?_
          refine z_top (v' := .int (m_pt ((m_ao n r (6 * n 1)).2) ((m_ao n r (6 * n 1)).1) k)) (by unfold m_pt; rw [if_pos h132t_1]) ?_
          refine z_istore C [(5, .int (m_pt ((m_ao n r (6 * n 1)).2) ((m_ao n r (6 * n 1)).1) k)), (0, .ref (ad 0)), (1, .int (nI ((m_ao n r (6 * n 1)).1))), (2, .int ((m_ab ((m_ao n r (6 * n 1)).2) ((m_ao n r (6 * n 1)).1) k).1)), (3, .int ((m_ab ((m_ao n r (6 * n 1)).2) ((m_ao n r (6 * n 1)).1) k).2)), (4, .int (nI k))] dX6_ask_154 (by decide) rfl ?_
          refine z_iload C dX6_ask_156 (show zlk _ 5 = some (.int (m_pt ((m_ao n r (6 * n 1)).2) ((m_ao n r (6 * n 1)).1) k)) from rfl) ?_
          refine z_iload_n C dX6_ask_158 rfl (show zlk _ 3 = some (.int ((m_ab ((m_ao n r (6 * n 1)).2) ((m_ao n r (6 * n 1)).1) k).2)) from rfl) ?_
          refine z_icmp_ge C 167 dX6_ask_159 (by decide) (fun h159t_2 => ?_) (fun h159n_2 => ?_)
          · refine z_iload_n C dX6_ask_167 rfl (show zlk _ 2 = some (.int ((m_ab ((m_ao n r (6 * n 1)).2) ((m_ao n r (6 * n 1)).1) k).1)) from rfl) ?_
            refine z_istore_n C [(2, .int ((m_ab ((m_ao n r (6 * n 1)).2) ((m_ao n r (6 * n 1)).1) k).1)), (5, .int (m_pt ((m_ao n r (6 * n 1)).2) ((m_ao n r (6 * n 1)).1) k)), (0, .ref (ad 0)), (1, .int (nI ((m_ao n r (6 * n 1)).1))), (3, .int ((m_ab ((m_ao n r (6 * n 1)).2) ((m_ao n r (6 * n 1)).1) k).2)), (4, .int (nI k))] dX6_ask_168 rfl (by decide) rfl ?_
            refine z_iload C dX6_ask_169 (show zlk _ 5 = some (.int (m_pt ((m_ao n r (6 * n 1)).2) ((m_ao n r (6 * n 1)).1) k)) from rfl) ?_
            refine z_iload_n C dX6_ask_171 rfl (show zlk _ 3 = some (.int ((m_ab ((m_ao n r (6 * n 1)).2) ((m_ao n r (6 * n 1)).1) k).2)) from rfl) ?_
            refine z_icmp_ge C 180 dX6_ask_172 (by decide) (fun h172t_3 => ?_) (fun h172t_3 => absurd h172t_3 (fun z => z h159t_2))
            refine z_iload_n C dX6_ask_180 rfl (show zlk _ 3 = some (.int ((m_ab ((m_ao n r (6 * n 1)).2) ((m_ao n r (6 * n 1)).1) k).2)) from rfl) ?_
            refine z_istore_n C [(3, .int ((m_ab ((m_ao n r (6 * n 1)).2) ((m_ao n r (6 * n 1)).1) k).2)), (2, .int ((m_ab ((m_ao n r (6 * n 1)).2) ((m_ao n r (6 * n 1)).1) k).1)), (5, .int (m_pt ((m_ao n r (6 * n 1)).2) ((m_ao n r (6 * n 1)).1) k)), (0, .ref (ad 0)), (1, .int (nI ((m_ao n r (6 * n 1)).1))), (4, .int (nI k))] dX6_ask_181 rfl (by decide) rfl ?_
            refine z_iincN C [(4, .int (nI (k + 1))), (3, .int ((m_ab ((m_ao n r (6 * n 1)).2) ((m_ao n r (6 * n 1)).1) k).2)), (2, .int ((m_ab ((m_ao n r (6 * n 1)).2) ((m_ao n r (6 * n 1)).1) k).1)), (5, .int (m_pt ((m_ao n r (6 * n 1)).2) ((m_ao n r (6 * n 1)).1) k)), (0, .ref (ad 0)), (1, .int (nI ((m_ao n r (6 * n 1)).1)))] dX6_ask_182 rfl (by decide) rfl ?_
            refine z_goto C 109 dX6_ask_185 (by decide) ?_
            exact z_to (ih109) (rfl) (by simp [zlk, m_ab, h132t_1, h159t_2, h172t_3])
          · refine z_iload C dX6_ask_162 (show zlk _ 4 = some (.int (nI k)) from rfl) ?_
            refine z_goto C 168 dX6_ask_164 (by decide) ?_
            refine z_istore_n C [(2, .int (nI k)), (5, .int (m_pt ((m_ao n r (6 * n 1)).2) ((m_ao n r (6 * n 1)).1) k)), (0, .ref (ad 0)), (1, .int (nI ((m_ao n r (6 * n 1)).1))), (3, .int ((m_ab ((m_ao n r (6 * n 1)).2) ((m_ao n r (6 * n 1)).1) k).2)), (4, .int (nI k))] dX6_ask_168 rfl (by decide) rfl ?_
            refine z_iload C dX6_ask_169 (show zlk _ 5 = some (.int (m_pt ((m_ao n r (6 * n 1)).2) ((m_ao n r (6 * n 1)).1) k)) from rfl) ?_
            refine z_iload_n C dX6_ask_171 rfl (show zlk _ 3 = some (.int ((m_ab ((m_ao n r (6 * n 1)).2) ((m_ao n r (6 * n 1)).1) k).2)) from rfl) ?_
            refine z_icmp_ge C 180 dX6_ask_172 (by decide) (fun h172n_4 => absurd h172n_4 (h159n_2)) (fun h172n_4 => ?_)
            refine z_iload C dX6_ask_175 (show zlk _ 5 = some (.int (m_pt ((m_ao n r (6 * n 1)).2) ((m_ao n r (6 * n 1)).1) k)) from rfl) ?_
            refine z_goto C 181 dX6_ask_177 (by decide) ?_
            refine z_istore_n C [(3, .int (m_pt ((m_ao n r (6 * n 1)).2) ((m_ao n r (6 * n 1)).1) k)), (2, .int (nI k)), (5, .int (m_pt ((m_ao n r (6 * n 1)).2) ((m_ao n r (6 * n 1)).1) k)), (0, .ref (ad 0)), (1, .int (nI ((m_ao n r (6 * n 1)).1))), (4, .int (nI k))] dX6_ask_181 rfl (by decide) rfl ?_
            refine z_iincN C [(4, .int (nI (k + 1))), (3, .int (m_pt ((m_ao n r (6 * n 1)).2) ((m_ao n r (6 * n 1)).1) k)), (2, .int (nI k)), (5, .int (m_pt ((m_ao n r (6 * n 1)).2) ((m_ao n r (6 * n 1)).1) k)), (0, .ref (ad 0)), (1, .int (nI ((m_ao n r (6 * n 1)).1)))] dX6_ask_182 rfl (by decide) rfl ?_
            refine z_goto C 109 dX6_ask_185 (by decide) ?_
            exact z_to (ih109) (rfl) (by simp [zlk, m_ab, h132t_1, h159n_2, h172n_4])
        · refine z_aload_n C dX6_ask_135 rfl (show zlk _ 0 = some (.ref (ad 0)) from rfl) ?_
          refine z_mg C hin 30 (by decide) (by decide +kernel) (v := .ref (ad 30)) mf_30 dX6_ask_136 ?_
          refine z_iload C dX6_ask_139 (show zlk _ 4 = some (.int (nI k)) from rfl) ?_
          refine z_iald C (f := ((m_ao n r (6 * n 1)).2)) 15 mrv_30 k rfl (by omega) (by decide) dX6_ask_141 ?_
          refine z_goto C 154 dX6_ask_142 (by decide) ?_
          refine z_top (v' := .int (m_pt ((m_ao n r (6 * n 1)).2) ((m_ao n r (6 * n 1)).1) k)) (by unfold m_pt; rw [if_neg h132n_1]) ?_
          refine z_istore C [(5, .int (m_pt ((m_ao n r (6 * n 1)).2) ((m_ao n r (6 * n 1)).1) k)), (0, .ref (ad 0)), (1, .int (nI ((m_ao n r (6 * n 1)).1))), (2, .int ((m_ab ((m_ao n r (6 * n 1)).2) ((m_ao n r (6 * n 1)).1) k).1)), (3, .int ((m_ab ((m_ao n r (6 * n 1)).2) ((m_ao n r (6 * n 1)).1) k).2)), (4, .int (nI k))] dX6_ask_154 (by decide) rfl ?_
          refine z_iload C dX6_ask_156 (show zlk _ 5 = some (.int (m_pt ((m_ao n r (6 * n 1)).2) ((m_ao n r (6 * n 1)).1) k)) from rfl) ?_
          refine z_iload_n C dX6_ask_158 rfl (show zlk _ 3 = some (.int ((m_ab ((m_ao n r (6 * n 1)).2) ((m_ao n r (6 * n 1)).1) k).2)) from rfl) ?_
          refine z_icmp_ge C 167 dX6_ask_159 (by decide) (fun h159t_5 => ?_) (fun h159n_5 => ?_)
          · refine z_iload_n C dX6_ask_167 rfl (show zlk _ 2 = some (.int ((m_ab ((m_ao n r (6 * n 1)).2) ((m_ao n r (6 * n 1)).1) k).1)) from rfl) ?_
            refine z_istore_n C [(2, .int ((m_ab ((m_ao n r (6 * n 1)).2) ((m_ao n r (6 * n 1)).1) k).1)), (5, .int (m_pt ((m_ao n r (6 * n 1)).2) ((m_ao n r (6 * n 1)).1) k)), (0, .ref (ad 0)), (1, .int (nI ((m_ao n r (6 * n 1)).1))), (3, .int ((m_ab ((m_ao n r (6 * n 1)).2) ((m_ao n r (6 * n 1)).1) k).2)), (4, .int (nI k))] dX6_ask_168 rfl (by decide) rfl ?_
            refine z_iload C dX6_ask_169 (show zlk _ 5 = some (.int (m_pt ((m_ao n r (6 * n 1)).2) ((m_ao n r (6 * n 1)).1) k)) from rfl) ?_
            refine z_iload_n C dX6_ask_171 rfl (show zlk _ 3 = some (.int ((m_ab ((m_ao n r (6 * n 1)).2) ((m_ao n r (6 * n 1)).1) k).2)) from rfl) ?_
            refine z_icmp_ge C 180 dX6_ask_172 (by decide) (fun h172t_6 => ?_) (fun h172t_6 => absurd h172t_6 (fun z => z h159t_5))
            refine z_iload_n C dX6_ask_180 rfl (show zlk _ 3 = some (.int ((m_ab ((m_ao n r (6 * n 1)).2) ((m_ao n r (6 * n 1)).1) k).2)) from rfl) ?_
            refine z_istore_n C [(3, .int ((m_ab ((m_ao n r (6 * n 1)).2) ((m_ao n r (6 * n 1)).1) k).2)), (2, .int ((m_ab ((m_ao n r (6 * n 1)).2) ((m_ao n r (6 * n 1)).1) k).1)), (5, .int (m_pt ((m_ao n r (6 * n 1)).2) ((m_ao n r (6 * n 1)).1) k)), (0, .ref (ad 0)), (1, .int (nI ((m_ao n r (6 * n 1)).1))), (4, .int (nI k))] dX6_ask_181 rfl (by decide) rfl ?_
            refine z_iincN C [(4, .int (nI (k + 1))), (3, .int ((m_ab ((m_ao n r (6 * n 1)).2) ((m_ao n r (6 * n 1)).1) k).2)), (2, .int ((m_ab ((m_ao n r (6 * n 1)).2) ((m_ao n r (6 * n 1)).1) k).1)), (5, .int (m_pt ((m_ao n r (6 * n 1)).2) ((m_ao n r (6 * n 1)).1) k)), (0, .ref (ad 0)), (1, .int (nI ((m_ao n r (6 * n 1)).1)))] dX6_ask_182 rfl (by decide) rfl ?_
            refine z_goto C 109 dX6_ask_185 (by decide) ?_
            exact z_to (ih109) (rfl) (by simp [zlk, m_ab, h132n_1, h159t_5, h172t_6])
          · refine z_iload C dX6_ask_162 (show zlk _ 4 = some (.int (nI k)) from rfl) ?_
            refine z_goto C 168 dX6_ask_164 (by decide) ?_
            refine z_istore_n C [(2, .int (nI k)), (5, .int (m_pt ((m_ao n r (6 * n 1)).2) ((m_ao n r (6 * n 1)).1) k)), (0, .ref (ad 0)), (1, .int (nI ((m_ao n r (6 * n 1)).1))), (3, .int ((m_ab ((m_ao n r (6 * n 1)).2) ((m_ao n r (6 * n 1)).1) k).2)), (4, .int (nI k))] dX6_ask_168 rfl (by decide) rfl ?_
            refine z_iload C dX6_ask_169 (show zlk _ 5 = some (.int (m_pt ((m_ao n r (6 * n 1)).2) ((m_ao n r (6 * n 1)).1) k)) from rfl) ?_
            refine z_iload_n C dX6_ask_171 rfl (show zlk _ 3 = some (.int ((m_ab ((m_ao n r (6 * n 1)).2) ((m_ao n r (6 * n 1)).1) k).2)) from rfl) ?_
            refine z_icmp_ge C 180 dX6_ask_172 (by decide) (fun h172n_7 => absurd h172n_7 (h159n_5)) (fun h172n_7 => ?_)
            refine z_iload C dX6_ask_175 (show zlk _ 5 = some (.int (m_pt ((m_ao n r (6 * n 1)).2) ((m_ao n r (6 * n 1)).1) k)) from rfl) ?_
            refine z_goto C 181 dX6_ask_177 (by decide) ?_
            refine z_istore_n C [(3, .int (m_pt ((m_ao n r (6 * n 1)).2) ((m_ao n r (6 * n 1)).1) k)), (2, .int (nI k)), (5, .int (m_pt ((m_ao n r (6 * n 1)).2) ((m_ao n r (6 * n 1)).1) k)), (0, .ref (ad 0)), (1, .int (nI ((m_ao n r (6 * n 1)).1))), (4, .int (nI k))] dX6_ask_181 rfl (by decide) rfl ?_
            refine z_iincN C [(4, .int (nI (k + 1))), (3, .int (m_pt ((m_ao n r (6 * n 1)).2) ((m_ao n r (6 * n 1)).1) k)), (2, .int (nI k)), (5, .int (m_pt ((m_ao n r (6 * n 1)).2) ((m_ao n r (6 * n 1)).1) k)), (0, .ref (ad 0)), (1, .int (nI ((m_ao n r (6 * n 1)).1)))] dX6_ask_182 rfl (by decide) rfl ?_
            refine z_goto C 109 dX6_ask_185 (by decide) ?_
            exact z_to (ih109) (rfl) (by simp [zlk, m_ab, h132n_1, h159n_5, h172n_7])
    · intro b hk25 ih25
      refine z_iload_n C dX6_ask_25 rfl (show zlk _ 2 = some (.int (nI b)) from rfl) ?_
      refine z_bipush C (v := nI 6) dX6_ask_26 (by decide) ?_
      refine z_aload_n C dX6_ask_28 rfl (show zlk _ 0 = some (.ref (ad 0)) from rfl) ?_
      refine z_mg C hin 1 (by decide) (by decide +kernel) (v := .int (nI (n 1))) mf_1 dX6_ask_29 ?_
      refine z_imulN C dX6_ask_32 ?_
      refine z_icmp_geF C 102 dX6_ask_33 (by decide) (by omega) (by omega) (by omega) ?_
      refine z_aload_n C dX6_ask_36 rfl (show zlk _ 0 = some (.ref (ad 0)) from rfl) ?_
      refine z_mg C hin 2 (by decide) (by decide +kernel) (v := .ref (ad 2)) mf_2 dX6_ask_37 ?_
      refine z_iload_n C dX6_ask_40 rfl (show zlk _ 2 = some (.int (nI b)) from rfl) ?_
      refine z_bipush C (v := nI 6) dX6_ask_41 (by decide) ?_
      refine z_idivN C dX6_ask_43 (by omega) (by omega) (by omega) ?_
      refine z_iald C (f := (r 2)) 1 mrv_2 (b / 6) rfl (by omega) (by decide) dX6_ask_44 ?_
      refine z_iload_n C dX6_ask_45 rfl (show zlk _ 2 = some (.int (nI b)) from rfl) ?_
      refine z_bipush C (v := nI 6) dX6_ask_46 (by decide) ?_
      refine z_iremN C dX6_ask_48 (by omega) (by omega) (by omega) ?_
      refine z_callSi C (As := [.int ((r 2) (b / 6)), .int (nI (b % 6))]) (rest := []) (c_X6_shifted l θ _ ((r 2) (b / 6)) (nI (b % 6))) gX6_ask_X6_shifted rfl 2 (by decide +kernel) (by decide) (by decide) rfl rfl (Nat.le_of_ble_eq_true rfl) dX6_ask_49 ?_
      rintro _ _ ⟨rfl, rfl⟩
      refine z_top (v' := .int (m_sh ((r 2) (b / 6)) (nI (b % 6)) 30)) rfl ?_
      refine z_top (v' := .int (m_as r b)) (rfl) ?_
      refine z_istore_n C [(3, .int (m_as r b)), (0, .ref (ad 0)), (1, .int (nI ((m_ao n r b).1))), (2, .int (nI b))] dX6_ask_52 rfl (by decide) rfl ?_
      refine z_aload_n C dX6_ask_53 rfl (show zlk _ 0 = some (.ref (ad 0)) from rfl) ?_
      refine z_iload_n C dX6_ask_54 rfl (show zlk _ 3 = some (.int (m_as r b)) from rfl) ?_
      refine z_callVi C (As := [.int (m_as r b)]) (rest := []) (c_X6_isSo l θ ad n g (rv (r 2) (r 4) (r 6) (r 7) (r 9) (r 17) (r 19) (r 21) (r 23) (r 24) (r 25) (r 26) (r 28) (r 29) ((m_ao n r b).2) (r 31) (r 32)) (m_as r b) (ht)) gX6_ask_X6_isSo rfl 1 (by decide +kernel) (by decide) (by decide) 0 rfl rfl rfl rfl rfl (Nat.le_of_ble_eq_true rfl) dX6_ask_55 ?_
      rintro _ _ ⟨rfl, rfl⟩
      refine z_top (v' := .int (bI (m_so (m_as r b) (r 28) (r 29) (n 27)))) rfl ?_
      refine z_if_eqB C 96 dX6_ask_58 (by decide) (fun h58t_8 => ?_) (fun h58n_8 => ?_)
      · refine z_iincN C [(2, .int (nI (b + 1))), (3, .int (m_as r b)), (0, .ref (ad 0)), (1, .int (nI ((m_ao n r b).1)))] dX6_ask_96 rfl (by decide) rfl ?_
        refine z_goto C 25 dX6_ask_99 (by decide) ?_
        exact z_to (ih25) (by rw [m_ao, if_neg (by rw [h58t_8]; decide)] <;> exact (mw_eq rfl rfl rfl rfl rfl rfl rfl rfl rfl rfl rfl rfl rfl rfl rfl rfl rfl rfl rfl rfl rfl rfl rfl rfl rfl rfl rfl rfl rfl rfl rfl rfl)) (by simp [zlk, m_ao, h58t_8])
      · refine z_iincN C [(1, .int (nI ((m_ao n r b).1 + 1))), (3, .int (m_as r b)), (0, .ref (ad 0)), (2, .int (nI b))] dX6_ask_61 rfl (by decide) rfl ?_
        refine z_iconst C (v := nI 0) dX6_ask_64 (by decide) ?_
        refine z_istore C [(4, .int (nI 0)), (1, .int (nI ((m_ao n r b).1 + 1))), (3, .int (m_as r b)), (0, .ref (ad 0)), (2, .int (nI b))] dX6_ask_65 (by decide) rfl ?_
        refine z_lv (lv' := [(0, .ref (ad 0)), (1, .int (nI ((m_ao n r b).1 + 1))), (2, .int (nI b)), (3, .int (m_as r b)), (4, .int (nI 0))]) rfl ?_
        refine z_X (Y := MW θ ad n g (rv (r 2) (r 4) (r 6) (r 7) (r 9) (r 17) (r 19) (r 21) (r 23) (r 24) (r 25) (r 26) (r 28) (r 29) (m_ha (m_ao n r b).2 (m_as r b) 0) (r 31) (r 32))) (mw_eq rfl rfl rfl rfl rfl rfl rfl rfl rfl rfl rfl rfl rfl rfl rfl rfl rfl rfl rfl rfl rfl rfl rfl rfl rfl rfl rfl rfl rfl rfl rfl rfl) ?_
        refine z_up (fun k => Z κ (MW θ ad n g (rv (r 2) (r 4) (r 6) (r 7) (r 9) (r 17) (r 19) (r 21) (r 23) (r 24) (r 25) (r 26) (r 28) (r 29) (m_ha (m_ao n r b).2 (m_as r b) k) (r 31) (r 32))) 67 [(0, .ref (ad 0)), (1, .int (nI ((m_ao n r b).1 + 1))), (2, .int (nI b)), (3, .int (m_as r b)), (4, .int (nI k))] []) (30) ?_ ?_ 0 (by omega)
        · refine z_iload C dX6_ask_67 (show zlk _ 4 = some (.int (nI 30)) from rfl) ?_
          refine z_bipush C (v := nI 30) dX6_ask_69 (by decide) ?_
          refine z_icmp_geT C 96 dX6_ask_71 (by decide) (by omega) (by omega) (by omega) ?_
          refine z_iincN C [(2, .int (nI (b + 1))), (0, .ref (ad 0)), (1, .int (nI ((m_ao n r b).1 + 1))), (3, .int (m_as r b)), (4, .int (nI 30))] dX6_ask_96 rfl (by decide) rfl ?_
          refine z_goto C 25 dX6_ask_99 (by decide) ?_
          exact z_to (ih25) (by rw [m_ao, if_pos h58n_8] <;> exact (mw_eq rfl rfl rfl rfl rfl rfl rfl rfl rfl rfl rfl rfl rfl rfl rfl rfl rfl rfl rfl rfl rfl rfl rfl rfl rfl rfl rfl rfl rfl rfl rfl rfl)) (by simp [zlk, m_ao, h58n_8])
        · intro k hk67 ih67
          refine z_iload C dX6_ask_67 (show zlk _ 4 = some (.int (nI k)) from rfl) ?_
          refine z_bipush C (v := nI 30) dX6_ask_69 (by decide) ?_
          refine z_icmp_geF C 96 dX6_ask_71 (by decide) (by omega) (by omega) (by omega) ?_
          refine z_aload_n C dX6_ask_74 rfl (show zlk _ 0 = some (.ref (ad 0)) from rfl) ?_
          refine z_mg C hin 30 (by decide) (by decide +kernel) (v := .ref (ad 30)) mf_30 dX6_ask_75 ?_
          refine z_iload C dX6_ask_78 (show zlk _ 4 = some (.int (nI k)) from rfl) ?_
          refine z_dup2 C dX6_ask_80 rfl rfl ?_
          refine z_iald C (f := (m_ha (m_ao n r b).2 (m_as r b) k)) 15 mrv_30 k rfl (by omega) (by decide) dX6_ask_81 ?_
          refine z_iload_n C dX6_ask_82 rfl (show zlk _ 3 = some (.int (m_as r b)) from rfl) ?_
          refine z_iload C dX6_ask_83 (show zlk _ 4 = some (.int (nI k)) from rfl) ?_
          refine z_ishr C dX6_ask_85 ?_
          refine z_iconst C (v := nI 1) dX6_ask_86 (by decide) ?_
          refine z_iand C dX6_ask_87 ?_
          refine z_iadd C dX6_ask_88 ?_
          refine z_iast C (f := (m_ha (m_ao n r b).2 (m_as r b) k)) 15 mrv_30 k rfl (by omega) (by decide) _ msv_30 dX6_ask_89 ?_
          refine z_iincN C [(4, .int (nI (k + 1))), (0, .ref (ad 0)), (1, .int (nI ((m_ao n r b).1 + 1))), (2, .int (nI b)), (3, .int (m_as r b))] dX6_ask_90 rfl (by decide) rfl ?_
          refine z_goto C 67 dX6_ask_93 (by decide) ?_
          exact z_to (ih67) ((mw_eq rfl rfl rfl rfl rfl rfl rfl rfl rfl rfl rfl rfl rfl rfl rfl rfl rfl rfl rfl rfl rfl rfl rfl rfl rfl rfl rfl rfl rfl rfl rfl rfl)) (rfl)
  · intro k hk4 ih4
    refine z_iload_n C dX6_ask_4 rfl (show zlk _ 2 = some (.int (nI k)) from rfl) ?_
    refine z_bipush C (v := nI 30) dX6_ask_5 (by decide) ?_
    refine z_icmp_geF C 23 dX6_ask_7 (by decide) (by omega) (by omega) (by omega) ?_
    refine z_aload_n C dX6_ask_10 rfl (show zlk _ 0 = some (.ref (ad 0)) from rfl) ?_
    refine z_mg C hin 30 (by decide) (by decide +kernel) (v := .ref (ad 30)) mf_30 dX6_ask_11 ?_
    refine z_iload_n C dX6_ask_14 rfl (show zlk _ 2 = some (.int (nI k)) from rfl) ?_
    refine z_iconst C (v := nI 0) dX6_ask_15 (by decide) ?_
    refine z_iast C (f := (m_hz (r 30) k)) 15 mrv_30 k rfl (by omega) (by decide) _ msv_30 dX6_ask_16 ?_
    refine z_iincN C [(2, .int (nI (k + 1))), (0, .ref (ad 0)), (1, .int (nI 0))] dX6_ask_17 rfl (by decide) rfl ?_
    refine z_goto C 4 dX6_ask_20 (by decide) ?_
    exact z_to (ih4) ((mw_eq rfl rfl rfl rfl rfl rfl rfl rfl rfl rfl rfl rfl rfl rfl rfl rfl rfl rfl rfl rfl rfl rfl rfl rfl rfl rfl rfl rfl rfl rfl rfl rfl)) (rfl)

noncomputable def m_sd (s : Nat) : Nat := Classical.choose (⟨_, rfl⟩ : ∃ x : Nat, x = (s * 1103515245 + 12345) % 2147483648)
theorem m_sd_def (s : Nat) : m_sd s = (s * 1103515245 + 12345) % 2147483648 := Classical.choose_spec (⟨_, rfl⟩ : ∃ x : Nat, x = (s * 1103515245 + 12345) % 2147483648)
theorem m_sd_lt (s : Nat) : m_sd s < 2147483648 := by rw [m_sd_def]; exact Nat.mod_lt _ (by decide)
theorem m_sd_eq {s : Nat} (h : s < 2 ^ 31) : Int64.toInt32 ((Int32.toInt64 (nI s) * 1103515245 + 12345) - (Int32.toInt64 (nI s) * 1103515245 + 12345) / 2147483648 * 2147483648) = nI (m_sd s) := by
  rw [nI_l h]
  show Int64.toInt32 ((lN s * lN 1103515245 + lN 12345) - (lN s * lN 1103515245 + lN 12345) / lN 2147483648 * lN 2147483648) = _
  rw [lN_mul, lN_add, pk_lRem (by omega) (by decide) (by decide), lN_i, m_sd_def]
noncomputable def m_dv (s m : Nat) : Nat := Classical.choose (⟨_, rfl⟩ : ∃ x : Nat, x = m_sd s / 65536 % m)
theorem m_dv_def (s m : Nat) : m_dv s m = m_sd s / 65536 % m := Classical.choose_spec (⟨_, rfl⟩ : ∃ x : Nat, x = m_sd s / 65536 % m)
set_option maxHeartbeats 4000000 in
set_option maxRecDepth 100000 in
theorem c_X6_draw (l : Launch) (θ : zH) (ad : Nat → Nat) (n : Nat → Nat) (g : Int32) (r : Nat → Nat → Int32) (m : Nat) (hm : 0 < m) (hm2 : m < 2 ^ 31) (h8 : n 8 < 2 ^ 31) : cI l yX6_draw wsX6_draw 0 θ [.ref (ad 0), .int (nI m)] (MW θ ad n g r) (fun r0 Y => ∃ s1 d1, s1 = m_sd (n 8) ∧ d1 = m_dv (n 8) m ∧ s1 < 2 ^ 31 ∧ d1 < m ∧ r0 = nI d1 ∧ Y = MW θ ad (nv (n 0) (n 1) (n 3) (n 5) s1 (n 10) (n 12) (n 13) (n 14) (n 15) (n 16) (n 18) (n 20) (n 22) (n 27)) g r) := by
  refine z_cI (by decide) rfl rfl (Nat.le_of_ble_eq_true rfl) (lv := [(0, .ref (ad 0)), (1, .int (nI m))]) rfl (fun κ C E => ?_)
  have hin : ∀ w ∈ wsX60, w ∈ wsX6_draw := by decide +kernel
  refine z_aload_n C dX6_draw_0 rfl (show zlk _ 0 = some (.ref (ad 0)) from rfl) ?_
  refine z_aload_n C dX6_draw_1 rfl (show zlk _ 0 = some (.ref (ad 0)) from rfl) ?_
  refine z_mg C hin 8 (by decide) (by decide +kernel) (v := .int (nI (n 8))) mf_8 dX6_draw_2 ?_
  refine z_i2l C dX6_draw_5 ?_
  refine z_ldc2 C (v := 1103515245) (by decide +kernel) dX6_draw_6 ?_
  refine z_lmul C dX6_draw_9 ?_
  refine z_ldc2 C (v := 12345) (by decide +kernel) dX6_draw_10 ?_
  refine z_ladd C dX6_draw_13 ?_
  refine z_ldc2 C (v := 2147483648) (by decide +kernel) dX6_draw_14 ?_
  refine z_lrem C dX6_draw_17 (by decide) ?_
  refine z_l2i C dX6_draw_18 ?_
  refine z_top (v' := .int (nI (m_sd (n 8)))) (congrArg Value.int (m_sd_eq h8)) ?_
  refine z_mp C hin 8 (by decide) (by decide +kernel) rfl rfl mpn_8 dX6_draw_19 ?_
  refine z_aload_n C dX6_draw_22 rfl (show zlk _ 0 = some (.ref (ad 0)) from rfl) ?_
  refine z_mg C hin 8 (by decide) (by decide +kernel) (v := .int (nI (m_sd (n 8)))) mfv_8 dX6_draw_23 ?_
  refine z_ldc C (v := 65536) (by decide +kernel) dX6_draw_26 ?_
  refine z_top (v' := .int (nI 65536)) rfl ?_
  refine z_idivN C dX6_draw_28 (by have := m_sd_lt (n 8); omega) (by decide) (by decide) ?_
  refine z_iload_n C dX6_draw_29 rfl (show zlk _ 1 = some (.int (nI m)) from rfl) ?_
  refine z_iremN C dX6_draw_30 (by have := m_sd_lt (n 8); omega) (by omega) (by omega) ?_
  exact E _ _ _ _ (⟨_, _, rfl, (m_dv_def _ _).symm, m_sd_lt _, Nat.mod_lt _ hm, rfl, (mw_eq rfl rfl rfl rfl rfl rfl rfl rfl rfl rfl rfl rfl rfl rfl rfl rfl rfl rfl rfl rfl rfl rfl rfl rfl rfl rfl rfl rfl rfl rfl rfl rfl)⟩) (rfl) dX6_draw_31

noncomputable def m_ch (n : Nat → Nat) (r : Nat → Nat → Int32) : Nat × (Nat → Int32) :=
  if m_dv (n 8) 6 = 0 then (m_sd (m_sd (n 8)), upd (r 7) 1 (nI (m_dv (m_sd (n 8)) 7) - nI 3))
  else if m_dv (n 8) 6 = 1 then (m_sd (m_sd (n 8)), upd (r 7) 2 (nI (m_dv (m_sd (n 8)) 64)))
  else if m_dv (n 8) 6 = 2 then (m_sd (m_sd (n 8)), upd (r 7) 3 (r 7 3 ||| (nI 1 <<< (nI (m_dv (m_sd (n 8)) 30) &&& 31))))
  else if m_dv (n 8) 6 = 3 then (m_sd (n 8), upd (r 7) 4 (nI 1))
  else if m_dv (n 8) 6 = 4 then
    (if n 1 = 0 then (m_sd (n 8), r 7) else if n 3 = 0 then (m_sd (n 8), r 7)
     else if m_who (r 7) (nI (m_dv (m_sd (m_sd (n 8))) (n 3))) (n 1) = (-1) then (m_sd (m_sd (m_sd (n 8))), upd (r 7) (6 + m_dv (m_sd (n 8)) (n 1)) (nI (m_dv (m_sd (m_sd (n 8))) (n 3))))
     else (m_sd (m_sd (m_sd (n 8))), upd (r 7) (6 + m_dv (m_sd (n 8)) (n 1)) (r 7 (6 + m_dv (m_sd (n 8)) (n 1)))))
  else (m_sd (n 8), r 7)
theorem m_dv_lt (s : Nat) {m : Nat} (h : 0 < m) : m_dv s m < m := by rw [m_dv_def]; exact Nat.mod_lt _ h
set_option maxHeartbeats 4000000 in
set_option maxRecDepth 100000 in
theorem c_X6_chance (l : Launch) (θ : zH) (ad : Nat → Nat) (n : Nat → Nat) (g : Int32) (r : Nat → Nat → Int32)  (hS : n 1 ≤ 6) (hW : n 3 ≤ 5) (h8 : n 8 < 2 ^ 31) : cV l yX6_chance wsX6_chance 1 θ [.ref (ad 0)] (MW θ ad n g r) (fun Y => Y = MW θ ad (nv (n 0) (n 1) (n 3) (n 5) ((m_ch n r).1) (n 10) (n 12) (n 13) (n 14) (n 15) (n 16) (n 18) (n 20) (n 22) (n 27)) g (rv (r 2) (r 4) (r 6) ((m_ch n r).2) (r 9) (r 17) (r 19) (r 21) (r 23) (r 24) (r 25) (r 26) (r 28) (r 29) (r 30) (r 31) (r 32))) := by
  refine z_cV (by decide) rfl rfl (Nat.le_of_ble_eq_true rfl) (lv := [(0, .ref (ad 0))]) rfl (fun κ C E => ?_)
  have hin : ∀ w ∈ wsX60, w ∈ wsX6_chance := by decide +kernel
  refine z_aload_n C dX6_chance_0 rfl (show zlk _ 0 = some (.ref (ad 0)) from rfl) ?_
  refine z_bipush C (v := nI 6) dX6_chance_1 (by decide) ?_
  refine z_callVi C (As := [.int (nI 6)]) (rest := []) (c_X6_draw l θ ad n g r 6 (by decide) (by decide) h8) gX6_chance_X6_draw rfl 1 (by decide +kernel) (by decide) (by decide) 0 rfl rfl rfl rfl rfl (Nat.le_of_ble_eq_true rfl) dX6_chance_3 ?_
  rintro _ _ ⟨sx1, dx1, es1, ed1, ls1, ld1, rfl, rfl⟩
  replace es1 : sx1 = m_sd (n 8) := es1
  replace ed1 : dx1 = m_dv (n 8) 6 := ed1
  refine z_X (Y := MW θ ad (nv (n 0) (n 1) (n 3) (n 5) sx1 (n 10) (n 12) (n 13) (n 14) (n 15) (n 16) (n 18) (n 20) (n 22) (n 27)) g r) (mw_eq rfl rfl rfl rfl rfl rfl rfl rfl rfl rfl rfl rfl rfl rfl rfl rfl rfl rfl rfl rfl rfl rfl rfl rfl rfl rfl rfl rfl rfl rfl rfl rfl) ?_
  refine z_istore_n C [(1, .int (nI dx1)), (0, .ref (ad 0))] dX6_chance_6 rfl (by decide) rfl ?_
  refine z_iload_n C dX6_chance_7 rfl (show zlk _ 1 = some (.int (nI dx1)) from rfl) ?_
  refine z_if_neN C 28 dX6_chance_8 (by decide) (by omega) (fun h8t_1 => ?_) (fun h8n_1 => ?_)
  · refine z_iload_n C dX6_chance_28 rfl (show zlk _ 1 = some (.int (nI dx1)) from rfl) ?_
    refine z_iconst C (v := nI 1) dX6_chance_29 (by decide) ?_
    refine z_icmp_neN C 48 dX6_chance_30 (by decide) (by omega) (by omega) (fun h30t_2 => ?_) (fun h30n_2 => ?_)
    · refine z_iload_n C dX6_chance_48 rfl (show zlk _ 1 = some (.int (nI dx1)) from rfl) ?_
      refine z_iconst C (v := nI 2) dX6_chance_49 (by decide) ?_
      refine z_icmp_neN C 73 dX6_chance_50 (by decide) (by omega) (by omega) (fun h50t_3 => ?_) (fun h50n_3 => ?_)
      · refine z_iload_n C dX6_chance_73 rfl (show zlk _ 1 = some (.int (nI dx1)) from rfl) ?_
        refine z_iconst C (v := nI 3) dX6_chance_74 (by decide) ?_
        refine z_icmp_neN C 88 dX6_chance_75 (by decide) (by omega) (by omega) (fun h75t_4 => ?_) (fun h75n_4 => ?_)
        · refine z_iload_n C dX6_chance_88 rfl (show zlk _ 1 = some (.int (nI dx1)) from rfl) ?_
          refine z_iconst C (v := nI 4) dX6_chance_89 (by decide) ?_
          refine z_icmp_neN C 156 dX6_chance_90 (by decide) (by omega) (by omega) (fun h90t_5 => ?_) (fun h90n_5 => ?_)
          · exact E _ _ _ (by subst_vars; unfold m_ch; rw [if_neg h8t_1, if_neg h30t_2, if_neg h50t_3, if_neg h75t_4, if_neg h90t_5] <;> exact (mw_eq rfl rfl rfl rfl rfl rfl rfl rfl rfl rfl rfl rfl rfl rfl rfl rfl rfl rfl rfl rfl rfl rfl rfl rfl rfl rfl rfl rfl rfl rfl rfl rfl)) dX6_chance_156
          · refine z_aload_n C dX6_chance_93 rfl (show zlk _ 0 = some (.ref (ad 0)) from rfl) ?_
            refine z_mg C hin 1 (by decide) (by decide +kernel) (v := .int (nI (n 1))) mfv_1 dX6_chance_94 ?_
            refine z_if_leN C 156 dX6_chance_97 (by decide) (by omega) (fun h97t_6 => ?_) (fun h97n_6 => ?_)
            · exact E _ _ _ (by subst_vars; unfold m_ch; rw [if_neg h8t_1, if_neg h30t_2, if_neg h50t_3, if_neg h75t_4, if_pos h90n_5, if_pos h97t_6] <;> exact (mw_eq rfl rfl rfl rfl rfl rfl rfl rfl rfl rfl rfl rfl rfl rfl rfl rfl rfl rfl rfl rfl rfl rfl rfl rfl rfl rfl rfl rfl rfl rfl rfl rfl)) dX6_chance_156
            · refine z_aload_n C dX6_chance_100 rfl (show zlk _ 0 = some (.ref (ad 0)) from rfl) ?_
              refine z_mg C hin 3 (by decide) (by decide +kernel) (v := .int (nI (n 3))) mfv_3 dX6_chance_101 ?_
              refine z_if_leN C 156 dX6_chance_104 (by decide) (by omega) (fun h104t_7 => ?_) (fun h104n_7 => ?_)
              · exact E _ _ _ (by subst_vars; unfold m_ch; rw [if_neg h8t_1, if_neg h30t_2, if_neg h50t_3, if_neg h75t_4, if_pos h90n_5, if_neg h97n_6, if_pos h104t_7] <;> exact (mw_eq rfl rfl rfl rfl rfl rfl rfl rfl rfl rfl rfl rfl rfl rfl rfl rfl rfl rfl rfl rfl rfl rfl rfl rfl rfl rfl rfl rfl rfl rfl rfl rfl)) dX6_chance_156
              · refine z_aload_n C dX6_chance_107 rfl (show zlk _ 0 = some (.ref (ad 0)) from rfl) ?_
                refine z_aload_n C dX6_chance_108 rfl (show zlk _ 0 = some (.ref (ad 0)) from rfl) ?_
                refine z_mg C hin 1 (by decide) (by decide +kernel) (v := .int (nI (n 1))) mfv_1 dX6_chance_109 ?_
                refine z_callVi C (As := [.int (nI (n 1))]) (rest := []) (c_X6_draw l θ ad (nv (n 0) (n 1) (n 3) (n 5) sx1 (n 10) (n 12) (n 13) (n 14) (n 15) (n 16) (n 18) (n 20) (n 22) (n 27)) g r (n 1) (by omega) (by omega) ls1) gX6_chance_X6_draw rfl 1 (by decide +kernel) (by decide) (by decide) 0 rfl rfl rfl rfl rfl (Nat.le_of_ble_eq_true rfl) dX6_chance_112 ?_
                rintro _ _ ⟨sx2, dx2, es2, ed2, ls2, ld2, rfl, rfl⟩
                replace es2 : sx2 = m_sd (sx1) := es2
                replace ed2 : dx2 = m_dv (sx1) (n 1) := ed2
                refine z_top (v' := .int (nI dx2)) rfl ?_
                refine z_X (Y := MW θ ad (nv (n 0) (n 1) (n 3) (n 5) sx2 (n 10) (n 12) (n 13) (n 14) (n 15) (n 16) (n 18) (n 20) (n 22) (n 27)) g r) (mw_eq rfl rfl rfl rfl rfl rfl rfl rfl rfl rfl rfl rfl rfl rfl rfl rfl rfl rfl rfl rfl rfl rfl rfl rfl rfl rfl rfl rfl rfl rfl rfl rfl) ?_
                refine z_istore_n C [(2, .int (nI dx2)), (1, .int (nI dx1)), (0, .ref (ad 0))] dX6_chance_115 rfl (by decide) rfl ?_
                refine z_aload_n C dX6_chance_116 rfl (show zlk _ 0 = some (.ref (ad 0)) from rfl) ?_
                refine z_aload_n C dX6_chance_117 rfl (show zlk _ 0 = some (.ref (ad 0)) from rfl) ?_
                refine z_mg C hin 3 (by decide) (by decide +kernel) (v := .int (nI (n 3))) mfv_3 dX6_chance_118 ?_
                refine z_callVi C (As := [.int (nI (n 3))]) (rest := []) (c_X6_draw l θ ad (nv (n 0) (n 1) (n 3) (n 5) sx2 (n 10) (n 12) (n 13) (n 14) (n 15) (n 16) (n 18) (n 20) (n 22) (n 27)) g r (n 3) (by omega) (by omega) ls2) gX6_chance_X6_draw rfl 1 (by decide +kernel) (by decide) (by decide) 0 rfl rfl rfl rfl rfl (Nat.le_of_ble_eq_true rfl) dX6_chance_121 ?_
                rintro _ _ ⟨sx3, dx3, es3, ed3, ls3, ld3, rfl, rfl⟩
                replace es3 : sx3 = m_sd (sx2) := es3
                replace ed3 : dx3 = m_dv (sx2) (n 3) := ed3
                refine z_top (v' := .int (nI dx3)) rfl ?_
                refine z_X (Y := MW θ ad (nv (n 0) (n 1) (n 3) (n 5) sx3 (n 10) (n 12) (n 13) (n 14) (n 15) (n 16) (n 18) (n 20) (n 22) (n 27)) g r) (mw_eq rfl rfl rfl rfl rfl rfl rfl rfl rfl rfl rfl rfl rfl rfl rfl rfl rfl rfl rfl rfl rfl rfl rfl rfl rfl rfl rfl rfl rfl rfl rfl rfl) ?_
                refine z_istore_n C [(3, .int (nI dx3)), (2, .int (nI dx2)), (1, .int (nI dx1)), (0, .ref (ad 0))] dX6_chance_124 rfl (by decide) rfl ?_
                refine z_aload_n C dX6_chance_125 rfl (show zlk _ 0 = some (.ref (ad 0)) from rfl) ?_
                refine z_mg C hin 7 (by decide) (by decide +kernel) (v := .ref (ad 7)) mf_7 dX6_chance_126 ?_
                refine z_bipush C (v := nI 6) dX6_chance_129 (by decide) ?_
                refine z_iload_n C dX6_chance_131 rfl (show zlk _ 2 = some (.int (nI dx2)) from rfl) ?_
                refine z_iaddN C dX6_chance_132 ?_
                refine z_aload_n C dX6_chance_133 rfl (show zlk _ 0 = some (.ref (ad 0)) from rfl) ?_
                refine z_iload_n C dX6_chance_134 rfl (show zlk _ 3 = some (.int (nI dx3)) from rfl) ?_
                refine z_callVi C (As := [.int (nI dx3)]) (rest := [.int (nI (6 + dx2)), .ref (ad 7)]) (c_X6_whoIsAt l θ ad (nv (n 0) (n 1) (n 3) (n 5) sx3 (n 10) (n 12) (n 13) (n 14) (n 15) (n 16) (n 18) (n 20) (n 22) (n 27)) g r (nI dx3) (hS)) gX6_chance_X6_whoIsAt rfl 1 (by decide +kernel) (by decide) (by decide) 0 rfl rfl rfl rfl rfl (Nat.le_of_ble_eq_true rfl) dX6_chance_135 ?_
                rintro _ _ ⟨rfl, rfl⟩
                refine z_top (v' := .int (m_who (r 7) (nI dx3) (n 1))) rfl ?_
                refine z_iconst C (v := (-1)) dX6_chance_138 (by decide) ?_
                refine z_icmp_ne C 146 dX6_chance_139 (by decide) (fun h139t_8 => ?_) (fun h139n_8 => ?_)
                · refine z_aload_n C dX6_chance_146 rfl (show zlk _ 0 = some (.ref (ad 0)) from rfl) ?_
                  refine z_mg C hin 7 (by decide) (by decide +kernel) (v := .ref (ad 7)) mf_7 dX6_chance_147 ?_
                  refine z_bipush C (v := nI 6) dX6_chance_150 (by decide) ?_
                  refine z_iload_n C dX6_chance_152 rfl (show zlk _ 2 = some (.int (nI dx2)) from rfl) ?_
                  refine z_iaddN C dX6_chance_153 ?_
                  refine z_iald C (f := (r 7)) 4 mr_7 (6 + dx2) rfl (by omega) (by decide) dX6_chance_154 ?_
                  refine z_iast C (f := (r 7)) 4 mr_7 (6 + dx2) rfl (by omega) (by decide) _ msn_7 dX6_chance_155 ?_
                  exact E _ _ _ (by subst_vars; unfold m_ch; rw [if_neg h8t_1, if_neg h30t_2, if_neg h50t_3, if_neg h75t_4, if_pos h90n_5, if_neg h97n_6, if_neg h104n_7, if_neg h139t_8] <;> exact (mw_eq rfl rfl rfl rfl rfl rfl rfl rfl rfl rfl rfl rfl rfl rfl rfl rfl rfl rfl rfl rfl rfl rfl rfl rfl rfl rfl rfl rfl rfl rfl rfl rfl)) dX6_chance_156
                · refine z_iload_n C dX6_chance_142 rfl (show zlk _ 3 = some (.int (nI dx3)) from rfl) ?_
                  refine z_goto C 155 dX6_chance_143 (by decide) ?_
                  refine z_iast C (f := (r 7)) 4 mr_7 (6 + dx2) rfl (by omega) (by decide) _ msn_7 dX6_chance_155 ?_
                  exact E _ _ _ (by subst_vars; unfold m_ch; rw [if_neg h8t_1, if_neg h30t_2, if_neg h50t_3, if_neg h75t_4, if_pos h90n_5, if_neg h97n_6, if_neg h104n_7, if_pos h139n_8] <;> exact (mw_eq rfl rfl rfl rfl rfl rfl rfl rfl rfl rfl rfl rfl rfl rfl rfl rfl rfl rfl rfl rfl rfl rfl rfl rfl rfl rfl rfl rfl rfl rfl rfl rfl)) dX6_chance_156
        · refine z_aload_n C dX6_chance_78 rfl (show zlk _ 0 = some (.ref (ad 0)) from rfl) ?_
          refine z_mg C hin 7 (by decide) (by decide +kernel) (v := .ref (ad 7)) mf_7 dX6_chance_79 ?_
          refine z_iconst C (v := nI 4) dX6_chance_82 (by decide) ?_
          refine z_iconst C (v := nI 1) dX6_chance_83 (by decide) ?_
          refine z_iast C (f := (r 7)) 4 mr_7 4 rfl (by omega) (by decide) _ msn_7 dX6_chance_84 ?_
          refine z_goto C 156 dX6_chance_85 (by decide) ?_
          exact E _ _ _ (by subst_vars; unfold m_ch; rw [if_neg h8t_1, if_neg h30t_2, if_neg h50t_3, if_pos h75n_4] <;> exact (mw_eq rfl rfl rfl rfl rfl rfl rfl rfl rfl rfl rfl rfl rfl rfl rfl rfl rfl rfl rfl rfl rfl rfl rfl rfl rfl rfl rfl rfl rfl rfl rfl rfl)) dX6_chance_156
      · refine z_aload_n C dX6_chance_53 rfl (show zlk _ 0 = some (.ref (ad 0)) from rfl) ?_
        refine z_mg C hin 7 (by decide) (by decide +kernel) (v := .ref (ad 7)) mf_7 dX6_chance_54 ?_
        refine z_iconst C (v := nI 3) dX6_chance_57 (by decide) ?_
        refine z_dup2 C dX6_chance_58 rfl rfl ?_
        refine z_iald C (f := (r 7)) 4 mr_7 3 rfl (by omega) (by decide) dX6_chance_59 ?_
        refine z_iconst C (v := nI 1) dX6_chance_60 (by decide) ?_
        refine z_aload_n C dX6_chance_61 rfl (show zlk _ 0 = some (.ref (ad 0)) from rfl) ?_
        refine z_bipush C (v := nI 30) dX6_chance_62 (by decide) ?_
        refine z_callVi C (As := [.int (nI 30)]) (rest := [.int (nI 1), .int ((r 7) 3), .int (nI 3), .ref (ad 7)]) (c_X6_draw l θ ad (nv (n 0) (n 1) (n 3) (n 5) sx1 (n 10) (n 12) (n 13) (n 14) (n 15) (n 16) (n 18) (n 20) (n 22) (n 27)) g r 30 (by decide) (by decide) ls1) gX6_chance_X6_draw rfl 1 (by decide +kernel) (by decide) (by decide) 0 rfl rfl rfl rfl rfl (Nat.le_of_ble_eq_true rfl) dX6_chance_64 ?_
        rintro _ _ ⟨sx4, dx4, es4, ed4, ls4, ld4, rfl, rfl⟩
        replace es4 : sx4 = m_sd (sx1) := es4
        replace ed4 : dx4 = m_dv (sx1) 30 := ed4
        refine z_top (v' := .int (nI dx4)) rfl ?_
        refine z_X (Y := MW θ ad (nv (n 0) (n 1) (n 3) (n 5) sx4 (n 10) (n 12) (n 13) (n 14) (n 15) (n 16) (n 18) (n 20) (n 22) (n 27)) g r) (mw_eq rfl rfl rfl rfl rfl rfl rfl rfl rfl rfl rfl rfl rfl rfl rfl rfl rfl rfl rfl rfl rfl rfl rfl rfl rfl rfl rfl rfl rfl rfl rfl rfl) ?_
        refine z_ishl C dX6_chance_67 ?_
        refine z_ior C dX6_chance_68 ?_
        refine z_iast C (f := (r 7)) 4 mr_7 3 rfl (by omega) (by decide) _ msn_7 dX6_chance_69 ?_
        refine z_goto C 156 dX6_chance_70 (by decide) ?_
        exact E _ _ _ (by subst_vars; unfold m_ch; rw [if_neg h8t_1, if_neg h30t_2, if_pos h50n_3] <;> exact (mw_eq rfl rfl rfl rfl rfl rfl rfl rfl rfl rfl rfl rfl rfl rfl rfl rfl rfl rfl rfl rfl rfl rfl rfl rfl rfl rfl rfl rfl rfl rfl rfl rfl)) dX6_chance_156
    · refine z_aload_n C dX6_chance_33 rfl (show zlk _ 0 = some (.ref (ad 0)) from rfl) ?_
      refine z_mg C hin 7 (by decide) (by decide +kernel) (v := .ref (ad 7)) mf_7 dX6_chance_34 ?_
      refine z_iconst C (v := nI 2) dX6_chance_37 (by decide) ?_
      refine z_aload_n C dX6_chance_38 rfl (show zlk _ 0 = some (.ref (ad 0)) from rfl) ?_
      refine z_bipush C (v := nI 64) dX6_chance_39 (by decide) ?_
      refine z_callVi C (As := [.int (nI 64)]) (rest := [.int (nI 2), .ref (ad 7)]) (c_X6_draw l θ ad (nv (n 0) (n 1) (n 3) (n 5) sx1 (n 10) (n 12) (n 13) (n 14) (n 15) (n 16) (n 18) (n 20) (n 22) (n 27)) g r 64 (by decide) (by decide) ls1) gX6_chance_X6_draw rfl 1 (by decide +kernel) (by decide) (by decide) 0 rfl rfl rfl rfl rfl (Nat.le_of_ble_eq_true rfl) dX6_chance_41 ?_
      rintro _ _ ⟨sx5, dx5, es5, ed5, ls5, ld5, rfl, rfl⟩
      replace es5 : sx5 = m_sd (sx1) := es5
      replace ed5 : dx5 = m_dv (sx1) 64 := ed5
      refine z_top (v' := .int (nI dx5)) rfl ?_
      refine z_X (Y := MW θ ad (nv (n 0) (n 1) (n 3) (n 5) sx5 (n 10) (n 12) (n 13) (n 14) (n 15) (n 16) (n 18) (n 20) (n 22) (n 27)) g r) (mw_eq rfl rfl rfl rfl rfl rfl rfl rfl rfl rfl rfl rfl rfl rfl rfl rfl rfl rfl rfl rfl rfl rfl rfl rfl rfl rfl rfl rfl rfl rfl rfl rfl) ?_
      refine z_iast C (f := (r 7)) 4 mr_7 2 rfl (by omega) (by decide) _ msn_7 dX6_chance_44 ?_
      refine z_goto C 156 dX6_chance_45 (by decide) ?_
      exact E _ _ _ (by subst_vars; unfold m_ch; rw [if_neg h8t_1, if_pos h30n_2] <;> exact (mw_eq rfl rfl rfl rfl rfl rfl rfl rfl rfl rfl rfl rfl rfl rfl rfl rfl rfl rfl rfl rfl rfl rfl rfl rfl rfl rfl rfl rfl rfl rfl rfl rfl)) dX6_chance_156
  · refine z_aload_n C dX6_chance_11 rfl (show zlk _ 0 = some (.ref (ad 0)) from rfl) ?_
    refine z_mg C hin 7 (by decide) (by decide +kernel) (v := .ref (ad 7)) mf_7 dX6_chance_12 ?_
    refine z_iconst C (v := nI 1) dX6_chance_15 (by decide) ?_
    refine z_aload_n C dX6_chance_16 rfl (show zlk _ 0 = some (.ref (ad 0)) from rfl) ?_
    refine z_bipush C (v := nI 7) dX6_chance_17 (by decide) ?_
    refine z_callVi C (As := [.int (nI 7)]) (rest := [.int (nI 1), .ref (ad 7)]) (c_X6_draw l θ ad (nv (n 0) (n 1) (n 3) (n 5) sx1 (n 10) (n 12) (n 13) (n 14) (n 15) (n 16) (n 18) (n 20) (n 22) (n 27)) g r 7 (by decide) (by decide) ls1) gX6_chance_X6_draw rfl 1 (by decide +kernel) (by decide) (by decide) 0 rfl rfl rfl rfl rfl (Nat.le_of_ble_eq_true rfl) dX6_chance_19 ?_
    rintro _ _ ⟨sx6, dx6, es6, ed6, ls6, ld6, rfl, rfl⟩
    replace es6 : sx6 = m_sd (sx1) := es6
    replace ed6 : dx6 = m_dv (sx1) 7 := ed6
    refine z_top (v' := .int (nI dx6)) rfl ?_
    refine z_X (Y := MW θ ad (nv (n 0) (n 1) (n 3) (n 5) sx6 (n 10) (n 12) (n 13) (n 14) (n 15) (n 16) (n 18) (n 20) (n 22) (n 27)) g r) (mw_eq rfl rfl rfl rfl rfl rfl rfl rfl rfl rfl rfl rfl rfl rfl rfl rfl rfl rfl rfl rfl rfl rfl rfl rfl rfl rfl rfl rfl rfl rfl rfl rfl) ?_
    refine z_iconst C (v := nI 3) dX6_chance_22 (by decide) ?_
    refine z_isub C dX6_chance_23 ?_
    refine z_iast C (f := (r 7)) 4 mr_7 1 rfl (by omega) (by decide) _ msn_7 dX6_chance_24 ?_
    refine z_goto C 156 dX6_chance_25 (by decide) ?_
    exact E _ _ _ (by subst_vars; unfold m_ch; rw [if_pos h8n_1] <;> exact (mw_eq rfl rfl rfl rfl rfl rfl rfl rfl rfl rfl rfl rfl rfl rfl rfl rfl rfl rfl rfl rfl rfl rfl rfl rfl rfl rfl rfl rfl rfl rfl rfl rfl)) dX6_chance_156

def m_un (nw p : Nat → Int32) (b : Nat) : Nat → Nat → Int32
  | 0 => nw
  | k + 1 => upd (m_un nw p b k) k (p (b + k))
set_option maxHeartbeats 4000000 in
set_option maxRecDepth 100000 in
theorem c_X6_undo_1 (l : Launch) (θ : zH) (ad : Nat → Nat) (n : Nat → Nat) (g : Int32) (r : Nat → Nat → Int32)  (hu : n 22 = 0) : cI l yX6_undo wsX6_undo 0 θ [.ref (ad 0)] (MW θ ad n g r) (fun r0 Y => r0 = (-1000000003) ∧ Y = MW θ ad n g r) := by
  refine z_cI (by decide) rfl rfl (Nat.le_of_ble_eq_true rfl) (lv := [(0, .ref (ad 0))]) rfl (fun κ C E => ?_)
  have hin : ∀ w ∈ wsX60, w ∈ wsX6_undo := by decide +kernel
  refine z_aload_n C dX6_undo_0 rfl (show zlk _ 0 = some (.ref (ad 0)) from rfl) ?_
  refine z_mg C hin 22 (by decide) (by decide +kernel) (v := .int (nI (n 22))) mf_22 dX6_undo_1 ?_
  refine z_if_neN C 10 dX6_undo_4 (by decide) (by omega) (fun h4n_1 => absurd h4n_1 (fun z => z hu)) (fun h4n_1 => ?_)
  refine z_ldc C (v := (-1000000003)) (by decide +kernel) dX6_undo_7 ?_
  exact E _ _ _ _ (⟨rfl, rfl⟩) (rfl) dX6_undo_9

set_option maxHeartbeats 4000000 in
set_option maxRecDepth 100000 in
theorem c_X6_undo_2 (l : Launch) (θ : zH) (ad : Nat → Nat) (n : Nat → Nat) (g : Int32) (r : Nat → Nat → Int32) (v : Nat) (hu : n 22 = v + 1) (hv : v < 16) : cI l yX6_undo wsX6_undo 0 θ [.ref (ad 0)] (MW θ ad n g r) (fun r0 Y => r0 = nI v ∧ Y = MW θ ad (nv (n 0) (n 1) (n 3) (n 5) (n 8) (n 10) (n 12) (n 13) (n 14) (n 15) (n 16) (n 18) (n 20) v (n 27)) g (rv (r 2) (r 4) (r 6) (m_un (r 7) (r 23) (82 * v) 82) (r 9) (r 17) (r 19) (r 21) (r 23) (r 24) (r 25) (r 26) (r 28) (r 29) (r 30) (r 31) (r 32))) := by
  refine z_cI (by decide) rfl rfl (Nat.le_of_ble_eq_true rfl) (lv := [(0, .ref (ad 0))]) rfl (fun κ C E => ?_)
  have hin : ∀ w ∈ wsX60, w ∈ wsX6_undo := by decide +kernel
  refine z_aload_n C dX6_undo_0 rfl (show zlk _ 0 = some (.ref (ad 0)) from rfl) ?_
  refine z_mg C hin 22 (by decide) (by decide +kernel) (v := .int (nI (n 22))) mf_22 dX6_undo_1 ?_
  refine z_if_neN C 10 dX6_undo_4 (by decide) (by omega) (fun h4t_1 => ?_) (fun h4t_1 => absurd h4t_1 (by omega))
  refine z_aload_n C dX6_undo_10 rfl (show zlk _ 0 = some (.ref (ad 0)) from rfl) ?_
  refine z_dup C dX6_undo_11 rfl ?_
  refine z_mg C hin 22 (by decide) (by decide +kernel) (v := .int (nI (n 22))) mf_22 dX6_undo_12 ?_
  refine z_iconst C (v := nI 1) dX6_undo_15 (by decide) ?_
  refine z_isubN C dX6_undo_16 (by omega) ?_
  refine z_top (v' := .int (nI v)) (congrArg (fun z => Value.int (nI z)) (by omega)) ?_
  refine z_mp C hin 22 (by decide) (by decide +kernel) rfl rfl mpn_22 dX6_undo_17 ?_
  refine z_iconst C (v := nI 0) dX6_undo_20 (by decide) ?_
  refine z_istore_n C [(1, .int (nI 0)), (0, .ref (ad 0))] dX6_undo_21 rfl (by decide) rfl ?_
  refine z_lv (lv' := [(0, .ref (ad 0)), (1, .int (nI 0))]) rfl ?_
  refine z_X (Y := MW θ ad (nv (n 0) (n 1) (n 3) (n 5) (n 8) (n 10) (n 12) (n 13) (n 14) (n 15) (n 16) (n 18) (n 20) v (n 27)) g (rv (r 2) (r 4) (r 6) (m_un (r 7) (r 23) (82 * v) 0) (r 9) (r 17) (r 19) (r 21) (r 23) (r 24) (r 25) (r 26) (r 28) (r 29) (r 30) (r 31) (r 32))) (mw_eq rfl rfl rfl rfl rfl rfl rfl rfl rfl rfl rfl rfl rfl rfl rfl rfl rfl rfl rfl rfl rfl rfl rfl rfl rfl rfl rfl rfl rfl rfl rfl rfl) ?_
  refine z_up (fun k => Z κ (MW θ ad (nv (n 0) (n 1) (n 3) (n 5) (n 8) (n 10) (n 12) (n 13) (n 14) (n 15) (n 16) (n 18) (n 20) v (n 27)) g (rv (r 2) (r 4) (r 6) (m_un (r 7) (r 23) (82 * v) k) (r 9) (r 17) (r 19) (r 21) (r 23) (r 24) (r 25) (r 26) (r 28) (r 29) (r 30) (r 31) (r 32))) 22 [(0, .ref (ad 0)), (1, .int (nI k))] []) (82) ?_ ?_ 0 (by omega)
  · refine z_iload_n C dX6_undo_22 rfl (show zlk _ 1 = some (.int (nI 82)) from rfl) ?_
    refine z_bipush C (v := nI 82) dX6_undo_23 (by decide) ?_
    refine z_icmp_geT C 54 dX6_undo_25 (by decide) (by omega) (by omega) (by omega) ?_
    refine z_aload_n C dX6_undo_54 rfl (show zlk _ 0 = some (.ref (ad 0)) from rfl) ?_
    refine z_mg C hin 22 (by decide) (by decide +kernel) (v := .int (nI v)) mfv_22 dX6_undo_55 ?_
    exact E _ _ _ _ (⟨rfl, (mw_eq rfl rfl rfl rfl rfl rfl rfl rfl rfl rfl rfl rfl rfl rfl rfl rfl rfl rfl rfl rfl rfl rfl rfl rfl rfl rfl rfl rfl rfl rfl rfl rfl)⟩) (rfl) dX6_undo_58
  · intro k hk22 ih22
    refine z_iload_n C dX6_undo_22 rfl (show zlk _ 1 = some (.int (nI k)) from rfl) ?_
    refine z_bipush C (v := nI 82) dX6_undo_23 (by decide) ?_
    refine z_icmp_geF C 54 dX6_undo_25 (by decide) (by omega) (by omega) (by omega) ?_
    refine z_aload_n C dX6_undo_28 rfl (show zlk _ 0 = some (.ref (ad 0)) from rfl) ?_
    refine z_mg C hin 7 (by decide) (by decide +kernel) (v := .ref (ad 7)) mf_7 dX6_undo_29 ?_
    refine z_iload_n C dX6_undo_32 rfl (show zlk _ 1 = some (.int (nI k)) from rfl) ?_
    refine z_aload_n C dX6_undo_33 rfl (show zlk _ 0 = some (.ref (ad 0)) from rfl) ?_
    refine z_mg C hin 23 (by decide) (by decide +kernel) (v := .ref (ad 23)) mf_23 dX6_undo_34 ?_
    refine z_bipush C (v := nI 82) dX6_undo_37 (by decide) ?_
    refine z_aload_n C dX6_undo_39 rfl (show zlk _ 0 = some (.ref (ad 0)) from rfl) ?_
    refine z_mg C hin 22 (by decide) (by decide +kernel) (v := .int (nI v)) mfv_22 dX6_undo_40 ?_
    refine z_imulN C dX6_undo_43 ?_
    refine z_iload_n C dX6_undo_44 rfl (show zlk _ 1 = some (.int (nI k)) from rfl) ?_
    refine z_iaddN C dX6_undo_45 ?_
    refine z_iald C (f := (r 23)) 9 mrv_23 (82 * v + k) rfl (by omega) (by decide) dX6_undo_46 ?_
    refine z_iast C (f := (m_un (r 7) (r 23) (82 * v) k)) 4 mrv_7 k rfl (by omega) (by decide) _ msv_7 dX6_undo_47 ?_
    refine z_iincN C [(1, .int (nI (k + 1))), (0, .ref (ad 0))] dX6_undo_48 rfl (by decide) rfl ?_
    refine z_goto C 22 dX6_undo_51 (by decide) ?_
    exact z_to (ih22) ((mw_eq rfl rfl rfl rfl rfl rfl rfl rfl rfl rfl rfl rfl rfl rfl rfl rfl rfl rfl rfl rfl rfl rfl rfl rfl rfl rfl rfl rfl rfl rfl rfl rfl)) (rfl)

def m_bk (nw img : Nat → Int32) (b : Nat) : Nat → Nat → Int32
  | 0 => nw
  | k + 1 => upd (m_bk nw img b k) k (img (b + k))
set_option maxHeartbeats 4000000 in
set_option maxRecDepth 100000 in
theorem c_X6_keep_1 (l : Launch) (θ : zH) (ad : Nat → Nat) (n : Nat → Nat) (g : Int32) (r : Nat → Nat → Int32) (x : Int32) (hx : okN x 2 = false) : cI l yX6_keep wsX6_keep 1 θ [.ref (ad 0), .int x] (MW θ ad n g r) (fun r0 Y => r0 = (-1000000001) ∧ Y = MW θ ad n g r) := by
  refine z_cI (by decide) rfl rfl (Nat.le_of_ble_eq_true rfl) (lv := [(0, .ref (ad 0)), (1, .int x)]) rfl (fun κ C E => ?_)
  refine z_iload_n C dX6_keep_0 rfl (show zlk _ 1 = some (.int x) from rfl) ?_
  refine z_i2l C dX6_keep_1 ?_
  refine z_lconst C (v := 0) dX6_keep_2 (by decide) ?_
  refine z_lconst C (v := 1) dX6_keep_3 (by decide) ?_
  refine z_callSi C (As := [.long (Int32.toInt64 x), .long 0, .long 1]) (rest := []) (c_X6_in l θ _ (Int32.toInt64 x) 0 1) gX6_keep_X6_in rfl 3 (by decide +kernel) (by decide) (by decide) rfl rfl (Nat.le_of_ble_eq_true rfl) dX6_keep_4 ?_
  rintro _ _ ⟨rfl, rfl⟩
  refine z_top (v' := .int (bI (okN x 2))) (by rw [m_in_lit (N := 2) (by decide)]) ?_
  refine z_if_neB C 13 dX6_keep_7 (by decide) (fun h => absurd h (by rw [hx]; decide)) (fun _ => ?_)
  refine z_ldc C (v := (-1000000001)) (by decide +kernel) dX6_keep_10 ?_
  exact E _ _ _ _ (⟨rfl, rfl⟩) (rfl) dX6_keep_12

set_option maxHeartbeats 4000000 in
set_option maxRecDepth 100000 in
theorem c_X6_keep_2 (l : Launch) (θ : zH) (ad : Nat → Nat) (n : Nat → Nat) (g : Int32) (r : Nat → Nat → Int32) (i : Nat) (hi : i < 2) : cI l yX6_keep wsX6_keep 1 θ [.ref (ad 0), .int (nI i)] (MW θ ad n g r) (fun r0 Y => r0 = nI 1 ∧ Y = MW θ ad (nv (n 0) (n 1) (n 3) (n 5) (n 8) (n 10) (n 12) (n 13) (n 14) (n 15) (n 16) (n 18) (n 20) 0 (n 27)) g (rv (r 2) (r 4) (r 6) (r 7) (r 9) (r 17) (r 19) (r 21) (r 23) (r 24) (r 25) (r 26) (r 28) (r 29) (r 30) (upd (m_cp (r 31) (r 7) (83 * i) 82) (83 * i + 82) (nI (n 8))) (upd (r 32) i (nI 1)))) := by
  refine z_cI (by decide) rfl rfl (Nat.le_of_ble_eq_true rfl) (lv := [(0, .ref (ad 0)), (1, .int (nI i))]) rfl (fun κ C E => ?_)
  have hin : ∀ w ∈ wsX60, w ∈ wsX6_keep := by decide +kernel
  refine z_iload_n C dX6_keep_0 rfl (show zlk _ 1 = some (.int (nI i)) from rfl) ?_
  refine z_i2l C dX6_keep_1 ?_
  refine z_lconst C (v := 0) dX6_keep_2 (by decide) ?_
  refine z_lconst C (v := 1) dX6_keep_3 (by decide) ?_
  refine z_callSi C (As := [.long (Int32.toInt64 (nI i)), .long 0, .long 1]) (rest := []) (c_X6_in l θ _ (Int32.toInt64 (nI i)) 0 1) gX6_keep_X6_in rfl 3 (by decide +kernel) (by decide) (by decide) rfl rfl (Nat.le_of_ble_eq_true rfl) dX6_keep_4 ?_
  rintro _ _ ⟨rfl, rfl⟩
  refine z_top (v' := .int (bI (okN (nI i) 2))) (by rw [m_in_lit (N := 2) (by decide)]) ?_
  refine z_if_neB C 13 dX6_keep_7 (by decide) (fun _ => ?_) (fun h => absurd h (by rw [okN_lt hi (by decide)]; decide))
  refine z_iconst C (v := nI 0) dX6_keep_13 (by decide) ?_
  refine z_istore_n C [(2, .int (nI 0)), (0, .ref (ad 0)), (1, .int (nI i))] dX6_keep_14 rfl (by decide) rfl ?_
  refine z_lv (lv' := [(0, .ref (ad 0)), (1, .int (nI i)), (2, .int (nI 0))]) rfl ?_
  refine z_X (Y := MW θ ad n g (rv (r 2) (r 4) (r 6) (r 7) (r 9) (r 17) (r 19) (r 21) (r 23) (r 24) (r 25) (r 26) (r 28) (r 29) (r 30) (m_cp (r 31) (r 7) (83 * i) 0) (r 32))) (mw_eq rfl rfl rfl rfl rfl rfl rfl rfl rfl rfl rfl rfl rfl rfl rfl rfl rfl rfl rfl rfl rfl rfl rfl rfl rfl rfl rfl rfl rfl rfl rfl rfl) ?_
  refine z_up (fun k => Z κ (MW θ ad n g (rv (r 2) (r 4) (r 6) (r 7) (r 9) (r 17) (r 19) (r 21) (r 23) (r 24) (r 25) (r 26) (r 28) (r 29) (r 30) (m_cp (r 31) (r 7) (83 * i) k) (r 32))) 15 [(0, .ref (ad 0)), (1, .int (nI i)), (2, .int (nI k))] []) (82) ?_ ?_ 0 (by omega)
  · refine z_iload_n C dX6_keep_15 rfl (show zlk _ 2 = some (.int (nI 82)) from rfl) ?_
    refine z_bipush C (v := nI 82) dX6_keep_16 (by decide) ?_
    refine z_icmp_geT C 44 dX6_keep_18 (by decide) (by omega) (by omega) (by omega) ?_
    refine z_aload_n C dX6_keep_44 rfl (show zlk _ 0 = some (.ref (ad 0)) from rfl) ?_
    refine z_mg C hin 31 (by decide) (by decide +kernel) (v := .ref (ad 31)) mf_31 dX6_keep_45 ?_
    refine z_bipush C (v := nI 83) dX6_keep_48 (by decide) ?_
    refine z_iload_n C dX6_keep_50 rfl (show zlk _ 1 = some (.int (nI i)) from rfl) ?_
    refine z_imulN C dX6_keep_51 ?_
    refine z_bipush C (v := nI 82) dX6_keep_52 (by decide) ?_
    refine z_iaddN C dX6_keep_54 ?_
    refine z_aload_n C dX6_keep_55 rfl (show zlk _ 0 = some (.ref (ad 0)) from rfl) ?_
    refine z_mg C hin 8 (by decide) (by decide +kernel) (v := .int (nI (n 8))) mf_8 dX6_keep_56 ?_
    refine z_iast C (f := (m_cp (r 31) (r 7) (83 * i) 82)) 16 mrv_31 (83 * i + 82) rfl (by omega) (by decide) _ msv_31 dX6_keep_59 ?_
    refine z_aload_n C dX6_keep_60 rfl (show zlk _ 0 = some (.ref (ad 0)) from rfl) ?_
    refine z_mg C hin 32 (by decide) (by decide +kernel) (v := .ref (ad 32)) mf_32 dX6_keep_61 ?_
    refine z_iload_n C dX6_keep_64 rfl (show zlk _ 1 = some (.int (nI i)) from rfl) ?_
    refine z_iconst C (v := nI 1) dX6_keep_65 (by decide) ?_
    refine z_zast C (f := (r 32)) 17 mrv_32 i rfl (by omega) (by decide) _ msv_32 dX6_keep_66 ?_
    refine z_aload_n C dX6_keep_67 rfl (show zlk _ 0 = some (.ref (ad 0)) from rfl) ?_
    refine z_iconst C (v := nI 0) dX6_keep_68 (by decide) ?_
    refine z_mp C hin 22 (by decide) (by decide +kernel) rfl rfl mpn_22 dX6_keep_69 ?_
    refine z_iconst C (v := nI 1) dX6_keep_72 (by decide) ?_
    exact E _ _ _ _ (⟨rfl, (mw_eq rfl rfl rfl rfl rfl rfl rfl rfl rfl rfl rfl rfl rfl rfl rfl rfl rfl rfl rfl rfl rfl rfl rfl rfl rfl rfl rfl rfl rfl rfl rfl rfl)⟩) (rfl) dX6_keep_73
  · intro k hk15 ih15
    refine z_iload_n C dX6_keep_15 rfl (show zlk _ 2 = some (.int (nI k)) from rfl) ?_
    refine z_bipush C (v := nI 82) dX6_keep_16 (by decide) ?_
    refine z_icmp_geF C 44 dX6_keep_18 (by decide) (by omega) (by omega) (by omega) ?_
    refine z_aload_n C dX6_keep_21 rfl (show zlk _ 0 = some (.ref (ad 0)) from rfl) ?_
    refine z_mg C hin 31 (by decide) (by decide +kernel) (v := .ref (ad 31)) mf_31 dX6_keep_22 ?_
    refine z_bipush C (v := nI 83) dX6_keep_25 (by decide) ?_
    refine z_iload_n C dX6_keep_27 rfl (show zlk _ 1 = some (.int (nI i)) from rfl) ?_
    refine z_imulN C dX6_keep_28 ?_
    refine z_iload_n C dX6_keep_29 rfl (show zlk _ 2 = some (.int (nI k)) from rfl) ?_
    refine z_iaddN C dX6_keep_30 ?_
    refine z_aload_n C dX6_keep_31 rfl (show zlk _ 0 = some (.ref (ad 0)) from rfl) ?_
    refine z_mg C hin 7 (by decide) (by decide +kernel) (v := .ref (ad 7)) mf_7 dX6_keep_32 ?_
    refine z_iload_n C dX6_keep_35 rfl (show zlk _ 2 = some (.int (nI k)) from rfl) ?_
    refine z_iald C (f := (r 7)) 4 mrv_7 k rfl (by omega) (by decide) dX6_keep_36 ?_
    refine z_iast C (f := (m_cp (r 31) (r 7) (83 * i) k)) 16 mrv_31 (83 * i + k) rfl (by omega) (by decide) _ msv_31 dX6_keep_37 ?_
    refine z_iincN C [(2, .int (nI (k + 1))), (0, .ref (ad 0)), (1, .int (nI i))] dX6_keep_38 rfl (by decide) rfl ?_
    refine z_goto C 15 dX6_keep_41 (by decide) ?_
    exact z_to (ih15) ((mw_eq rfl rfl rfl rfl rfl rfl rfl rfl rfl rfl rfl rfl rfl rfl rfl rfl rfl rfl rfl rfl rfl rfl rfl rfl rfl rfl rfl rfl rfl rfl rfl rfl)) (rfl)

set_option maxHeartbeats 4000000 in
set_option maxRecDepth 100000 in
theorem c_X6_goBack_1 (l : Launch) (θ : zH) (ad : Nat → Nat) (n : Nat → Nat) (g : Int32) (r : Nat → Nat → Int32) (x : Int32) (hx : okN x 2 = false) : cI l yX6_goBack wsX6_goBack 1 θ [.ref (ad 0), .int x] (MW θ ad n g r) (fun r0 Y => r0 = (-1000000001) ∧ Y = MW θ ad n g r) := by
  refine z_cI (by decide) rfl rfl (Nat.le_of_ble_eq_true rfl) (lv := [(0, .ref (ad 0)), (1, .int x)]) rfl (fun κ C E => ?_)
  refine z_iload_n C dX6_goBack_0 rfl (show zlk _ 1 = some (.int x) from rfl) ?_
  refine z_i2l C dX6_goBack_1 ?_
  refine z_lconst C (v := 0) dX6_goBack_2 (by decide) ?_
  refine z_lconst C (v := 1) dX6_goBack_3 (by decide) ?_
  refine z_callSi C (As := [.long (Int32.toInt64 x), .long 0, .long 1]) (rest := []) (c_X6_in l θ _ (Int32.toInt64 x) 0 1) gX6_goBack_X6_in rfl 3 (by decide +kernel) (by decide) (by decide) rfl rfl (Nat.le_of_ble_eq_true rfl) dX6_goBack_4 ?_
  rintro _ _ ⟨rfl, rfl⟩
  refine z_top (v' := .int (bI (okN x 2))) (by rw [m_in_lit (N := 2) (by decide)]) ?_
  refine z_if_neB C 13 dX6_goBack_7 (by decide) (fun h => absurd h (by rw [hx]; decide)) (fun _ => ?_)
  refine z_ldc C (v := (-1000000001)) (by decide +kernel) dX6_goBack_10 ?_
  exact E _ _ _ _ (⟨rfl, rfl⟩) (rfl) dX6_goBack_12

set_option maxHeartbeats 4000000 in
set_option maxRecDepth 100000 in
theorem c_X6_goBack_2 (l : Launch) (θ : zH) (ad : Nat → Nat) (n : Nat → Nat) (g : Int32) (r : Nat → Nat → Int32) (i : Nat) (hi : i < 2) (hk : r 32 i = nI 0) : cI l yX6_goBack wsX6_goBack 1 θ [.ref (ad 0), .int (nI i)] (MW θ ad n g r) (fun r0 Y => r0 = (-1000000003) ∧ Y = MW θ ad n g r) := by
  refine z_cI (by decide) rfl rfl (Nat.le_of_ble_eq_true rfl) (lv := [(0, .ref (ad 0)), (1, .int (nI i))]) rfl (fun κ C E => ?_)
  have hin : ∀ w ∈ wsX60, w ∈ wsX6_goBack := by decide +kernel
  refine z_iload_n C dX6_goBack_0 rfl (show zlk _ 1 = some (.int (nI i)) from rfl) ?_
  refine z_i2l C dX6_goBack_1 ?_
  refine z_lconst C (v := 0) dX6_goBack_2 (by decide) ?_
  refine z_lconst C (v := 1) dX6_goBack_3 (by decide) ?_
  refine z_callSi C (As := [.long (Int32.toInt64 (nI i)), .long 0, .long 1]) (rest := []) (c_X6_in l θ _ (Int32.toInt64 (nI i)) 0 1) gX6_goBack_X6_in rfl 3 (by decide +kernel) (by decide) (by decide) rfl rfl (Nat.le_of_ble_eq_true rfl) dX6_goBack_4 ?_
  rintro _ _ ⟨rfl, rfl⟩
  refine z_top (v' := .int (bI (okN (nI i) 2))) (by rw [m_in_lit (N := 2) (by decide)]) ?_
  refine z_if_neB C 13 dX6_goBack_7 (by decide) (fun _ => ?_) (fun h => absurd h (by rw [okN_lt hi (by decide)]; decide))
  refine z_aload_n C dX6_goBack_13 rfl (show zlk _ 0 = some (.ref (ad 0)) from rfl) ?_
  refine z_mg C hin 32 (by decide) (by decide +kernel) (v := .ref (ad 32)) mf_32 dX6_goBack_14 ?_
  refine z_iload_n C dX6_goBack_17 rfl (show zlk _ 1 = some (.int (nI i)) from rfl) ?_
  refine z_zald C (f := (r 32)) 17 mr_32 i rfl (by omega) (by decide) dX6_goBack_18 ?_
  refine z_if_ne C 25 dX6_goBack_19 (by decide) (fun h19n_1 => absurd h19n_1 (fun z => z hk)) (fun h19n_1 => ?_)
  refine z_ldc C (v := (-1000000003)) (by decide +kernel) dX6_goBack_22 ?_
  exact E _ _ _ _ (⟨rfl, rfl⟩) (rfl) dX6_goBack_24

set_option maxHeartbeats 4000000 in
set_option maxRecDepth 100000 in
theorem c_X6_goBack_3 (l : Launch) (θ : zH) (ad : Nat → Nat) (n : Nat → Nat) (g : Int32) (r : Nat → Nat → Int32) (i sd : Nat) (hi : i < 2) (hk : r 32 i = nI 1) (hsd : r 31 (83 * i + 82) = nI sd) : cI l yX6_goBack wsX6_goBack 1 θ [.ref (ad 0), .int (nI i)] (MW θ ad n g r) (fun r0 Y => r0 = nI 1 ∧ Y = MW θ ad (nv (n 0) (n 1) (n 3) (n 5) sd (n 10) (n 12) (n 13) (n 14) (n 15) (n 16) (n 18) (n 20) 0 (n 27)) g (rv (r 2) (r 4) (r 6) (m_bk (r 7) (r 31) (83 * i) 82) (r 9) (r 17) (r 19) (r 21) (r 23) (r 24) (r 25) (r 26) (r 28) (r 29) (r 30) (r 31) (r 32))) := by
  refine z_cI (by decide) rfl rfl (Nat.le_of_ble_eq_true rfl) (lv := [(0, .ref (ad 0)), (1, .int (nI i))]) rfl (fun κ C E => ?_)
  have hin : ∀ w ∈ wsX60, w ∈ wsX6_goBack := by decide +kernel
  refine z_iload_n C dX6_goBack_0 rfl (show zlk _ 1 = some (.int (nI i)) from rfl) ?_
  refine z_i2l C dX6_goBack_1 ?_
  refine z_lconst C (v := 0) dX6_goBack_2 (by decide) ?_
  refine z_lconst C (v := 1) dX6_goBack_3 (by decide) ?_
  refine z_callSi C (As := [.long (Int32.toInt64 (nI i)), .long 0, .long 1]) (rest := []) (c_X6_in l θ _ (Int32.toInt64 (nI i)) 0 1) gX6_goBack_X6_in rfl 3 (by decide +kernel) (by decide) (by decide) rfl rfl (Nat.le_of_ble_eq_true rfl) dX6_goBack_4 ?_
  rintro _ _ ⟨rfl, rfl⟩
  refine z_top (v' := .int (bI (okN (nI i) 2))) (by rw [m_in_lit (N := 2) (by decide)]) ?_
  refine z_if_neB C 13 dX6_goBack_7 (by decide) (fun _ => ?_) (fun h => absurd h (by rw [okN_lt hi (by decide)]; decide))
  refine z_aload_n C dX6_goBack_13 rfl (show zlk _ 0 = some (.ref (ad 0)) from rfl) ?_
  refine z_mg C hin 32 (by decide) (by decide +kernel) (v := .ref (ad 32)) mf_32 dX6_goBack_14 ?_
  refine z_iload_n C dX6_goBack_17 rfl (show zlk _ 1 = some (.int (nI i)) from rfl) ?_
  refine z_zald C (f := (r 32)) 17 mr_32 i rfl (by omega) (by decide) dX6_goBack_18 ?_
  refine z_if_ne C 25 dX6_goBack_19 (by decide) (fun h19t_1 => ?_) (fun h19t_1 => absurd h19t_1 (by rw [hk]; decide))
  refine z_iconst C (v := nI 0) dX6_goBack_25 (by decide) ?_
  refine z_istore_n C [(2, .int (nI 0)), (0, .ref (ad 0)), (1, .int (nI i))] dX6_goBack_26 rfl (by decide) rfl ?_
  refine z_lv (lv' := [(0, .ref (ad 0)), (1, .int (nI i)), (2, .int (nI 0))]) rfl ?_
  refine z_X (Y := MW θ ad n g (rv (r 2) (r 4) (r 6) (m_bk (r 7) (r 31) (83 * i) 0) (r 9) (r 17) (r 19) (r 21) (r 23) (r 24) (r 25) (r 26) (r 28) (r 29) (r 30) (r 31) (r 32))) (mw_eq rfl rfl rfl rfl rfl rfl rfl rfl rfl rfl rfl rfl rfl rfl rfl rfl rfl rfl rfl rfl rfl rfl rfl rfl rfl rfl rfl rfl rfl rfl rfl rfl) ?_
  refine z_up (fun k => Z κ (MW θ ad n g (rv (r 2) (r 4) (r 6) (m_bk (r 7) (r 31) (83 * i) k) (r 9) (r 17) (r 19) (r 21) (r 23) (r 24) (r 25) (r 26) (r 28) (r 29) (r 30) (r 31) (r 32))) 27 [(0, .ref (ad 0)), (1, .int (nI i)), (2, .int (nI k))] []) (82) ?_ ?_ 0 (by omega)
  · refine z_iload_n C dX6_goBack_27 rfl (show zlk _ 2 = some (.int (nI 82)) from rfl) ?_
    refine z_bipush C (v := nI 82) dX6_goBack_28 (by decide) ?_
    refine z_icmp_geT C 56 dX6_goBack_30 (by decide) (by omega) (by omega) (by omega) ?_
    refine z_aload_n C dX6_goBack_56 rfl (show zlk _ 0 = some (.ref (ad 0)) from rfl) ?_
    refine z_aload_n C dX6_goBack_57 rfl (show zlk _ 0 = some (.ref (ad 0)) from rfl) ?_
    refine z_mg C hin 31 (by decide) (by decide +kernel) (v := .ref (ad 31)) mf_31 dX6_goBack_58 ?_
    refine z_bipush C (v := nI 83) dX6_goBack_61 (by decide) ?_
    refine z_iload_n C dX6_goBack_63 rfl (show zlk _ 1 = some (.int (nI i)) from rfl) ?_
    refine z_imulN C dX6_goBack_64 ?_
    refine z_bipush C (v := nI 82) dX6_goBack_65 (by decide) ?_
    refine z_iaddN C dX6_goBack_67 ?_
    refine z_iald C (f := (r 31)) 16 mrv_31 (83 * i + 82) rfl (by omega) (by decide) dX6_goBack_68 ?_
    refine z_top (v' := .int (nI sd)) (by rw [hsd]) ?_
    refine z_mp C hin 8 (by decide) (by decide +kernel) rfl rfl mpn_8 dX6_goBack_69 ?_
    refine z_aload_n C dX6_goBack_72 rfl (show zlk _ 0 = some (.ref (ad 0)) from rfl) ?_
    refine z_iconst C (v := nI 0) dX6_goBack_73 (by decide) ?_
    refine z_mp C hin 22 (by decide) (by decide +kernel) rfl rfl mpv_22 dX6_goBack_74 ?_
    refine z_iconst C (v := nI 1) dX6_goBack_77 (by decide) ?_
    exact E _ _ _ _ (⟨rfl, (mw_eq rfl rfl rfl rfl rfl rfl rfl rfl rfl rfl rfl rfl rfl rfl rfl rfl rfl rfl rfl rfl rfl rfl rfl rfl rfl rfl rfl rfl rfl rfl rfl rfl)⟩) (rfl) dX6_goBack_78
  · intro k hk27 ih27
    refine z_iload_n C dX6_goBack_27 rfl (show zlk _ 2 = some (.int (nI k)) from rfl) ?_
    refine z_bipush C (v := nI 82) dX6_goBack_28 (by decide) ?_
    refine z_icmp_geF C 56 dX6_goBack_30 (by decide) (by omega) (by omega) (by omega) ?_
    refine z_aload_n C dX6_goBack_33 rfl (show zlk _ 0 = some (.ref (ad 0)) from rfl) ?_
    refine z_mg C hin 7 (by decide) (by decide +kernel) (v := .ref (ad 7)) mf_7 dX6_goBack_34 ?_
    refine z_iload_n C dX6_goBack_37 rfl (show zlk _ 2 = some (.int (nI k)) from rfl) ?_
    refine z_aload_n C dX6_goBack_38 rfl (show zlk _ 0 = some (.ref (ad 0)) from rfl) ?_
    refine z_mg C hin 31 (by decide) (by decide +kernel) (v := .ref (ad 31)) mf_31 dX6_goBack_39 ?_
    refine z_bipush C (v := nI 83) dX6_goBack_42 (by decide) ?_
    refine z_iload_n C dX6_goBack_44 rfl (show zlk _ 1 = some (.int (nI i)) from rfl) ?_
    refine z_imulN C dX6_goBack_45 ?_
    refine z_iload_n C dX6_goBack_46 rfl (show zlk _ 2 = some (.int (nI k)) from rfl) ?_
    refine z_iaddN C dX6_goBack_47 ?_
    refine z_iald C (f := (r 31)) 16 mrv_31 (83 * i + k) rfl (by omega) (by decide) dX6_goBack_48 ?_
    refine z_iast C (f := (m_bk (r 7) (r 31) (83 * i) k)) 4 mrv_7 k rfl (by omega) (by decide) _ msv_7 dX6_goBack_49 ?_
    refine z_iincN C [(2, .int (nI (k + 1))), (0, .ref (ad 0)), (1, .int (nI i))] dX6_goBack_50 rfl (by decide) rfl ?_
    refine z_goto C 27 dX6_goBack_53 (by decide) ?_
    exact z_to (ih27) ((mw_eq rfl rfl rfl rfl rfl rfl rfl rfl rfl rfl rfl rfl rfl rfl rfl rfl rfl rfl rfl rfl rfl rfl rfl rfl rfl rfl rfl rfl rfl rfl rfl rfl)) (rfl)

def m_clr (q : Nat) : Nat → Int64
  | 0 => 1000000000
  | k + 1 => m_clr q k * Int32.toInt64 (nI q) / 100
set_option maxHeartbeats 4000000 in
set_option maxRecDepth 100000 in
theorem c_X6_clear_1 (l : Launch) (θ : zH) (ad : Nat → Nat) (n : Nat → Nat) (g : Int32) (r : Nat → Nat → Int32) (x y : Int32) (hx : okN x 61 = false) : cI l yX6_clear wsX6_clear 1 θ [.ref (ad 0), .int x, .int y] (MW θ ad n g r) (fun r0 Y => r0 = (-1000000002) ∧ Y = MW θ ad n g r) := by
  refine z_cI (by decide) rfl rfl (Nat.le_of_ble_eq_true rfl) (lv := [(0, .ref (ad 0)), (1, .int x), (2, .int y)]) rfl (fun κ C E => ?_)
  refine z_iload_n C dX6_clear_0 rfl (show zlk _ 1 = some (.int x) from rfl) ?_
  refine z_i2l C dX6_clear_1 ?_
  refine z_lconst C (v := 0) dX6_clear_2 (by decide) ?_
  refine z_ldc2 C (v := 60) (by decide +kernel) dX6_clear_3 ?_
  refine z_callSi C (As := [.long (Int32.toInt64 x), .long 0, .long (60)]) (rest := []) (c_X6_in l θ _ (Int32.toInt64 x) 0 (60)) gX6_clear_X6_in rfl 3 (by decide +kernel) (by decide) (by decide) rfl rfl (Nat.le_of_ble_eq_true rfl) dX6_clear_6 ?_
  rintro _ _ ⟨rfl, rfl⟩
  refine z_top (v' := .int (bI (okN x 61))) (by rw [m_in_lit (N := 61) (by decide)]) ?_
  refine z_if_eqB C 24 dX6_clear_9 (by decide) (fun _ => ?_) (fun h => absurd h (by rw [hx]; decide))
  refine z_ldc C (v := (-1000000002)) (by decide +kernel) dX6_clear_24 ?_
  exact E _ _ _ _ (⟨rfl, rfl⟩) (rfl) dX6_clear_26

set_option maxHeartbeats 4000000 in
set_option maxRecDepth 100000 in
theorem c_X6_clear_2 (l : Launch) (θ : zH) (ad : Nat → Nat) (n : Nat → Nat) (g : Int32) (r : Nat → Nat → Int32) (x y : Int32) (hx : okN x 61 = true) (hy : okN y 101 = false) : cI l yX6_clear wsX6_clear 1 θ [.ref (ad 0), .int x, .int y] (MW θ ad n g r) (fun r0 Y => r0 = (-1000000002) ∧ Y = MW θ ad n g r) := by
  refine z_cI (by decide) rfl rfl (Nat.le_of_ble_eq_true rfl) (lv := [(0, .ref (ad 0)), (1, .int x), (2, .int y)]) rfl (fun κ C E => ?_)
  refine z_iload_n C dX6_clear_0 rfl (show zlk _ 1 = some (.int x) from rfl) ?_
  refine z_i2l C dX6_clear_1 ?_
  refine z_lconst C (v := 0) dX6_clear_2 (by decide) ?_
  refine z_ldc2 C (v := 60) (by decide +kernel) dX6_clear_3 ?_
  refine z_callSi C (As := [.long (Int32.toInt64 x), .long 0, .long (60)]) (rest := []) (c_X6_in l θ _ (Int32.toInt64 x) 0 (60)) gX6_clear_X6_in rfl 3 (by decide +kernel) (by decide) (by decide) rfl rfl (Nat.le_of_ble_eq_true rfl) dX6_clear_6 ?_
  rintro _ _ ⟨rfl, rfl⟩
  refine z_top (v' := .int (bI (okN x 61))) (by rw [m_in_lit (N := 61) (by decide)]) ?_
  refine z_if_eqB C 24 dX6_clear_9 (by decide) (fun h => absurd h (by rw [hx]; decide)) (fun _ => ?_)
  refine z_iload_n C dX6_clear_12 rfl (show zlk _ 2 = some (.int y) from rfl) ?_
  refine z_i2l C dX6_clear_13 ?_
  refine z_lconst C (v := 0) dX6_clear_14 (by decide) ?_
  refine z_ldc2 C (v := 100) (by decide +kernel) dX6_clear_15 ?_
  refine z_callSi C (As := [.long (Int32.toInt64 y), .long 0, .long (100)]) (rest := []) (c_X6_in l θ _ (Int32.toInt64 y) 0 (100)) gX6_clear_X6_in rfl 3 (by decide +kernel) (by decide) (by decide) rfl rfl (Nat.le_of_ble_eq_true rfl) dX6_clear_18 ?_
  rintro _ _ ⟨rfl, rfl⟩
  refine z_top (v' := .int (bI (okN y 101))) (by rw [m_in_lit (N := 101) (by decide)]) ?_
  refine z_if_neB C 27 dX6_clear_21 (by decide) (fun h => absurd h (by rw [hy]; decide)) (fun _ => ?_)
  refine z_ldc C (v := (-1000000002)) (by decide +kernel) dX6_clear_24 ?_
  exact E _ _ _ _ (⟨rfl, rfl⟩) (rfl) dX6_clear_26

set_option maxHeartbeats 4000000 in
set_option maxRecDepth 100000 in
theorem c_X6_clear_3 (l : Launch) (θ : zH) (ad : Nat → Nat) (n : Nat → Nat) (g : Int32) (r : Nat → Nat → Int32) (m q : Nat) (hm : m < 61) (hq : q < 101) : cI l yX6_clear wsX6_clear 1 θ [.ref (ad 0), .int (nI m), .int (nI q)] (MW θ ad n g r) (fun r0 Y => r0 = Int64.toInt32 (m_clr q m) ∧ Y = MW θ ad n g r) := by
  refine z_cI (by decide) rfl rfl (Nat.le_of_ble_eq_true rfl) (lv := [(0, .ref (ad 0)), (1, .int (nI m)), (2, .int (nI q))]) rfl (fun κ C E => ?_)
  refine z_iload_n C dX6_clear_0 rfl (show zlk _ 1 = some (.int (nI m)) from rfl) ?_
  refine z_i2l C dX6_clear_1 ?_
  refine z_lconst C (v := 0) dX6_clear_2 (by decide) ?_
  refine z_ldc2 C (v := 60) (by decide +kernel) dX6_clear_3 ?_
  refine z_callSi C (As := [.long (Int32.toInt64 (nI m)), .long 0, .long (60)]) (rest := []) (c_X6_in l θ _ (Int32.toInt64 (nI m)) 0 (60)) gX6_clear_X6_in rfl 3 (by decide +kernel) (by decide) (by decide) rfl rfl (Nat.le_of_ble_eq_true rfl) dX6_clear_6 ?_
  rintro _ _ ⟨rfl, rfl⟩
  refine z_top (v' := .int (bI (okN (nI m) 61))) (by rw [m_in_lit (N := 61) (by decide)]) ?_
  refine z_if_eqB C 24 dX6_clear_9 (by decide) (fun h => absurd h (by rw [okN_lt hm (by decide)]; decide)) (fun _ => ?_)
  refine z_iload_n C dX6_clear_12 rfl (show zlk _ 2 = some (.int (nI q)) from rfl) ?_
  refine z_i2l C dX6_clear_13 ?_
  refine z_lconst C (v := 0) dX6_clear_14 (by decide) ?_
  refine z_ldc2 C (v := 100) (by decide +kernel) dX6_clear_15 ?_
  refine z_callSi C (As := [.long (Int32.toInt64 (nI q)), .long 0, .long (100)]) (rest := []) (c_X6_in l θ _ (Int32.toInt64 (nI q)) 0 (100)) gX6_clear_X6_in rfl 3 (by decide +kernel) (by decide) (by decide) rfl rfl (Nat.le_of_ble_eq_true rfl) dX6_clear_18 ?_
  rintro _ _ ⟨rfl, rfl⟩
  refine z_top (v' := .int (bI (okN (nI q) 101))) (by rw [m_in_lit (N := 101) (by decide)]) ?_
  refine z_if_neB C 27 dX6_clear_21 (by decide) (fun _ => ?_) (fun h => absurd h (by rw [okN_lt hq (by decide)]; decide))
  refine z_ldc2 C (v := 1000000000) (by decide +kernel) dX6_clear_27 ?_
  refine z_lstore_n C [(3, .long (1000000000)), (0, .ref (ad 0)), (1, .int (nI m)), (2, .int (nI q))] dX6_clear_30 rfl (by decide) rfl ?_
  refine z_iconst C (v := nI 0) dX6_clear_31 (by decide) ?_
  refine z_istore C [(5, .int (nI 0)), (3, .long (1000000000)), (0, .ref (ad 0)), (1, .int (nI m)), (2, .int (nI q))] dX6_clear_32 (by decide) rfl ?_
  refine z_lv (lv' := [(0, .ref (ad 0)), (1, .int (nI m)), (2, .int (nI q)), (3, .long (m_clr q 0)), (5, .int (nI 0))]) rfl ?_
  refine z_up (fun k => Z κ (MW θ ad n g r) 34 [(0, .ref (ad 0)), (1, .int (nI m)), (2, .int (nI q)), (3, .long (m_clr q k)), (5, .int (nI k))] []) (m) ?_ ?_ 0 (by omega)
  · refine z_iload C dX6_clear_34 (show zlk _ 5 = some (.int (nI m)) from rfl) ?_
    refine z_iload_n C dX6_clear_36 rfl (show zlk _ 1 = some (.int (nI m)) from rfl) ?_
    refine z_icmp_geT C 55 dX6_clear_37 (by decide) (by omega) (by omega) (by omega) ?_
    refine z_lload_n C dX6_clear_55 rfl (show zlk _ 3 = some (.long (m_clr q m)) from rfl) ?_
    refine z_l2i C dX6_clear_56 ?_
    exact E _ _ _ _ (⟨rfl, rfl⟩) (rfl) dX6_clear_57
  · intro k hk34 ih34
    refine z_iload C dX6_clear_34 (show zlk _ 5 = some (.int (nI k)) from rfl) ?_
    refine z_iload_n C dX6_clear_36 rfl (show zlk _ 1 = some (.int (nI m)) from rfl) ?_
    refine z_icmp_geF C 55 dX6_clear_37 (by decide) (by omega) (by omega) (by omega) ?_
    refine z_lload_n C dX6_clear_40 rfl (show zlk _ 3 = some (.long (m_clr q k)) from rfl) ?_
    refine z_iload_n C dX6_clear_41 rfl (show zlk _ 2 = some (.int (nI q)) from rfl) ?_
    refine z_i2l C dX6_clear_42 ?_
    refine z_lmul C dX6_clear_43 ?_
    refine z_ldc2 C (v := 100) (by decide +kernel) dX6_clear_44 ?_
    refine z_ldiv C dX6_clear_47 (by decide) ?_
    refine z_lstore_n C [(3, .long (((m_clr q k) * (Int32.toInt64 (nI q))) / (100))), (0, .ref (ad 0)), (1, .int (nI m)), (2, .int (nI q)), (5, .int (nI k))] dX6_clear_48 rfl (by decide) rfl ?_
    refine z_iincN C [(5, .int (nI (k + 1))), (3, .long (((m_clr q k) * (Int32.toInt64 (nI q))) / (100))), (0, .ref (ad 0)), (1, .int (nI m)), (2, .int (nI q))] dX6_clear_49 rfl (by decide) rfl ?_
    refine z_goto C 34 dX6_clear_52 (by decide) ?_
    exact z_to (ih34) (rfl) (rfl)

set_option maxHeartbeats 4000000 in
set_option maxRecDepth 100000 in
theorem c_X6_tellOf_1 (l : Launch) (θ : zH) (ad : Nat → Nat) (n : Nat → Nat) (g : Int32) (r : Nat → Nat → Int32) (x y : Int32) (hx : okN x 30 = false) : cI l yX6_tellOf wsX6_tellOf 1 θ [.ref (ad 0), .int x, .int y] (MW θ ad n g r) (fun r0 Y => r0 = (-1000000002) ∧ Y = MW θ ad n g r) := by
  refine z_cI (by decide) rfl rfl (Nat.le_of_ble_eq_true rfl) (lv := [(0, .ref (ad 0)), (1, .int x), (2, .int y)]) rfl (fun κ C E => ?_)
  refine z_iload_n C dX6_tellOf_0 rfl (show zlk _ 1 = some (.int x) from rfl) ?_
  refine z_i2l C dX6_tellOf_1 ?_
  refine z_lconst C (v := 0) dX6_tellOf_2 (by decide) ?_
  refine z_ldc2 C (v := 29) (by decide +kernel) dX6_tellOf_3 ?_
  refine z_callSi C (As := [.long (Int32.toInt64 x), .long 0, .long (29)]) (rest := []) (c_X6_in l θ _ (Int32.toInt64 x) 0 (29)) gX6_tellOf_X6_in rfl 3 (by decide +kernel) (by decide) (by decide) rfl rfl (Nat.le_of_ble_eq_true rfl) dX6_tellOf_6 ?_
  rintro _ _ ⟨rfl, rfl⟩
  refine z_top (v' := .int (bI (okN x 30))) (by rw [m_in_lit (N := 30) (by decide)]) ?_
  refine z_if_neB C 15 dX6_tellOf_9 (by decide) (fun h => absurd h (by rw [hx]; decide)) (fun _ => ?_)
  refine z_ldc C (v := (-1000000002)) (by decide +kernel) dX6_tellOf_12 ?_
  exact E _ _ _ _ (⟨rfl, rfl⟩) (rfl) dX6_tellOf_14

set_option maxHeartbeats 4000000 in
set_option maxRecDepth 100000 in
theorem c_X6_tellOf_2 (l : Launch) (θ : zH) (ad : Nat → Nat) (n : Nat → Nat) (g : Int32) (r : Nat → Nat → Int32) (x y : Int32) (hx : okN x 30 = true) (ht : n 27 = 6) : cI l yX6_tellOf wsX6_tellOf 1 θ [.ref (ad 0), .int x, .int y] (MW θ ad n g r) (fun r0 Y => r0 = (-1000000004) ∧ Y = MW θ ad n g r) := by
  refine z_cI (by decide) rfl rfl (Nat.le_of_ble_eq_true rfl) (lv := [(0, .ref (ad 0)), (1, .int x), (2, .int y)]) rfl (fun κ C E => ?_)
  have hin : ∀ w ∈ wsX60, w ∈ wsX6_tellOf := by decide +kernel
  refine z_iload_n C dX6_tellOf_0 rfl (show zlk _ 1 = some (.int x) from rfl) ?_
  refine z_i2l C dX6_tellOf_1 ?_
  refine z_lconst C (v := 0) dX6_tellOf_2 (by decide) ?_
  refine z_ldc2 C (v := 29) (by decide +kernel) dX6_tellOf_3 ?_
  refine z_callSi C (As := [.long (Int32.toInt64 x), .long 0, .long (29)]) (rest := []) (c_X6_in l θ _ (Int32.toInt64 x) 0 (29)) gX6_tellOf_X6_in rfl 3 (by decide +kernel) (by decide) (by decide) rfl rfl (Nat.le_of_ble_eq_true rfl) dX6_tellOf_6 ?_
  rintro _ _ ⟨rfl, rfl⟩
  refine z_top (v' := .int (bI (okN x 30))) (by rw [m_in_lit (N := 30) (by decide)]) ?_
  refine z_if_neB C 15 dX6_tellOf_9 (by decide) (fun _ => ?_) (fun h => absurd h (by rw [hx]; decide))
  refine z_aload_n C dX6_tellOf_15 rfl (show zlk _ 0 = some (.ref (ad 0)) from rfl) ?_
  refine z_mg C hin 27 (by decide) (by decide +kernel) (v := .int (nI (n 27))) mf_27 dX6_tellOf_16 ?_
  refine z_bipush C (v := nI 6) dX6_tellOf_19 (by decide) ?_
  refine z_icmp_neF C 27 dX6_tellOf_21 (by decide) (by omega) (by omega) (ht) ?_
  refine z_ldc C (v := (-1000000004)) (by decide +kernel) dX6_tellOf_24 ?_
  exact E _ _ _ _ (⟨rfl, rfl⟩) (rfl) dX6_tellOf_26

set_option maxHeartbeats 4000000 in
set_option maxRecDepth 100000 in
theorem c_X6_tellOf_30 (l : Launch) (θ : zH) (ad : Nat → Nat) (n : Nat → Nat) (g : Int32) (r : Nat → Nat → Int32) (x : Int32) (hx : okN x 30 = true) (ht : n 27 < 6) : cI l yX6_tellOf wsX6_tellOf 1 θ [.ref (ad 0), .int x, .int (nI 0)] (MW θ ad n g r) (fun r0 Y => r0 = nI (n 27 + 1) ∧ Y = MW θ ad (nv (n 0) (n 1) (n 3) (n 5) (n 8) (n 10) (n 12) (n 13) (n 14) (n 15) (n 16) (n 18) (n 20) (n 22) (n 27 + 1)) g (rv (r 2) (r 4) (r 6) (r 7) (r 9) (r 17) (r 19) (r 21) (r 23) (r 24) (r 25) (r 26) (upd (r 28) (n 27) x) (upd (r 29) (n 27) (nI 0)) (r 30) (r 31) (r 32))) := by
  refine z_cI (by decide) rfl rfl (Nat.le_of_ble_eq_true rfl) (lv := [(0, .ref (ad 0)), (1, .int x), (2, .int (nI 0))]) rfl (fun κ C E => ?_)
  have hin : ∀ w ∈ wsX60, w ∈ wsX6_tellOf := by decide +kernel
  refine z_iload_n C dX6_tellOf_0 rfl (show zlk _ 1 = some (.int x) from rfl) ?_
  refine z_i2l C dX6_tellOf_1 ?_
  refine z_lconst C (v := 0) dX6_tellOf_2 (by decide) ?_
  refine z_ldc2 C (v := 29) (by decide +kernel) dX6_tellOf_3 ?_
  refine z_callSi C (As := [.long (Int32.toInt64 x), .long 0, .long (29)]) (rest := []) (c_X6_in l θ _ (Int32.toInt64 x) 0 (29)) gX6_tellOf_X6_in rfl 3 (by decide +kernel) (by decide) (by decide) rfl rfl (Nat.le_of_ble_eq_true rfl) dX6_tellOf_6 ?_
  rintro _ _ ⟨rfl, rfl⟩
  refine z_top (v' := .int (bI (okN x 30))) (by rw [m_in_lit (N := 30) (by decide)]) ?_
  refine z_if_neB C 15 dX6_tellOf_9 (by decide) (fun _ => ?_) (fun h => absurd h (by rw [hx]; decide))
  refine z_aload_n C dX6_tellOf_15 rfl (show zlk _ 0 = some (.ref (ad 0)) from rfl) ?_
  refine z_mg C hin 27 (by decide) (by decide +kernel) (v := .int (nI (n 27))) mf_27 dX6_tellOf_16 ?_
  refine z_bipush C (v := nI 6) dX6_tellOf_19 (by decide) ?_
  refine z_icmp_neT C 27 dX6_tellOf_21 (by decide) (by omega) (by omega) (by omega) ?_
  refine z_aload_n C dX6_tellOf_27 rfl (show zlk _ 0 = some (.ref (ad 0)) from rfl) ?_
  refine z_mg C hin 28 (by decide) (by decide +kernel) (v := .ref (ad 28)) mf_28 dX6_tellOf_28 ?_
  refine z_aload_n C dX6_tellOf_31 rfl (show zlk _ 0 = some (.ref (ad 0)) from rfl) ?_
  refine z_mg C hin 27 (by decide) (by decide +kernel) (v := .int (nI (n 27))) mf_27 dX6_tellOf_32 ?_
  refine z_iload_n C dX6_tellOf_35 rfl (show zlk _ 1 = some (.int x) from rfl) ?_
  refine z_iast C (f := (r 28)) 13 mr_28 (n 27) rfl (by omega) (by decide) _ msn_28 dX6_tellOf_36 ?_
  refine z_aload_n C dX6_tellOf_37 rfl (show zlk _ 0 = some (.ref (ad 0)) from rfl) ?_
  refine z_mg C hin 29 (by decide) (by decide +kernel) (v := .ref (ad 29)) mf_29 dX6_tellOf_38 ?_
  refine z_aload_n C dX6_tellOf_41 rfl (show zlk _ 0 = some (.ref (ad 0)) from rfl) ?_
  refine z_mg C hin 27 (by decide) (by decide +kernel) (v := .int (nI (n 27))) mf_27 dX6_tellOf_42 ?_
  refine z_iload_n C dX6_tellOf_45 rfl (show zlk _ 2 = some (.int (nI 0)) from rfl) ?_
  refine z_if_eqN C 53 dX6_tellOf_46 (by decide) (by decide) (fun _ => ?_) (fun h => absurd h (by decide))
  refine z_iconst C (v := nI 0) dX6_tellOf_53 (by decide) ?_
  refine z_iast C (f := (r 29)) 14 mrv_29 (n 27) rfl (by omega) (by decide) _ msv_29 dX6_tellOf_54 ?_
  refine z_aload_n C dX6_tellOf_55 rfl (show zlk _ 0 = some (.ref (ad 0)) from rfl) ?_
  refine z_dup C dX6_tellOf_56 rfl ?_
  refine z_mg C hin 27 (by decide) (by decide +kernel) (v := .int (nI (n 27))) mf_27 dX6_tellOf_57 ?_
  refine z_iconst C (v := nI 1) dX6_tellOf_60 (by decide) ?_
  refine z_iaddN C dX6_tellOf_61 ?_
  refine z_mp C hin 27 (by decide) (by decide +kernel) rfl rfl mpn_27 dX6_tellOf_62 ?_
  refine z_aload_n C dX6_tellOf_65 rfl (show zlk _ 0 = some (.ref (ad 0)) from rfl) ?_
  refine z_mg C hin 27 (by decide) (by decide +kernel) (v := .int (nI (n 27 + 1))) mfv_27 dX6_tellOf_66 ?_
  exact E _ _ _ _ (⟨rfl, (mw_eq rfl rfl rfl rfl rfl rfl rfl rfl rfl rfl rfl rfl rfl rfl rfl rfl rfl rfl rfl rfl rfl rfl rfl rfl rfl rfl rfl rfl rfl rfl rfl rfl)⟩) (rfl) dX6_tellOf_69

set_option maxHeartbeats 4000000 in
set_option maxRecDepth 100000 in
theorem c_X6_tellOf_31 (l : Launch) (θ : zH) (ad : Nat → Nat) (n : Nat → Nat) (g : Int32) (r : Nat → Nat → Int32) (x : Int32) (hx : okN x 30 = true) (ht : n 27 < 6) : cI l yX6_tellOf wsX6_tellOf 1 θ [.ref (ad 0), .int x, .int (nI 1)] (MW θ ad n g r) (fun r0 Y => r0 = nI (n 27 + 1) ∧ Y = MW θ ad (nv (n 0) (n 1) (n 3) (n 5) (n 8) (n 10) (n 12) (n 13) (n 14) (n 15) (n 16) (n 18) (n 20) (n 22) (n 27 + 1)) g (rv (r 2) (r 4) (r 6) (r 7) (r 9) (r 17) (r 19) (r 21) (r 23) (r 24) (r 25) (r 26) (upd (r 28) (n 27) x) (upd (r 29) (n 27) (nI 1)) (r 30) (r 31) (r 32))) := by
  refine z_cI (by decide) rfl rfl (Nat.le_of_ble_eq_true rfl) (lv := [(0, .ref (ad 0)), (1, .int x), (2, .int (nI 1))]) rfl (fun κ C E => ?_)
  have hin : ∀ w ∈ wsX60, w ∈ wsX6_tellOf := by decide +kernel
  refine z_iload_n C dX6_tellOf_0 rfl (show zlk _ 1 = some (.int x) from rfl) ?_
  refine z_i2l C dX6_tellOf_1 ?_
  refine z_lconst C (v := 0) dX6_tellOf_2 (by decide) ?_
  refine z_ldc2 C (v := 29) (by decide +kernel) dX6_tellOf_3 ?_
  refine z_callSi C (As := [.long (Int32.toInt64 x), .long 0, .long (29)]) (rest := []) (c_X6_in l θ _ (Int32.toInt64 x) 0 (29)) gX6_tellOf_X6_in rfl 3 (by decide +kernel) (by decide) (by decide) rfl rfl (Nat.le_of_ble_eq_true rfl) dX6_tellOf_6 ?_
  rintro _ _ ⟨rfl, rfl⟩
  refine z_top (v' := .int (bI (okN x 30))) (by rw [m_in_lit (N := 30) (by decide)]) ?_
  refine z_if_neB C 15 dX6_tellOf_9 (by decide) (fun _ => ?_) (fun h => absurd h (by rw [hx]; decide))
  refine z_aload_n C dX6_tellOf_15 rfl (show zlk _ 0 = some (.ref (ad 0)) from rfl) ?_
  refine z_mg C hin 27 (by decide) (by decide +kernel) (v := .int (nI (n 27))) mf_27 dX6_tellOf_16 ?_
  refine z_bipush C (v := nI 6) dX6_tellOf_19 (by decide) ?_
  refine z_icmp_neT C 27 dX6_tellOf_21 (by decide) (by omega) (by omega) (by omega) ?_
  refine z_aload_n C dX6_tellOf_27 rfl (show zlk _ 0 = some (.ref (ad 0)) from rfl) ?_
  refine z_mg C hin 28 (by decide) (by decide +kernel) (v := .ref (ad 28)) mf_28 dX6_tellOf_28 ?_
  refine z_aload_n C dX6_tellOf_31 rfl (show zlk _ 0 = some (.ref (ad 0)) from rfl) ?_
  refine z_mg C hin 27 (by decide) (by decide +kernel) (v := .int (nI (n 27))) mf_27 dX6_tellOf_32 ?_
  refine z_iload_n C dX6_tellOf_35 rfl (show zlk _ 1 = some (.int x) from rfl) ?_
  refine z_iast C (f := (r 28)) 13 mr_28 (n 27) rfl (by omega) (by decide) _ msn_28 dX6_tellOf_36 ?_
  refine z_aload_n C dX6_tellOf_37 rfl (show zlk _ 0 = some (.ref (ad 0)) from rfl) ?_
  refine z_mg C hin 29 (by decide) (by decide +kernel) (v := .ref (ad 29)) mf_29 dX6_tellOf_38 ?_
  refine z_aload_n C dX6_tellOf_41 rfl (show zlk _ 0 = some (.ref (ad 0)) from rfl) ?_
  refine z_mg C hin 27 (by decide) (by decide +kernel) (v := .int (nI (n 27))) mf_27 dX6_tellOf_42 ?_
  refine z_iload_n C dX6_tellOf_45 rfl (show zlk _ 2 = some (.int (nI 1)) from rfl) ?_
  refine z_if_eqN C 53 dX6_tellOf_46 (by decide) (by decide) (fun h => absurd h (by decide)) (fun _ => ?_)
  refine z_iconst C (v := nI 1) dX6_tellOf_49 (by decide) ?_
  refine z_goto C 54 dX6_tellOf_50 (by decide) ?_
  refine z_iast C (f := (r 29)) 14 mrv_29 (n 27) rfl (by omega) (by decide) _ msv_29 dX6_tellOf_54 ?_
  refine z_aload_n C dX6_tellOf_55 rfl (show zlk _ 0 = some (.ref (ad 0)) from rfl) ?_
  refine z_dup C dX6_tellOf_56 rfl ?_
  refine z_mg C hin 27 (by decide) (by decide +kernel) (v := .int (nI (n 27))) mf_27 dX6_tellOf_57 ?_
  refine z_iconst C (v := nI 1) dX6_tellOf_60 (by decide) ?_
  refine z_iaddN C dX6_tellOf_61 ?_
  refine z_mp C hin 27 (by decide) (by decide +kernel) rfl rfl mpn_27 dX6_tellOf_62 ?_
  refine z_aload_n C dX6_tellOf_65 rfl (show zlk _ 0 = some (.ref (ad 0)) from rfl) ?_
  refine z_mg C hin 27 (by decide) (by decide +kernel) (v := .int (nI (n 27 + 1))) mfv_27 dX6_tellOf_66 ?_
  exact E _ _ _ _ (⟨rfl, (mw_eq rfl rfl rfl rfl rfl rfl rfl rfl rfl rfl rfl rfl rfl rfl rfl rfl rfl rfl rfl rfl rfl rfl rfl rfl rfl rfl rfl rfl rfl rfl rfl rfl)⟩) (rfl) dX6_tellOf_69

set_option maxHeartbeats 4000000 in
set_option maxRecDepth 100000 in
theorem c_X6_sitter_1 (l : Launch) (θ : zH) (ad : Nat → Nat) (n : Nat → Nat) (g : Int32) (r : Nat → Nat → Int32) (s x : Int32) (hS : n 1 ≤ 6) (hj : okN s (n 1) = false) : cI l yX6_sitter wsX6_sitter 2 θ [.ref (ad 0), .int s, .int x] (MW θ ad n g r) (fun r0 Y => r0 = (-1000000001) ∧ Y = MW θ ad n g r) := by
  refine z_cI (by decide) rfl rfl (Nat.le_of_ble_eq_true rfl) (lv := [(0, .ref (ad 0)), (1, .int s), (2, .int x)]) rfl (fun κ C E => ?_)
  refine z_aload_n C dX6_sitter_0 rfl (show zlk _ 0 = some (.ref (ad 0)) from rfl) ?_
  refine z_iload_n C dX6_sitter_1 rfl (show zlk _ 1 = some (.int s) from rfl) ?_
  refine z_callVi C (As := [.int s]) (rest := []) (c_X6_isSitter l θ ad n g r s (by omega)) gX6_sitter_X6_isSitter rfl 1 (by decide +kernel) (by decide) (by decide) 0 rfl rfl rfl rfl rfl (Nat.le_of_ble_eq_true rfl) dX6_sitter_2 ?_
  rintro _ _ ⟨rfl, rfl⟩
  refine z_if_neB C 11 dX6_sitter_5 (by decide) (fun h => absurd h (by rw [hj]; decide)) (fun _ => ?_)
  refine z_ldc C (v := (-1000000001)) (by decide +kernel) dX6_sitter_8 ?_
  exact E _ _ _ _ (⟨rfl, rfl⟩) (rfl) dX6_sitter_10

set_option maxHeartbeats 4000000 in
set_option maxRecDepth 100000 in
theorem c_X6_sitter_20 (l : Launch) (θ : zH) (ad : Nat → Nat) (n : Nat → Nat) (g : Int32) (r : Nat → Nat → Int32) (j cnt : Nat) (hS : n 1 ≤ 6) (hj : j < n 1) (hc : r 7 21 = nI cnt) (hb : cnt ≤ 20) : cI l yX6_sitter wsX6_sitter 2 θ [.ref (ad 0), .int (nI j), .int (nI 0)] (MW θ ad n g r) (fun r0 Y => r0 = r 2 j ∧ Y = MW θ ad n g r) := by
  refine z_cI (by decide) rfl rfl (Nat.le_of_ble_eq_true rfl) (lv := [(0, .ref (ad 0)), (1, .int (nI j)), (2, .int (nI 0))]) rfl (fun κ C E => ?_)
  have hin : ∀ w ∈ wsX60, w ∈ wsX6_sitter := by decide +kernel
  refine z_aload_n C dX6_sitter_0 rfl (show zlk _ 0 = some (.ref (ad 0)) from rfl) ?_
  refine z_iload_n C dX6_sitter_1 rfl (show zlk _ 1 = some (.int (nI j)) from rfl) ?_
  refine z_callVi C (As := [.int (nI j)]) (rest := []) (c_X6_isSitter l θ ad n g r (nI j) (by omega)) gX6_sitter_X6_isSitter rfl 1 (by decide +kernel) (by decide) (by decide) 0 rfl rfl rfl rfl rfl (Nat.le_of_ble_eq_true rfl) dX6_sitter_2 ?_
  rintro _ _ ⟨rfl, rfl⟩
  refine z_if_neB C 11 dX6_sitter_5 (by decide) (fun _ => ?_) (fun h => absurd h (by rw [okN_lt hj (by omega)]; decide))
  refine z_iload_n C dX6_sitter_11 rfl (show zlk _ 2 = some (.int (nI 0)) from rfl) ?_
  refine z_if_neN C 24 dX6_sitter_12 (by decide) (by decide) (fun h => absurd h (by decide)) (fun _ => ?_)
  refine z_aload_n C dX6_sitter_15 rfl (show zlk _ 0 = some (.ref (ad 0)) from rfl) ?_
  refine z_mg C hin 2 (by decide) (by decide +kernel) (v := .ref (ad 2)) mf_2 dX6_sitter_16 ?_
  refine z_iload_n C dX6_sitter_19 rfl (show zlk _ 1 = some (.int (nI j)) from rfl) ?_
  refine z_iald C (f := (r 2)) 1 mr_2 j rfl (by omega) (by decide) dX6_sitter_20 ?_
  refine z_goto C 56 dX6_sitter_21 (by decide) ?_
  exact E _ _ _ _ (⟨rfl, rfl⟩) (rfl) dX6_sitter_56

set_option maxHeartbeats 4000000 in
set_option maxRecDepth 100000 in
theorem c_X6_sitter_21 (l : Launch) (θ : zH) (ad : Nat → Nat) (n : Nat → Nat) (g : Int32) (r : Nat → Nat → Int32) (j cnt : Nat) (hS : n 1 ≤ 6) (hj : j < n 1) (hc : r 7 21 = nI cnt) (hb : cnt ≤ 20) : cI l yX6_sitter wsX6_sitter 2 θ [.ref (ad 0), .int (nI j), .int (nI 1)] (MW θ ad n g r) (fun r0 Y => r0 = r 7 (6 + j) ∧ Y = MW θ ad n g r) := by
  refine z_cI (by decide) rfl rfl (Nat.le_of_ble_eq_true rfl) (lv := [(0, .ref (ad 0)), (1, .int (nI j)), (2, .int (nI 1))]) rfl (fun κ C E => ?_)
  have hin : ∀ w ∈ wsX60, w ∈ wsX6_sitter := by decide +kernel
  refine z_aload_n C dX6_sitter_0 rfl (show zlk _ 0 = some (.ref (ad 0)) from rfl) ?_
  refine z_iload_n C dX6_sitter_1 rfl (show zlk _ 1 = some (.int (nI j)) from rfl) ?_
  refine z_callVi C (As := [.int (nI j)]) (rest := []) (c_X6_isSitter l θ ad n g r (nI j) (by omega)) gX6_sitter_X6_isSitter rfl 1 (by decide +kernel) (by decide) (by decide) 0 rfl rfl rfl rfl rfl (Nat.le_of_ble_eq_true rfl) dX6_sitter_2 ?_
  rintro _ _ ⟨rfl, rfl⟩
  refine z_if_neB C 11 dX6_sitter_5 (by decide) (fun _ => ?_) (fun h => absurd h (by rw [okN_lt hj (by omega)]; decide))
  refine z_iload_n C dX6_sitter_11 rfl (show zlk _ 2 = some (.int (nI 1)) from rfl) ?_
  refine z_if_neN C 24 dX6_sitter_12 (by decide) (by decide) (fun _ => ?_) (fun h => absurd h (by decide))
  refine z_iload_n C dX6_sitter_24 rfl (show zlk _ 2 = some (.int (nI 1)) from rfl) ?_
  refine z_iconst C (v := nI 1) dX6_sitter_25 (by decide) ?_
  refine z_icmp_neF C 41 dX6_sitter_26 (by decide) (by omega) (by omega) (by decide) ?_
  refine z_aload_n C dX6_sitter_29 rfl (show zlk _ 0 = some (.ref (ad 0)) from rfl) ?_
  refine z_mg C hin 7 (by decide) (by decide +kernel) (v := .ref (ad 7)) mf_7 dX6_sitter_30 ?_
  refine z_bipush C (v := nI 6) dX6_sitter_33 (by decide) ?_
  refine z_iload_n C dX6_sitter_35 rfl (show zlk _ 1 = some (.int (nI j)) from rfl) ?_
  refine z_iaddN C dX6_sitter_36 ?_
  refine z_iald C (f := (r 7)) 4 mr_7 (6 + j) rfl (by omega) (by decide) dX6_sitter_37 ?_
  refine z_goto C 56 dX6_sitter_38 (by decide) ?_
  exact E _ _ _ _ (⟨rfl, rfl⟩) (rfl) dX6_sitter_56

set_option maxHeartbeats 4000000 in
set_option maxRecDepth 100000 in
theorem c_X6_sitter_22 (l : Launch) (θ : zH) (ad : Nat → Nat) (n : Nat → Nat) (g : Int32) (r : Nat → Nat → Int32) (j cnt : Nat) (hS : n 1 ≤ 6) (hj : j < n 1) (hc : r 7 21 = nI cnt) (hb : cnt ≤ 20) : cI l yX6_sitter wsX6_sitter 2 θ [.ref (ad 0), .int (nI j), .int (nI 2)] (MW θ ad n g r) (fun r0 Y => r0 = m_oft (r 7) (nI j) cnt ∧ Y = MW θ ad n g r) := by
  refine z_cI (by decide) rfl rfl (Nat.le_of_ble_eq_true rfl) (lv := [(0, .ref (ad 0)), (1, .int (nI j)), (2, .int (nI 2))]) rfl (fun κ C E => ?_)
  refine z_aload_n C dX6_sitter_0 rfl (show zlk _ 0 = some (.ref (ad 0)) from rfl) ?_
  refine z_iload_n C dX6_sitter_1 rfl (show zlk _ 1 = some (.int (nI j)) from rfl) ?_
  refine z_callVi C (As := [.int (nI j)]) (rest := []) (c_X6_isSitter l θ ad n g r (nI j) (by omega)) gX6_sitter_X6_isSitter rfl 1 (by decide +kernel) (by decide) (by decide) 0 rfl rfl rfl rfl rfl (Nat.le_of_ble_eq_true rfl) dX6_sitter_2 ?_
  rintro _ _ ⟨rfl, rfl⟩
  refine z_if_neB C 11 dX6_sitter_5 (by decide) (fun _ => ?_) (fun h => absurd h (by rw [okN_lt hj (by omega)]; decide))
  refine z_iload_n C dX6_sitter_11 rfl (show zlk _ 2 = some (.int (nI 2)) from rfl) ?_
  refine z_if_neN C 24 dX6_sitter_12 (by decide) (by decide) (fun _ => ?_) (fun h => absurd h (by decide))
  refine z_iload_n C dX6_sitter_24 rfl (show zlk _ 2 = some (.int (nI 2)) from rfl) ?_
  refine z_iconst C (v := nI 1) dX6_sitter_25 (by decide) ?_
  refine z_icmp_neT C 41 dX6_sitter_26 (by decide) (by omega) (by omega) (by decide) ?_
  refine z_iload_n C dX6_sitter_41 rfl (show zlk _ 2 = some (.int (nI 2)) from rfl) ?_
  refine z_iconst C (v := nI 2) dX6_sitter_42 (by decide) ?_
  refine z_icmp_neF C 54 dX6_sitter_43 (by decide) (by omega) (by omega) (by decide) ?_
  refine z_aload_n C dX6_sitter_46 rfl (show zlk _ 0 = some (.ref (ad 0)) from rfl) ?_
  refine z_iload_n C dX6_sitter_47 rfl (show zlk _ 1 = some (.int (nI j)) from rfl) ?_
  refine z_callVi C (As := [.int (nI j)]) (rest := []) (c_X6_often l θ ad n g r (nI j) cnt (hc) (hb)) gX6_sitter_X6_often rfl 1 (by decide +kernel) (by decide) (by decide) 0 rfl rfl rfl rfl rfl (Nat.le_of_ble_eq_true rfl) dX6_sitter_48 ?_
  rintro _ _ ⟨rfl, rfl⟩
  refine z_goto C 56 dX6_sitter_51 (by decide) ?_
  exact E _ _ _ _ (⟨rfl, rfl⟩) (rfl) dX6_sitter_56

set_option maxHeartbeats 4000000 in
set_option maxRecDepth 100000 in
theorem c_X6_sitter_3 (l : Launch) (θ : zH) (ad : Nat → Nat) (n : Nat → Nat) (g : Int32) (r : Nat → Nat → Int32) (j : Nat) (x : Int32) (hS : n 1 ≤ 6) (hj : j < n 1) (hx : okN x 3 = false) : cI l yX6_sitter wsX6_sitter 2 θ [.ref (ad 0), .int (nI j), .int x] (MW θ ad n g r) (fun r0 Y => r0 = (-1000000002) ∧ Y = MW θ ad n g r) := by
  refine z_cI (by decide) rfl rfl (Nat.le_of_ble_eq_true rfl) (lv := [(0, .ref (ad 0)), (1, .int (nI j)), (2, .int x)]) rfl (fun κ C E => ?_)
  refine z_aload_n C dX6_sitter_0 rfl (show zlk _ 0 = some (.ref (ad 0)) from rfl) ?_
  refine z_iload_n C dX6_sitter_1 rfl (show zlk _ 1 = some (.int (nI j)) from rfl) ?_
  refine z_callVi C (As := [.int (nI j)]) (rest := []) (c_X6_isSitter l θ ad n g r (nI j) (by omega)) gX6_sitter_X6_isSitter rfl 1 (by decide +kernel) (by decide) (by decide) 0 rfl rfl rfl rfl rfl (Nat.le_of_ble_eq_true rfl) dX6_sitter_2 ?_
  rintro _ _ ⟨rfl, rfl⟩
  refine z_if_neB C 11 dX6_sitter_5 (by decide) (fun _ => ?_) (fun h => absurd h (by rw [okN_lt hj (by omega)]; decide))
  refine z_iload_n C dX6_sitter_11 rfl (show zlk _ 2 = some (.int x) from rfl) ?_
  refine z_if_ne C 24 dX6_sitter_12 (by decide) (fun h12t_1 => ?_) (fun h12t_1 => absurd h12t_1 (okN_ne (k := 0) hx (by decide) (by decide)))
  refine z_iload_n C dX6_sitter_24 rfl (show zlk _ 2 = some (.int x) from rfl) ?_
  refine z_iconst C (v := nI 1) dX6_sitter_25 (by decide) ?_
  refine z_icmp_ne C 41 dX6_sitter_26 (by decide) (fun h26t_2 => ?_) (fun h26t_2 => absurd h26t_2 (okN_ne (k := 1) hx (by decide) (by decide)))
  refine z_iload_n C dX6_sitter_41 rfl (show zlk _ 2 = some (.int x) from rfl) ?_
  refine z_iconst C (v := nI 2) dX6_sitter_42 (by decide) ?_
  refine z_icmp_ne C 54 dX6_sitter_43 (by decide) (fun h43t_3 => ?_) (fun h43t_3 => absurd h43t_3 (okN_ne (k := 2) hx (by decide) (by decide)))
  refine z_ldc C (v := (-1000000002)) (by decide +kernel) dX6_sitter_54 ?_
  exact E _ _ _ _ (⟨rfl, rfl⟩) (rfl) dX6_sitter_56

set_option maxHeartbeats 4000000 in
set_option maxRecDepth 100000 in
theorem c_X6_window_1 (l : Launch) (θ : zH) (ad : Nat → Nat) (n : Nat → Nat) (g : Int32) (r : Nat → Nat → Int32) (w x : Int32) (hW : n 3 ≤ 5) (hw : okN w (n 3) = false) : cI l yX6_window wsX6_window 4 θ [.ref (ad 0), .int w, .int x] (MW θ ad n g r) (fun r0 Y => r0 = (-1000000001) ∧ Y = MW θ ad n g r) := by
  refine z_cI (by decide) rfl rfl (Nat.le_of_ble_eq_true rfl) (lv := [(0, .ref (ad 0)), (1, .int w), (2, .int x)]) rfl (fun κ C E => ?_)
  refine z_aload_n C dX6_window_0 rfl (show zlk _ 0 = some (.ref (ad 0)) from rfl) ?_
  refine z_iload_n C dX6_window_1 rfl (show zlk _ 1 = some (.int w) from rfl) ?_
  refine z_callVi C (As := [.int w]) (rest := []) (c_X6_isWindow l θ ad n g r w (by omega)) gX6_window_X6_isWindow rfl 1 (by decide +kernel) (by decide) (by decide) 0 rfl rfl rfl rfl rfl (Nat.le_of_ble_eq_true rfl) dX6_window_2 ?_
  rintro _ _ ⟨rfl, rfl⟩
  refine z_if_neB C 11 dX6_window_5 (by decide) (fun h => absurd h (by rw [hw]; decide)) (fun _ => ?_)
  refine z_ldc C (v := (-1000000001)) (by decide +kernel) dX6_window_8 ?_
  exact E _ _ _ _ (⟨rfl, rfl⟩) (rfl) dX6_window_10

set_option maxHeartbeats 4000000 in
set_option maxRecDepth 100000 in
theorem c_X6_window_20 (l : Launch) (θ : zH) (ad : Nat → Nat) (n : Nat → Nat) (g : Int32) (r : Nat → Nat → Int32) (w : Nat) (hW : n 3 ≤ 5) (hw : w < n 3) (hS : n 1 ≤ 6) (h0 : n 0 ≤ 30) : cI l yX6_window wsX6_window 4 θ [.ref (ad 0), .int (nI w), .int (nI 0)] (MW θ ad n g r) (fun r0 Y => r0 = r 7 (12 + w) ∧ Y = MW θ ad n g r) := by
  refine z_cI (by decide) rfl rfl (Nat.le_of_ble_eq_true rfl) (lv := [(0, .ref (ad 0)), (1, .int (nI w)), (2, .int (nI 0))]) rfl (fun κ C E => ?_)
  have hin : ∀ w ∈ wsX60, w ∈ wsX6_window := by decide +kernel
  refine z_aload_n C dX6_window_0 rfl (show zlk _ 0 = some (.ref (ad 0)) from rfl) ?_
  refine z_iload_n C dX6_window_1 rfl (show zlk _ 1 = some (.int (nI w)) from rfl) ?_
  refine z_callVi C (As := [.int (nI w)]) (rest := []) (c_X6_isWindow l θ ad n g r (nI w) (by omega)) gX6_window_X6_isWindow rfl 1 (by decide +kernel) (by decide) (by decide) 0 rfl rfl rfl rfl rfl (Nat.le_of_ble_eq_true rfl) dX6_window_2 ?_
  rintro _ _ ⟨rfl, rfl⟩
  refine z_if_neB C 11 dX6_window_5 (by decide) (fun _ => ?_) (fun h => absurd h (by rw [okN_lt hw (by omega)]; decide))
  refine z_iload_n C dX6_window_11 rfl (show zlk _ 2 = some (.int (nI 0)) from rfl) ?_
  refine z_tableIn C 44 dX6_window_12 (by decide) (by decide) (off := 32) (by decide) (by decide) ?_
  refine z_aload_n C dX6_window_44 rfl (show zlk _ 0 = some (.ref (ad 0)) from rfl) ?_
  refine z_mg C hin 7 (by decide) (by decide +kernel) (v := .ref (ad 7)) mf_7 dX6_window_45 ?_
  refine z_bipush C (v := nI 12) dX6_window_48 (by decide) ?_
  refine z_iload_n C dX6_window_50 rfl (show zlk _ 1 = some (.int (nI w)) from rfl) ?_
  refine z_iaddN C dX6_window_51 ?_
  refine z_iald C (f := (r 7)) 4 mr_7 (12 + w) rfl (by omega) (by decide) dX6_window_52 ?_
  exact E _ _ _ _ (⟨rfl, rfl⟩) (rfl) dX6_window_53

set_option maxHeartbeats 4000000 in
set_option maxRecDepth 100000 in
theorem c_X6_window_21 (l : Launch) (θ : zH) (ad : Nat → Nat) (n : Nat → Nat) (g : Int32) (r : Nat → Nat → Int32) (w : Nat) (hW : n 3 ≤ 5) (hw : w < n 3) (hS : n 1 ≤ 6) (h0 : n 0 ≤ 30) : cI l yX6_window wsX6_window 4 θ [.ref (ad 0), .int (nI w), .int (nI 1)] (MW θ ad n g r) (fun r0 Y => r0 = m_who (r 7) (nI w) (n 1) ∧ Y = MW θ ad n g r) := by
  refine z_cI (by decide) rfl rfl (Nat.le_of_ble_eq_true rfl) (lv := [(0, .ref (ad 0)), (1, .int (nI w)), (2, .int (nI 1))]) rfl (fun κ C E => ?_)
  refine z_aload_n C dX6_window_0 rfl (show zlk _ 0 = some (.ref (ad 0)) from rfl) ?_
  refine z_iload_n C dX6_window_1 rfl (show zlk _ 1 = some (.int (nI w)) from rfl) ?_
  refine z_callVi C (As := [.int (nI w)]) (rest := []) (c_X6_isWindow l θ ad n g r (nI w) (by omega)) gX6_window_X6_isWindow rfl 1 (by decide +kernel) (by decide) (by decide) 0 rfl rfl rfl rfl rfl (Nat.le_of_ble_eq_true rfl) dX6_window_2 ?_
  rintro _ _ ⟨rfl, rfl⟩
  refine z_if_neB C 11 dX6_window_5 (by decide) (fun _ => ?_) (fun h => absurd h (by rw [okN_lt hw (by omega)]; decide))
  refine z_iload_n C dX6_window_11 rfl (show zlk _ 2 = some (.int (nI 1)) from rfl) ?_
  refine z_tableIn C 54 dX6_window_12 (by decide) (by decide) (off := 42) (by decide) (by decide) ?_
  refine z_aload_n C dX6_window_54 rfl (show zlk _ 0 = some (.ref (ad 0)) from rfl) ?_
  refine z_iload_n C dX6_window_55 rfl (show zlk _ 1 = some (.int (nI w)) from rfl) ?_
  refine z_callVi C (As := [.int (nI w)]) (rest := []) (c_X6_whoIsAt l θ ad n g r (nI w) (hS)) gX6_window_X6_whoIsAt rfl 1 (by decide +kernel) (by decide) (by decide) 0 rfl rfl rfl rfl rfl (Nat.le_of_ble_eq_true rfl) dX6_window_56 ?_
  rintro _ _ ⟨rfl, rfl⟩
  exact E _ _ _ _ (⟨rfl, rfl⟩) (rfl) dX6_window_59

set_option maxHeartbeats 4000000 in
set_option maxRecDepth 100000 in
theorem c_X6_window_22 (l : Launch) (θ : zH) (ad : Nat → Nat) (n : Nat → Nat) (g : Int32) (r : Nat → Nat → Int32) (w : Nat) (hW : n 3 ≤ 5) (hw : w < n 3) (hS : n 1 ≤ 6) (h0 : n 0 ≤ 30) : cI l yX6_window wsX6_window 4 θ [.ref (ad 0), .int (nI w), .int (nI 2)] (MW θ ad n g r) (fun r0 Y => r0 = m_dAt n r w ∧ Y = MW θ ad n g r) := by
  refine z_cI (by decide) rfl rfl (Nat.le_of_ble_eq_true rfl) (lv := [(0, .ref (ad 0)), (1, .int (nI w)), (2, .int (nI 2))]) rfl (fun κ C E => ?_)
  refine z_aload_n C dX6_window_0 rfl (show zlk _ 0 = some (.ref (ad 0)) from rfl) ?_
  refine z_iload_n C dX6_window_1 rfl (show zlk _ 1 = some (.int (nI w)) from rfl) ?_
  refine z_callVi C (As := [.int (nI w)]) (rest := []) (c_X6_isWindow l θ ad n g r (nI w) (by omega)) gX6_window_X6_isWindow rfl 1 (by decide +kernel) (by decide) (by decide) 0 rfl rfl rfl rfl rfl (Nat.le_of_ble_eq_true rfl) dX6_window_2 ?_
  rintro _ _ ⟨rfl, rfl⟩
  refine z_if_neB C 11 dX6_window_5 (by decide) (fun _ => ?_) (fun h => absurd h (by rw [okN_lt hw (by omega)]; decide))
  refine z_iload_n C dX6_window_11 rfl (show zlk _ 2 = some (.int (nI 2)) from rfl) ?_
  refine z_tableIn C 60 dX6_window_12 (by decide) (by decide) (off := 48) (by decide) (by decide) ?_
  refine z_aload_n C dX6_window_60 rfl (show zlk _ 0 = some (.ref (ad 0)) from rfl) ?_
  refine z_iload_n C dX6_window_61 rfl (show zlk _ 1 = some (.int (nI w)) from rfl) ?_
  refine z_callVi C (As := [.int (nI w)]) (rest := []) (c_X6_drawnAt l θ ad n g r w (show w < 5 by omega) (hS) (h0)) gX6_window_X6_drawnAt rfl 1 (by decide +kernel) (by decide) (by decide) 0 rfl rfl rfl rfl rfl (Nat.le_of_ble_eq_true rfl) dX6_window_62 ?_
  rintro _ _ ⟨rfl, rfl⟩
  exact E _ _ _ _ (⟨rfl, rfl⟩) (rfl) dX6_window_65

set_option maxHeartbeats 4000000 in
set_option maxRecDepth 100000 in
theorem c_X6_window_23 (l : Launch) (θ : zH) (ad : Nat → Nat) (n : Nat → Nat) (g : Int32) (r : Nat → Nat → Int32) (w : Nat) (hW : n 3 ≤ 5) (hw : w < n 3) (hS : n 1 ≤ 6) (h0 : n 0 ≤ 30) : cI l yX6_window wsX6_window 4 θ [.ref (ad 0), .int (nI w), .int (nI 3)] (MW θ ad n g r) (fun r0 Y => r0 = (if m_dAt n r w = nI 0 then (-1) else (m_ml (r 2) (m_dAt n r w) (nI 1073741823) (n 1)).1) ∧ Y = MW θ ad n g r) := by
  refine z_cI (by decide) rfl rfl (Nat.le_of_ble_eq_true rfl) (lv := [(0, .ref (ad 0)), (1, .int (nI w)), (2, .int (nI 3))]) rfl (fun κ C E => ?_)
  refine z_aload_n C dX6_window_0 rfl (show zlk _ 0 = some (.ref (ad 0)) from rfl) ?_
  refine z_iload_n C dX6_window_1 rfl (show zlk _ 1 = some (.int (nI w)) from rfl) ?_
  refine z_callVi C (As := [.int (nI w)]) (rest := []) (c_X6_isWindow l θ ad n g r (nI w) (by omega)) gX6_window_X6_isWindow rfl 1 (by decide +kernel) (by decide) (by decide) 0 rfl rfl rfl rfl rfl (Nat.le_of_ble_eq_true rfl) dX6_window_2 ?_
  rintro _ _ ⟨rfl, rfl⟩
  refine z_if_neB C 11 dX6_window_5 (by decide) (fun _ => ?_) (fun h => absurd h (by rw [okN_lt hw (by omega)]; decide))
  refine z_iload_n C dX6_window_11 rfl (show zlk _ 2 = some (.int (nI 3)) from rfl) ?_
  refine z_tableIn C 66 dX6_window_12 (by decide) (by decide) (off := 54) (by decide) (by decide) ?_
  refine z_aload_n C dX6_window_66 rfl (show zlk _ 0 = some (.ref (ad 0)) from rfl) ?_
  refine z_iload_n C dX6_window_67 rfl (show zlk _ 1 = some (.int (nI w)) from rfl) ?_
  refine z_callVi C (As := [.int (nI w)]) (rest := []) (c_X6_drawnAt l θ ad n g r w (show w < 5 by omega) (hS) (h0)) gX6_window_X6_drawnAt rfl 1 (by decide +kernel) (by decide) (by decide) 0 rfl rfl rfl rfl rfl (Nat.le_of_ble_eq_true rfl) dX6_window_68 ?_
  rintro _ _ ⟨rfl, rfl⟩
  refine z_if_ne C 78 dX6_window_71 (by decide) (fun h71t_1 => ?_) (fun h71n_1 => ?_)
  · refine z_aload_n C dX6_window_78 rfl (show zlk _ 0 = some (.ref (ad 0)) from rfl) ?_
    refine z_aload_n C dX6_window_79 rfl (show zlk _ 0 = some (.ref (ad 0)) from rfl) ?_
    refine z_iload_n C dX6_window_80 rfl (show zlk _ 1 = some (.int (nI w)) from rfl) ?_
    refine z_callVi C (As := [.int (nI w)]) (rest := [.ref (ad 0)]) (c_X6_drawnAt l θ ad n g r w (show w < 5 by omega) (hS) (h0)) gX6_window_X6_drawnAt rfl 1 (by decide +kernel) (by decide) (by decide) 0 rfl rfl rfl rfl rfl (Nat.le_of_ble_eq_true rfl) dX6_window_81 ?_
    rintro _ _ ⟨rfl, rfl⟩
    refine z_ldc C (v := 1073741823) (by decide +kernel) dX6_window_84 ?_
    refine z_top (v' := .int (nI 1073741823)) rfl ?_
    refine z_callVi C (As := [.int (m_dAt n r w), .int (nI 1073741823)]) (rest := []) (c_X6_mostLike l θ ad n g r (m_dAt n r w) (nI 1073741823) (hS)) gX6_window_X6_mostLike rfl 2 (by decide +kernel) (by decide) (by decide) 0 rfl rfl rfl rfl rfl (Nat.le_of_ble_eq_true rfl) dX6_window_86 ?_
    rintro _ _ ⟨rfl, rfl⟩
    exact E _ _ _ _ (⟨by rw [if_neg (show ¬ m_dAt n r w = nI 0 from h71t_1)], rfl⟩) (rfl) dX6_window_89
  · refine z_iconst C (v := (-1)) dX6_window_74 (by decide) ?_
    refine z_goto C 89 dX6_window_75 (by decide) ?_
    exact E _ _ _ _ (⟨by rw [if_pos (show m_dAt n r w = nI 0 from h71n_1)], rfl⟩) (rfl) dX6_window_89

set_option maxHeartbeats 4000000 in
set_option maxRecDepth 100000 in
theorem c_X6_window_3 (l : Launch) (θ : zH) (ad : Nat → Nat) (n : Nat → Nat) (g : Int32) (r : Nat → Nat → Int32) (w : Nat) (x : Int32) (hW : n 3 ≤ 5) (hw : w < n 3) (hx : okN x 4 = false) : cI l yX6_window wsX6_window 4 θ [.ref (ad 0), .int (nI w), .int x] (MW θ ad n g r) (fun r0 Y => r0 = (-1000000002) ∧ Y = MW θ ad n g r) := by
  refine z_cI (by decide) rfl rfl (Nat.le_of_ble_eq_true rfl) (lv := [(0, .ref (ad 0)), (1, .int (nI w)), (2, .int x)]) rfl (fun κ C E => ?_)
  refine z_aload_n C dX6_window_0 rfl (show zlk _ 0 = some (.ref (ad 0)) from rfl) ?_
  refine z_iload_n C dX6_window_1 rfl (show zlk _ 1 = some (.int (nI w)) from rfl) ?_
  refine z_callVi C (As := [.int (nI w)]) (rest := []) (c_X6_isWindow l θ ad n g r (nI w) (by omega)) gX6_window_X6_isWindow rfl 1 (by decide +kernel) (by decide) (by decide) 0 rfl rfl rfl rfl rfl (Nat.le_of_ble_eq_true rfl) dX6_window_2 ?_
  rintro _ _ ⟨rfl, rfl⟩
  refine z_if_neB C 11 dX6_window_5 (by decide) (fun _ => ?_) (fun h => absurd h (by rw [okN_lt hw (by omega)]; decide))
  refine z_iload_n C dX6_window_11 rfl (show zlk _ 2 = some (.int x) from rfl) ?_
  refine z_tableOut C 90 dX6_window_12 (okN_out (N := 3) hx) (by decide) ?_
  refine z_ldc C (v := (-1000000002)) (by decide +kernel) dX6_window_90 ?_
  exact E _ _ _ _ (⟨rfl, rfl⟩) (rfl) dX6_window_92

set_option maxHeartbeats 4000000 in
set_option maxRecDepth 100000 in
theorem c_X6_album_1 (l : Launch) (θ : zH) (ad : Nat → Nat) (n : Nat → Nat) (g : Int32) (r : Nat → Nat → Int32) (i x : Int32) (hx : okN x 3 = false) : cI l yX6_album wsX6_album 1 θ [.ref (ad 0), .int i, .int x] (MW θ ad n g r) (fun r0 Y => r0 = (-1000000002) ∧ Y = MW θ ad n g r) := by
  refine z_cI (by decide) rfl rfl (Nat.le_of_ble_eq_true rfl) (lv := [(0, .ref (ad 0)), (1, .int i), (2, .int x)]) rfl (fun κ C E => ?_)
  refine z_iload_n C dX6_album_0 rfl (show zlk _ 2 = some (.int x) from rfl) ?_
  refine z_i2l C dX6_album_1 ?_
  refine z_lconst C (v := 0) dX6_album_2 (by decide) ?_
  refine z_ldc2 C (v := 2) (by decide +kernel) dX6_album_3 ?_
  refine z_callSi C (As := [.long (Int32.toInt64 x), .long 0, .long (2)]) (rest := []) (c_X6_in l θ _ (Int32.toInt64 x) 0 (2)) gX6_album_X6_in rfl 3 (by decide +kernel) (by decide) (by decide) rfl rfl (Nat.le_of_ble_eq_true rfl) dX6_album_6 ?_
  rintro _ _ ⟨rfl, rfl⟩
  refine z_top (v' := .int (bI (okN x 3))) (by rw [m_in_lit (N := 3) (by decide)]) ?_
  refine z_if_neB C 15 dX6_album_9 (by decide) (fun h => absurd h (by rw [hx]; decide)) (fun _ => ?_)
  refine z_ldc C (v := (-1000000002)) (by decide +kernel) dX6_album_12 ?_
  exact E _ _ _ _ (⟨rfl, rfl⟩) (rfl) dX6_album_14

set_option maxHeartbeats 4000000 in
set_option maxRecDepth 100000 in
theorem c_X6_album_2 (l : Launch) (θ : zH) (ad : Nat → Nat) (n : Nat → Nat) (g : Int32) (r : Nat → Nat → Int32) (i x : Int32) (cnt : Nat) (hx : okN x 3 = true) (hc : r 7 21 = nI cnt) (hb : cnt ≤ 20) (hi : okN i cnt = false) : cI l yX6_album wsX6_album 1 θ [.ref (ad 0), .int i, .int x] (MW θ ad n g r) (fun r0 Y => r0 = (-1) ∧ Y = MW θ ad n g r) := by
  refine z_cI (by decide) rfl rfl (Nat.le_of_ble_eq_true rfl) (lv := [(0, .ref (ad 0)), (1, .int i), (2, .int x)]) rfl (fun κ C E => ?_)
  have hin : ∀ w ∈ wsX60, w ∈ wsX6_album := by decide +kernel
  refine z_iload_n C dX6_album_0 rfl (show zlk _ 2 = some (.int x) from rfl) ?_
  refine z_i2l C dX6_album_1 ?_
  refine z_lconst C (v := 0) dX6_album_2 (by decide) ?_
  refine z_ldc2 C (v := 2) (by decide +kernel) dX6_album_3 ?_
  refine z_callSi C (As := [.long (Int32.toInt64 x), .long 0, .long (2)]) (rest := []) (c_X6_in l θ _ (Int32.toInt64 x) 0 (2)) gX6_album_X6_in rfl 3 (by decide +kernel) (by decide) (by decide) rfl rfl (Nat.le_of_ble_eq_true rfl) dX6_album_6 ?_
  rintro _ _ ⟨rfl, rfl⟩
  refine z_top (v' := .int (bI (okN x 3))) (by rw [m_in_lit (N := 3) (by decide)]) ?_
  refine z_if_neB C 15 dX6_album_9 (by decide) (fun _ => ?_) (fun h => absurd h (by rw [hx]; decide))
  refine z_iload_n C dX6_album_15 rfl (show zlk _ 1 = some (.int i) from rfl) ?_
  refine z_i2l C dX6_album_16 ?_
  refine z_lconst C (v := 0) dX6_album_17 (by decide) ?_
  refine z_aload_n C dX6_album_18 rfl (show zlk _ 0 = some (.ref (ad 0)) from rfl) ?_
  refine z_mg C hin 7 (by decide) (by decide +kernel) (v := .ref (ad 7)) mf_7 dX6_album_19 ?_
  refine z_bipush C (v := nI 21) dX6_album_22 (by decide) ?_
  refine z_iald C (f := (r 7)) 4 mr_7 21 rfl (by omega) (by decide) dX6_album_24 ?_
  refine z_top (v' := .int (nI cnt)) (by rw [hc]) ?_
  refine z_iconst C (v := nI 1) dX6_album_25 (by decide) ?_
  refine z_isub C dX6_album_26 ?_
  refine z_i2l C dX6_album_27 ?_
  refine z_callSi C (As := [.long (Int32.toInt64 i), .long 0, .long (Int32.toInt64 ((nI cnt) - (nI 1)))]) (rest := []) (c_X6_in l θ _ (Int32.toInt64 i) 0 (Int32.toInt64 ((nI cnt) - (nI 1)))) gX6_album_X6_in rfl 3 (by decide +kernel) (by decide) (by decide) rfl rfl (Nat.le_of_ble_eq_true rfl) dX6_album_28 ?_
  rintro _ _ ⟨rfl, rfl⟩
  refine z_top (v' := .int (bI (okN i cnt))) (by rw [m_in_ok (by omega)]) ?_
  refine z_if_eqB C 60 dX6_album_31 (by decide) (fun _ => ?_) (fun h => absurd h (by rw [hi]; decide))
  refine z_iconst C (v := (-1)) dX6_album_60 (by decide) ?_
  exact E _ _ _ _ (⟨rfl, rfl⟩) (rfl) dX6_album_61

set_option maxHeartbeats 4000000 in
set_option maxRecDepth 100000 in
theorem c_X6_album_3 (l : Launch) (θ : zH) (ad : Nat → Nat) (n : Nat → Nat) (g : Int32) (r : Nat → Nat → Int32) (i q cnt : Nat) (hq : q < 3) (hc : r 7 21 = nI cnt) (hb : cnt ≤ 20) (hi : i < cnt) : cI l yX6_album wsX6_album 1 θ [.ref (ad 0), .int (nI i), .int (nI q)] (MW θ ad n g r) (fun r0 Y => r0 = r 7 (22 + 3 * (cnt - 1 - i) + q) ∧ Y = MW θ ad n g r) := by
  refine z_cI (by decide) rfl rfl (Nat.le_of_ble_eq_true rfl) (lv := [(0, .ref (ad 0)), (1, .int (nI i)), (2, .int (nI q))]) rfl (fun κ C E => ?_)
  have hin : ∀ w ∈ wsX60, w ∈ wsX6_album := by decide +kernel
  refine z_iload_n C dX6_album_0 rfl (show zlk _ 2 = some (.int (nI q)) from rfl) ?_
  refine z_i2l C dX6_album_1 ?_
  refine z_lconst C (v := 0) dX6_album_2 (by decide) ?_
  refine z_ldc2 C (v := 2) (by decide +kernel) dX6_album_3 ?_
  refine z_callSi C (As := [.long (Int32.toInt64 (nI q)), .long 0, .long (2)]) (rest := []) (c_X6_in l θ _ (Int32.toInt64 (nI q)) 0 (2)) gX6_album_X6_in rfl 3 (by decide +kernel) (by decide) (by decide) rfl rfl (Nat.le_of_ble_eq_true rfl) dX6_album_6 ?_
  rintro _ _ ⟨rfl, rfl⟩
  refine z_top (v' := .int (bI (okN (nI q) 3))) (by rw [m_in_lit (N := 3) (by decide)]) ?_
  refine z_if_neB C 15 dX6_album_9 (by decide) (fun _ => ?_) (fun h => absurd h (by rw [okN_lt hq (by decide)]; decide))
  refine z_iload_n C dX6_album_15 rfl (show zlk _ 1 = some (.int (nI i)) from rfl) ?_
  refine z_i2l C dX6_album_16 ?_
  refine z_lconst C (v := 0) dX6_album_17 (by decide) ?_
  refine z_aload_n C dX6_album_18 rfl (show zlk _ 0 = some (.ref (ad 0)) from rfl) ?_
  refine z_mg C hin 7 (by decide) (by decide +kernel) (v := .ref (ad 7)) mf_7 dX6_album_19 ?_
  refine z_bipush C (v := nI 21) dX6_album_22 (by decide) ?_
  refine z_iald C (f := (r 7)) 4 mr_7 21 rfl (by omega) (by decide) dX6_album_24 ?_
  refine z_top (v' := .int (nI cnt)) (by rw [hc]) ?_
  refine z_iconst C (v := nI 1) dX6_album_25 (by decide) ?_
  refine z_isub C dX6_album_26 ?_
  refine z_i2l C dX6_album_27 ?_
  refine z_callSi C (As := [.long (Int32.toInt64 (nI i)), .long 0, .long (Int32.toInt64 ((nI cnt) - (nI 1)))]) (rest := []) (c_X6_in l θ _ (Int32.toInt64 (nI i)) 0 (Int32.toInt64 ((nI cnt) - (nI 1)))) gX6_album_X6_in rfl 3 (by decide +kernel) (by decide) (by decide) rfl rfl (Nat.le_of_ble_eq_true rfl) dX6_album_28 ?_
  rintro _ _ ⟨rfl, rfl⟩
  refine z_top (v' := .int (bI (okN (nI i) cnt))) (by rw [m_in_ok (by omega)]) ?_
  refine z_if_eqB C 60 dX6_album_31 (by decide) (fun h => absurd h (by rw [okN_lt hi (by omega)]; decide)) (fun _ => ?_)
  refine z_aload_n C dX6_album_34 rfl (show zlk _ 0 = some (.ref (ad 0)) from rfl) ?_
  refine z_mg C hin 7 (by decide) (by decide +kernel) (v := .ref (ad 7)) mf_7 dX6_album_35 ?_
  refine z_bipush C (v := nI 22) dX6_album_38 (by decide) ?_
  refine z_iconst C (v := nI 3) dX6_album_40 (by decide) ?_
  refine z_aload_n C dX6_album_41 rfl (show zlk _ 0 = some (.ref (ad 0)) from rfl) ?_
  refine z_mg C hin 7 (by decide) (by decide +kernel) (v := .ref (ad 7)) mf_7 dX6_album_42 ?_
  refine z_bipush C (v := nI 21) dX6_album_45 (by decide) ?_
  refine z_iald C (f := (r 7)) 4 mr_7 21 rfl (by omega) (by decide) dX6_album_47 ?_
  refine z_top (v' := .int (nI cnt)) (by rw [hc]) ?_
  refine z_iconst C (v := nI 1) dX6_album_48 (by decide) ?_
  refine z_isubN C dX6_album_49 (by omega) ?_
  refine z_iload_n C dX6_album_50 rfl (show zlk _ 1 = some (.int (nI i)) from rfl) ?_
  refine z_isubN C dX6_album_51 (by omega) ?_
  refine z_imulN C dX6_album_52 ?_
  refine z_iaddN C dX6_album_53 ?_
  refine z_iload_n C dX6_album_54 rfl (show zlk _ 2 = some (.int (nI q)) from rfl) ?_
  refine z_iaddN C dX6_album_55 ?_
  refine z_iald C (f := (r 7)) 4 mr_7 ((22 + (3 * ((cnt - 1) - i))) + q) rfl (by omega) (by decide) dX6_album_56 ?_
  refine z_goto C 61 dX6_album_57 (by decide) ?_
  exact E _ _ _ _ (⟨rfl, rfl⟩) (rfl) dX6_album_61

set_option maxHeartbeats 4000000 in
set_option maxRecDepth 100000 in
theorem c_X6_told_0 (l : Launch) (θ : zH) (ad : Nat → Nat) (n : Nat → Nat) (g : Int32) (r : Nat → Nat → Int32)  (hW : n 3 ≤ 5) (hS : n 1 ≤ 6) (h0 : n 0 ≤ 30) (ht : n 27 ≤ 6) : cI l yX6_told wsX6_told 5 θ [.ref (ad 0), .int (nI 0)] (MW θ ad n g r) (fun r0 Y => r0 = nI (n 0) ∧ Y = MW θ ad n g r) := by
  refine z_cI (by decide) rfl rfl (Nat.le_of_ble_eq_true rfl) (lv := [(0, .ref (ad 0)), (1, .int (nI 0))]) rfl (fun κ C E => ?_)
  have hin : ∀ w ∈ wsX60, w ∈ wsX6_told := by decide +kernel
  refine z_iload_n C dX6_told_0 rfl (show zlk _ 1 = some (.int (nI 0)) from rfl) ?_
  refine z_tableIn C 80 dX6_told_1 (by decide) (by decide) (off := 79) (by decide) (by decide) ?_
  refine z_aload_n C dX6_told_80 rfl (show zlk _ 0 = some (.ref (ad 0)) from rfl) ?_
  refine z_mg C hin 0 (by decide) (by decide +kernel) (v := .int (nI (n 0))) mf_0 dX6_told_81 ?_
  exact E _ _ _ _ (⟨rfl, rfl⟩) (rfl) dX6_told_84

set_option maxHeartbeats 4000000 in
set_option maxRecDepth 100000 in
theorem c_X6_told_1 (l : Launch) (θ : zH) (ad : Nat → Nat) (n : Nat → Nat) (g : Int32) (r : Nat → Nat → Int32)  (hW : n 3 ≤ 5) (hS : n 1 ≤ 6) (h0 : n 0 ≤ 30) (ht : n 27 ≤ 6) : cI l yX6_told wsX6_told 5 θ [.ref (ad 0), .int (nI 1)] (MW θ ad n g r) (fun r0 Y => r0 = nI (n 1) ∧ Y = MW θ ad n g r) := by
  refine z_cI (by decide) rfl rfl (Nat.le_of_ble_eq_true rfl) (lv := [(0, .ref (ad 0)), (1, .int (nI 1))]) rfl (fun κ C E => ?_)
  have hin : ∀ w ∈ wsX60, w ∈ wsX6_told := by decide +kernel
  refine z_iload_n C dX6_told_0 rfl (show zlk _ 1 = some (.int (nI 1)) from rfl) ?_
  refine z_tableIn C 85 dX6_told_1 (by decide) (by decide) (off := 84) (by decide) (by decide) ?_
  refine z_aload_n C dX6_told_85 rfl (show zlk _ 0 = some (.ref (ad 0)) from rfl) ?_
  refine z_mg C hin 1 (by decide) (by decide +kernel) (v := .int (nI (n 1))) mf_1 dX6_told_86 ?_
  exact E _ _ _ _ (⟨rfl, rfl⟩) (rfl) dX6_told_89

set_option maxHeartbeats 4000000 in
set_option maxRecDepth 100000 in
theorem c_X6_told_2 (l : Launch) (θ : zH) (ad : Nat → Nat) (n : Nat → Nat) (g : Int32) (r : Nat → Nat → Int32)  (hW : n 3 ≤ 5) (hS : n 1 ≤ 6) (h0 : n 0 ≤ 30) (ht : n 27 ≤ 6) : cI l yX6_told wsX6_told 5 θ [.ref (ad 0), .int (nI 2)] (MW θ ad n g r) (fun r0 Y => r0 = nI (n 3) ∧ Y = MW θ ad n g r) := by
  refine z_cI (by decide) rfl rfl (Nat.le_of_ble_eq_true rfl) (lv := [(0, .ref (ad 0)), (1, .int (nI 2))]) rfl (fun κ C E => ?_)
  have hin : ∀ w ∈ wsX60, w ∈ wsX6_told := by decide +kernel
  refine z_iload_n C dX6_told_0 rfl (show zlk _ 1 = some (.int (nI 2)) from rfl) ?_
  refine z_tableIn C 90 dX6_told_1 (by decide) (by decide) (off := 89) (by decide) (by decide) ?_
  refine z_aload_n C dX6_told_90 rfl (show zlk _ 0 = some (.ref (ad 0)) from rfl) ?_
  refine z_mg C hin 3 (by decide) (by decide +kernel) (v := .int (nI (n 3))) mf_3 dX6_told_91 ?_
  exact E _ _ _ _ (⟨rfl, rfl⟩) (rfl) dX6_told_94

set_option maxHeartbeats 4000000 in
set_option maxRecDepth 100000 in
theorem c_X6_told_3 (l : Launch) (θ : zH) (ad : Nat → Nat) (n : Nat → Nat) (g : Int32) (r : Nat → Nat → Int32)  (hW : n 3 ≤ 5) (hS : n 1 ≤ 6) (h0 : n 0 ≤ 30) (ht : n 27 ≤ 6) : cI l yX6_told wsX6_told 5 θ [.ref (ad 0), .int (nI 3)] (MW θ ad n g r) (fun r0 Y => r0 = nI (n 5) ∧ Y = MW θ ad n g r) := by
  refine z_cI (by decide) rfl rfl (Nat.le_of_ble_eq_true rfl) (lv := [(0, .ref (ad 0)), (1, .int (nI 3))]) rfl (fun κ C E => ?_)
  have hin : ∀ w ∈ wsX60, w ∈ wsX6_told := by decide +kernel
  refine z_iload_n C dX6_told_0 rfl (show zlk _ 1 = some (.int (nI 3)) from rfl) ?_
  refine z_tableIn C 95 dX6_told_1 (by decide) (by decide) (off := 94) (by decide) (by decide) ?_
  refine z_aload_n C dX6_told_95 rfl (show zlk _ 0 = some (.ref (ad 0)) from rfl) ?_
  refine z_mg C hin 5 (by decide) (by decide +kernel) (v := .int (nI (n 5))) mf_5 dX6_told_96 ?_
  exact E _ _ _ _ (⟨rfl, rfl⟩) (rfl) dX6_told_99

set_option maxHeartbeats 4000000 in
set_option maxRecDepth 100000 in
theorem c_X6_told_4 (l : Launch) (θ : zH) (ad : Nat → Nat) (n : Nat → Nat) (g : Int32) (r : Nat → Nat → Int32)  (hW : n 3 ≤ 5) (hS : n 1 ≤ 6) (h0 : n 0 ≤ 30) (ht : n 27 ≤ 6) : cI l yX6_told wsX6_told 5 θ [.ref (ad 0), .int (nI 4)] (MW θ ad n g r) (fun r0 Y => r0 = nI (n 10) ∧ Y = MW θ ad n g r) := by
  refine z_cI (by decide) rfl rfl (Nat.le_of_ble_eq_true rfl) (lv := [(0, .ref (ad 0)), (1, .int (nI 4))]) rfl (fun κ C E => ?_)
  have hin : ∀ w ∈ wsX60, w ∈ wsX6_told := by decide +kernel
  refine z_iload_n C dX6_told_0 rfl (show zlk _ 1 = some (.int (nI 4)) from rfl) ?_
  refine z_tableIn C 100 dX6_told_1 (by decide) (by decide) (off := 99) (by decide) (by decide) ?_
  refine z_aload_n C dX6_told_100 rfl (show zlk _ 0 = some (.ref (ad 0)) from rfl) ?_
  refine z_mg C hin 10 (by decide) (by decide +kernel) (v := .int (nI (n 10))) mf_10 dX6_told_101 ?_
  exact E _ _ _ _ (⟨rfl, rfl⟩) (rfl) dX6_told_104

set_option maxHeartbeats 4000000 in
set_option maxRecDepth 100000 in
theorem c_X6_told_5 (l : Launch) (θ : zH) (ad : Nat → Nat) (n : Nat → Nat) (g : Int32) (r : Nat → Nat → Int32)  (hW : n 3 ≤ 5) (hS : n 1 ≤ 6) (h0 : n 0 ≤ 30) (ht : n 27 ≤ 6) : cI l yX6_told wsX6_told 5 θ [.ref (ad 0), .int (nI 5)] (MW θ ad n g r) (fun r0 Y => r0 = r 7 0 ∧ Y = MW θ ad n g r) := by
  refine z_cI (by decide) rfl rfl (Nat.le_of_ble_eq_true rfl) (lv := [(0, .ref (ad 0)), (1, .int (nI 5))]) rfl (fun κ C E => ?_)
  have hin : ∀ w ∈ wsX60, w ∈ wsX6_told := by decide +kernel
  refine z_iload_n C dX6_told_0 rfl (show zlk _ 1 = some (.int (nI 5)) from rfl) ?_
  refine z_tableIn C 105 dX6_told_1 (by decide) (by decide) (off := 104) (by decide) (by decide) ?_
  refine z_aload_n C dX6_told_105 rfl (show zlk _ 0 = some (.ref (ad 0)) from rfl) ?_
  refine z_mg C hin 7 (by decide) (by decide +kernel) (v := .ref (ad 7)) mf_7 dX6_told_106 ?_
  refine z_iconst C (v := nI 0) dX6_told_109 (by decide) ?_
  refine z_iald C (f := (r 7)) 4 mr_7 0 rfl (by omega) (by decide) dX6_told_110 ?_
  exact E _ _ _ _ (⟨rfl, rfl⟩) (rfl) dX6_told_111

set_option maxHeartbeats 4000000 in
set_option maxRecDepth 100000 in
theorem c_X6_told_6 (l : Launch) (θ : zH) (ad : Nat → Nat) (n : Nat → Nat) (g : Int32) (r : Nat → Nat → Int32)  (hW : n 3 ≤ 5) (hS : n 1 ≤ 6) (h0 : n 0 ≤ 30) (ht : n 27 ≤ 6) : cI l yX6_told wsX6_told 5 θ [.ref (ad 0), .int (nI 6)] (MW θ ad n g r) (fun r0 Y => r0 = r 7 1 + nI 3 ∧ Y = MW θ ad n g r) := by
  refine z_cI (by decide) rfl rfl (Nat.le_of_ble_eq_true rfl) (lv := [(0, .ref (ad 0)), (1, .int (nI 6))]) rfl (fun κ C E => ?_)
  have hin : ∀ w ∈ wsX60, w ∈ wsX6_told := by decide +kernel
  refine z_iload_n C dX6_told_0 rfl (show zlk _ 1 = some (.int (nI 6)) from rfl) ?_
  refine z_tableIn C 112 dX6_told_1 (by decide) (by decide) (off := 111) (by decide) (by decide) ?_
  refine z_aload_n C dX6_told_112 rfl (show zlk _ 0 = some (.ref (ad 0)) from rfl) ?_
  refine z_mg C hin 7 (by decide) (by decide +kernel) (v := .ref (ad 7)) mf_7 dX6_told_113 ?_
  refine z_iconst C (v := nI 1) dX6_told_116 (by decide) ?_
  refine z_iald C (f := (r 7)) 4 mr_7 1 rfl (by omega) (by decide) dX6_told_117 ?_
  refine z_iconst C (v := nI 3) dX6_told_118 (by decide) ?_
  refine z_iadd C dX6_told_119 ?_
  exact E _ _ _ _ (⟨rfl, rfl⟩) (rfl) dX6_told_120

set_option maxHeartbeats 4000000 in
set_option maxRecDepth 100000 in
theorem c_X6_told_7 (l : Launch) (θ : zH) (ad : Nat → Nat) (n : Nat → Nat) (g : Int32) (r : Nat → Nat → Int32)  (hW : n 3 ≤ 5) (hS : n 1 ≤ 6) (h0 : n 0 ≤ 30) (ht : n 27 ≤ 6) : cI l yX6_told wsX6_told 5 θ [.ref (ad 0), .int (nI 7)] (MW θ ad n g r) (fun r0 Y => r0 = r 7 2 ∧ Y = MW θ ad n g r) := by
  refine z_cI (by decide) rfl rfl (Nat.le_of_ble_eq_true rfl) (lv := [(0, .ref (ad 0)), (1, .int (nI 7))]) rfl (fun κ C E => ?_)
  have hin : ∀ w ∈ wsX60, w ∈ wsX6_told := by decide +kernel
  refine z_iload_n C dX6_told_0 rfl (show zlk _ 1 = some (.int (nI 7)) from rfl) ?_
  refine z_tableIn C 121 dX6_told_1 (by decide) (by decide) (off := 120) (by decide) (by decide) ?_
  refine z_aload_n C dX6_told_121 rfl (show zlk _ 0 = some (.ref (ad 0)) from rfl) ?_
  refine z_mg C hin 7 (by decide) (by decide +kernel) (v := .ref (ad 7)) mf_7 dX6_told_122 ?_
  refine z_iconst C (v := nI 2) dX6_told_125 (by decide) ?_
  refine z_iald C (f := (r 7)) 4 mr_7 2 rfl (by omega) (by decide) dX6_told_126 ?_
  exact E _ _ _ _ (⟨rfl, rfl⟩) (rfl) dX6_told_127

set_option maxHeartbeats 4000000 in
set_option maxRecDepth 100000 in
theorem c_X6_told_8 (l : Launch) (θ : zH) (ad : Nat → Nat) (n : Nat → Nat) (g : Int32) (r : Nat → Nat → Int32)  (hW : n 3 ≤ 5) (hS : n 1 ≤ 6) (h0 : n 0 ≤ 30) (ht : n 27 ≤ 6) : cI l yX6_told wsX6_told 5 θ [.ref (ad 0), .int (nI 8)] (MW θ ad n g r) (fun r0 Y => r0 = r 7 3 ∧ Y = MW θ ad n g r) := by
  refine z_cI (by decide) rfl rfl (Nat.le_of_ble_eq_true rfl) (lv := [(0, .ref (ad 0)), (1, .int (nI 8))]) rfl (fun κ C E => ?_)
  have hin : ∀ w ∈ wsX60, w ∈ wsX6_told := by decide +kernel
  refine z_iload_n C dX6_told_0 rfl (show zlk _ 1 = some (.int (nI 8)) from rfl) ?_
  refine z_tableIn C 128 dX6_told_1 (by decide) (by decide) (off := 127) (by decide) (by decide) ?_
  refine z_aload_n C dX6_told_128 rfl (show zlk _ 0 = some (.ref (ad 0)) from rfl) ?_
  refine z_mg C hin 7 (by decide) (by decide +kernel) (v := .ref (ad 7)) mf_7 dX6_told_129 ?_
  refine z_iconst C (v := nI 3) dX6_told_132 (by decide) ?_
  refine z_iald C (f := (r 7)) 4 mr_7 3 rfl (by omega) (by decide) dX6_told_133 ?_
  exact E _ _ _ _ (⟨rfl, rfl⟩) (rfl) dX6_told_134

set_option maxHeartbeats 4000000 in
set_option maxRecDepth 100000 in
theorem c_X6_told_9 (l : Launch) (θ : zH) (ad : Nat → Nat) (n : Nat → Nat) (g : Int32) (r : Nat → Nat → Int32)  (hW : n 3 ≤ 5) (hS : n 1 ≤ 6) (h0 : n 0 ≤ 30) (ht : n 27 ≤ 6) : cI l yX6_told wsX6_told 5 θ [.ref (ad 0), .int (nI 9)] (MW θ ad n g r) (fun r0 Y => r0 = r 7 4 ∧ Y = MW θ ad n g r) := by
  refine z_cI (by decide) rfl rfl (Nat.le_of_ble_eq_true rfl) (lv := [(0, .ref (ad 0)), (1, .int (nI 9))]) rfl (fun κ C E => ?_)
  have hin : ∀ w ∈ wsX60, w ∈ wsX6_told := by decide +kernel
  refine z_iload_n C dX6_told_0 rfl (show zlk _ 1 = some (.int (nI 9)) from rfl) ?_
  refine z_tableIn C 135 dX6_told_1 (by decide) (by decide) (off := 134) (by decide) (by decide) ?_
  refine z_aload_n C dX6_told_135 rfl (show zlk _ 0 = some (.ref (ad 0)) from rfl) ?_
  refine z_mg C hin 7 (by decide) (by decide +kernel) (v := .ref (ad 7)) mf_7 dX6_told_136 ?_
  refine z_iconst C (v := nI 4) dX6_told_139 (by decide) ?_
  refine z_iald C (f := (r 7)) 4 mr_7 4 rfl (by omega) (by decide) dX6_told_140 ?_
  exact E _ _ _ _ (⟨rfl, rfl⟩) (rfl) dX6_told_141

set_option maxHeartbeats 4000000 in
set_option maxRecDepth 100000 in
theorem c_X6_told_10 (l : Launch) (θ : zH) (ad : Nat → Nat) (n : Nat → Nat) (g : Int32) (r : Nat → Nat → Int32)  (hW : n 3 ≤ 5) (hS : n 1 ≤ 6) (h0 : n 0 ≤ 30) (ht : n 27 ≤ 6) : cI l yX6_told wsX6_told 5 θ [.ref (ad 0), .int (nI 10)] (MW θ ad n g r) (fun r0 Y => r0 = r 7 5 ∧ Y = MW θ ad n g r) := by
  refine z_cI (by decide) rfl rfl (Nat.le_of_ble_eq_true rfl) (lv := [(0, .ref (ad 0)), (1, .int (nI 10))]) rfl (fun κ C E => ?_)
  have hin : ∀ w ∈ wsX60, w ∈ wsX6_told := by decide +kernel
  refine z_iload_n C dX6_told_0 rfl (show zlk _ 1 = some (.int (nI 10)) from rfl) ?_
  refine z_tableIn C 142 dX6_told_1 (by decide) (by decide) (off := 141) (by decide) (by decide) ?_
  refine z_aload_n C dX6_told_142 rfl (show zlk _ 0 = some (.ref (ad 0)) from rfl) ?_
  refine z_mg C hin 7 (by decide) (by decide +kernel) (v := .ref (ad 7)) mf_7 dX6_told_143 ?_
  refine z_iconst C (v := nI 5) dX6_told_146 (by decide) ?_
  refine z_iald C (f := (r 7)) 4 mr_7 5 rfl (by omega) (by decide) dX6_told_147 ?_
  exact E _ _ _ _ (⟨rfl, rfl⟩) (rfl) dX6_told_148

set_option maxHeartbeats 4000000 in
set_option maxRecDepth 100000 in
theorem c_X6_told_11 (l : Launch) (θ : zH) (ad : Nat → Nat) (n : Nat → Nat) (g : Int32) (r : Nat → Nat → Int32)  (hW : n 3 ≤ 5) (hS : n 1 ≤ 6) (h0 : n 0 ≤ 30) (ht : n 27 ≤ 6) : cI l yX6_told wsX6_told 5 θ [.ref (ad 0), .int (nI 11)] (MW θ ad n g r) (fun r0 Y => r0 = m_cloud n r (n 3) ∧ Y = MW θ ad n g r) := by
  refine z_cI (by decide) rfl rfl (Nat.le_of_ble_eq_true rfl) (lv := [(0, .ref (ad 0)), (1, .int (nI 11))]) rfl (fun κ C E => ?_)
  refine z_iload_n C dX6_told_0 rfl (show zlk _ 1 = some (.int (nI 11)) from rfl) ?_
  refine z_tableIn C 149 dX6_told_1 (by decide) (by decide) (off := 148) (by decide) (by decide) ?_
  refine z_aload_n C dX6_told_149 rfl (show zlk _ 0 = some (.ref (ad 0)) from rfl) ?_
  refine z_callVi C (As := []) (rest := []) (c_X6_cloud l θ ad n g r hW hS h0) gX6_told_X6_cloud rfl 0 (by decide +kernel) (by decide) (by decide) 0 rfl rfl rfl rfl rfl (Nat.le_of_ble_eq_true rfl) dX6_told_150 ?_
  rintro _ _ ⟨rfl, rfl⟩
  exact E _ _ _ _ (⟨rfl, rfl⟩) (rfl) dX6_told_153

set_option maxHeartbeats 4000000 in
set_option maxRecDepth 100000 in
theorem c_X6_told_12 (l : Launch) (θ : zH) (ad : Nat → Nat) (n : Nat → Nat) (g : Int32) (r : Nat → Nat → Int32)  (hW : n 3 ≤ 5) (hS : n 1 ≤ 6) (h0 : n 0 ≤ 30) (ht : n 27 ≤ 6) : cI l yX6_told wsX6_told 5 θ [.ref (ad 0), .int (nI 12)] (MW θ ad n g r) (fun r0 Y => r0 = r 7 21 ∧ Y = MW θ ad n g r) := by
  refine z_cI (by decide) rfl rfl (Nat.le_of_ble_eq_true rfl) (lv := [(0, .ref (ad 0)), (1, .int (nI 12))]) rfl (fun κ C E => ?_)
  have hin : ∀ w ∈ wsX60, w ∈ wsX6_told := by decide +kernel
  refine z_iload_n C dX6_told_0 rfl (show zlk _ 1 = some (.int (nI 12)) from rfl) ?_
  refine z_tableIn C 154 dX6_told_1 (by decide) (by decide) (off := 153) (by decide) (by decide) ?_
  refine z_aload_n C dX6_told_154 rfl (show zlk _ 0 = some (.ref (ad 0)) from rfl) ?_
  refine z_mg C hin 7 (by decide) (by decide +kernel) (v := .ref (ad 7)) mf_7 dX6_told_155 ?_
  refine z_bipush C (v := nI 21) dX6_told_158 (by decide) ?_
  refine z_iald C (f := (r 7)) 4 mr_7 21 rfl (by omega) (by decide) dX6_told_160 ?_
  exact E _ _ _ _ (⟨rfl, rfl⟩) (rfl) dX6_told_161

set_option maxHeartbeats 4000000 in
set_option maxRecDepth 100000 in
theorem c_X6_told_13 (l : Launch) (θ : zH) (ad : Nat → Nat) (n : Nat → Nat) (g : Int32) (r : Nat → Nat → Int32)  (hW : n 3 ≤ 5) (hS : n 1 ≤ 6) (h0 : n 0 ≤ 30) (ht : n 27 ≤ 6) : cI l yX6_told wsX6_told 5 θ [.ref (ad 0), .int (nI 13)] (MW θ ad n g r) (fun r0 Y => r0 = nI (n 27) ∧ Y = MW θ ad n g r) := by
  refine z_cI (by decide) rfl rfl (Nat.le_of_ble_eq_true rfl) (lv := [(0, .ref (ad 0)), (1, .int (nI 13))]) rfl (fun κ C E => ?_)
  have hin : ∀ w ∈ wsX60, w ∈ wsX6_told := by decide +kernel
  refine z_iload_n C dX6_told_0 rfl (show zlk _ 1 = some (.int (nI 13)) from rfl) ?_
  refine z_tableIn C 162 dX6_told_1 (by decide) (by decide) (off := 161) (by decide) (by decide) ?_
  refine z_aload_n C dX6_told_162 rfl (show zlk _ 0 = some (.ref (ad 0)) from rfl) ?_
  refine z_mg C hin 27 (by decide) (by decide +kernel) (v := .int (nI (n 27))) mf_27 dX6_told_163 ?_
  exact E _ _ _ _ (⟨rfl, rfl⟩) (rfl) dX6_told_166

set_option maxHeartbeats 4000000 in
set_option maxRecDepth 100000 in
theorem c_X6_told_14 (l : Launch) (θ : zH) (ad : Nat → Nat) (n : Nat → Nat) (g : Int32) (r : Nat → Nat → Int32)  (hW : n 3 ≤ 5) (hS : n 1 ≤ 6) (h0 : n 0 ≤ 30) (ht : n 27 ≤ 6) : cI l yX6_told wsX6_told 5 θ [.ref (ad 0), .int (nI 14)] (MW θ ad n g r) (fun r0 Y => r0 = m_mb n r (n 1) ∧ Y = MW θ ad n g r) := by
  refine z_cI (by decide) rfl rfl (Nat.le_of_ble_eq_true rfl) (lv := [(0, .ref (ad 0)), (1, .int (nI 14))]) rfl (fun κ C E => ?_)
  refine z_iload_n C dX6_told_0 rfl (show zlk _ 1 = some (.int (nI 14)) from rfl) ?_
  refine z_tableIn C 167 dX6_told_1 (by decide) (by decide) (off := 166) (by decide) (by decide) ?_
  refine z_aload_n C dX6_told_167 rfl (show zlk _ 0 = some (.ref (ad 0)) from rfl) ?_
  refine z_callVi C (As := []) (rest := []) (c_X6_mayBe l θ ad n g r hS ht) gX6_told_X6_mayBe rfl 0 (by decide +kernel) (by decide) (by decide) 0 rfl rfl rfl rfl rfl (Nat.le_of_ble_eq_true rfl) dX6_told_168 ?_
  rintro _ _ ⟨rfl, rfl⟩
  exact E _ _ _ _ (⟨rfl, rfl⟩) (rfl) dX6_told_171

set_option maxHeartbeats 4000000 in
set_option maxRecDepth 100000 in
theorem c_X6_told_15 (l : Launch) (θ : zH) (ad : Nat → Nat) (n : Nat → Nat) (g : Int32) (r : Nat → Nat → Int32)  (hW : n 3 ≤ 5) (hS : n 1 ≤ 6) (h0 : n 0 ≤ 30) (ht : n 27 ≤ 6) : cI l yX6_told wsX6_told 5 θ [.ref (ad 0), .int (nI 15)] (MW θ ad n g r) (fun r0 Y => r0 = nI (n 22) ∧ Y = MW θ ad n g r) := by
  refine z_cI (by decide) rfl rfl (Nat.le_of_ble_eq_true rfl) (lv := [(0, .ref (ad 0)), (1, .int (nI 15))]) rfl (fun κ C E => ?_)
  have hin : ∀ w ∈ wsX60, w ∈ wsX6_told := by decide +kernel
  refine z_iload_n C dX6_told_0 rfl (show zlk _ 1 = some (.int (nI 15)) from rfl) ?_
  refine z_tableIn C 172 dX6_told_1 (by decide) (by decide) (off := 171) (by decide) (by decide) ?_
  refine z_aload_n C dX6_told_172 rfl (show zlk _ 0 = some (.ref (ad 0)) from rfl) ?_
  refine z_mg C hin 22 (by decide) (by decide +kernel) (v := .int (nI (n 22))) mf_22 dX6_told_173 ?_
  exact E _ _ _ _ (⟨rfl, rfl⟩) (rfl) dX6_told_176

set_option maxHeartbeats 4000000 in
set_option maxRecDepth 100000 in
theorem c_X6_told_x (l : Launch) (θ : zH) (ad : Nat → Nat) (n : Nat → Nat) (g : Int32) (r : Nat → Nat → Int32) (x : Int32) (hx : okN x 16 = false) : cI l yX6_told wsX6_told 5 θ [.ref (ad 0), .int x] (MW θ ad n g r) (fun r0 Y => r0 = (-1000000002) ∧ Y = MW θ ad n g r) := by
  refine z_cI (by decide) rfl rfl (Nat.le_of_ble_eq_true rfl) (lv := [(0, .ref (ad 0)), (1, .int x)]) rfl (fun κ C E => ?_)
  refine z_iload_n C dX6_told_0 rfl (show zlk _ 1 = some (.int x) from rfl) ?_
  refine z_tableOut C 177 dX6_told_1 (okN_out (N := 15) hx) (by decide) ?_
  refine z_ldc C (v := (-1000000002)) (by decide +kernel) dX6_told_177 ?_
  exact E _ _ _ _ (⟨rfl, rfl⟩) (rfl) dX6_told_179

