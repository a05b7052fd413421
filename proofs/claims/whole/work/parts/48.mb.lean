abbrev PB : Type := Int32 × (Nat → Int32)
def pqF (stp : Nat → PB → PB) : Nat → Nat → PB → PB
  | 0, _, st => st
  | m + 1, s, st => pqF stp m (s + 1) (stp s st)
def pq (S W : Nat) (dr : Nat → Int32) : Nat → Nat → Int32 → Int32 → Nat → (Nat → Int32) → PB → PB
  | 0, _, _, _, c, ch, st => if nI c ≤ st.1 then st else (nI c, m_cq st.2 ch W)
  | d + 1, w, cl, tk, c, ch, st => pq S W dr d (w + 1) cl tk c (upd ch w (-1))
      (pqF (fun s st => if m_has tk (nI s) = false ∧ ¬ dr (w * 6 + s) = 0 ∧ dr (w * 6 + s) &&& cl = 0 then pq S W dr d (w + 1) (cl ||| dr (w * 6 + s)) (tk ||| (nI 1 <<< (nI s &&& 31))) (c + 1) (upd ch w (nI s)) st else st) S 0 st)
def pqS (S W : Nat) (dr : Nat → Int32) (d w : Nat) (cl tk : Int32) (c : Nat) (ch : Nat → Int32) (s : Nat) (st : PB) : PB := if m_has tk (nI s) = false ∧ ¬ dr (w * 6 + s) = 0 ∧ dr (w * 6 + s) &&& cl = 0 then pq S W dr d (w + 1) (cl ||| dr (w * 6 + s)) (tk ||| (nI 1 <<< (nI s &&& 31))) (c + 1) (upd ch w (nI s)) st else st
theorem pq_s {S W : Nat} {dr : Nat → Int32} {d w : Nat} {cl tk : Int32} {c : Nat} {ch : Nat → Int32} {st : PB} : pq S W dr (d + 1) w cl tk c ch st = pq S W dr d (w + 1) cl tk c (upd ch w (-1)) (pqF (pqS S W dr d w cl tk c ch) S 0 st) := rfl
/-- the path so far: who is taken, the dots, how many, who stands where -/
def aB (S : Nat) (p : Nat → Nat) : Nat → Int32
  | 0 => nI 0
  | k + 1 => aB S p k ||| (if S ≤ p k then nI 0 else nI 1 <<< (nI (p k) &&& 31))
def aS (S : Nat) (dr : Nat → Int32) (p : Nat → Nat) : Nat → Int32
  | 0 => nI 0
  | k + 1 => aS S dr p k ||| (if S ≤ p k then nI 0 else dr (k * 6 + p k))
def aM (S : Nat) (p : Nat → Nat) : Nat → Nat
  | 0 => 0
  | k + 1 => aM S p k + (if S ≤ p k then 0 else 1)
def chP (S : Nat) (p : Nat → Nat) (k : Nat) : Int32 := if S ≤ p k then (-1) else nI (p k)
theorem aM_le (S : Nat) (p : Nat → Nat) : ∀ k, aM S p k ≤ k
  | 0 => Nat.le_refl _
  | k + 1 => by
    have := aM_le S p k
    unfold aM
    split <;> omega
theorem chP_t {S : Nat} {p : Nat → Nat} {k : Nat} (h : S ≤ p k) : chP S p k = (-1) := if_pos h
theorem chP_f {S : Nat} {p : Nat → Nat} {k : Nat} (h : ¬ S ≤ p k) : chP S p k = nI (p k) := if_neg h
set_option maxHeartbeats 4000000 in
set_option maxRecDepth 100000 in
theorem bp_acc {l : Launch} {θ : zH} {κ : zX} (C : zC κ l cX6_bestPlaces 8 RX6 wsX6_bestPlaces 3 θ) (ad : Nat → Nat) (n : Nat → Nat) (g : Int32) (r : Nat → Nat → Int32) (tr be : Nat → Int32) (mo : Int32) (D : Nat) (p : Nat → Nat) (hS : n 1 ≤ 6) (hD : D ≤ 5) (htr : ∀ k, k < D → tr k = nI (p k)) (hpS : ∀ k, k < D → p k ≤ 6) (kk : Z κ (MW θ ad n g (rv (r 2) (r 4) (r 6) (r 7) (r 9) (r 17) (r 19) (r 21) (r 23) tr be (r 26) (r 28) (r 29) (r 30) (r 31) (r 32))) 191 [(0, .ref (ad 0)), (1, .int mo), (2, .int (nI D)), (3, .int (aB (n 1) p D)), (4, .int (aS (n 1) (r 26) p D)), (5, .int (nI (aM (n 1) p D)))] []) : Z κ (MW θ ad n g (rv (r 2) (r 4) (r 6) (r 7) (r 9) (r 17) (r 19) (r 21) (r 23) tr be (r 26) (r 28) (r 29) (r 30) (r 31) (r 32))) 75 [(0, .ref (ad 0)), (1, .int mo), (2, .int (nI D))] [] := by
  have hin : ∀ w ∈ wsX60, w ∈ wsX6_bestPlaces := by decide +kernel
  refine z_iload_n C dX6_bestPlaces_75 rfl (show zlk _ 2 = some (.int (nI D)) from rfl) ?_
  refine z_if_ltN C 367 dX6_bestPlaces_76 (by decide) (by omega) ?_
  refine z_iconst C (v := nI 0) dX6_bestPlaces_79 (by decide) ?_
  refine z_istore_n C [(3, .int (nI 0)), (0, .ref (ad 0)), (1, .int mo), (2, .int (nI D))] dX6_bestPlaces_80 rfl (by decide) rfl ?_
  refine z_iconst C (v := nI 0) dX6_bestPlaces_81 (by decide) ?_
  refine z_istore C [(4, .int (nI 0)), (3, .int (nI 0)), (0, .ref (ad 0)), (1, .int mo), (2, .int (nI D))] dX6_bestPlaces_82 (by decide) rfl ?_
  refine z_iconst C (v := nI 0) dX6_bestPlaces_84 (by decide) ?_
  refine z_istore C [(5, .int (nI 0)), (4, .int (nI 0)), (3, .int (nI 0)), (0, .ref (ad 0)), (1, .int mo), (2, .int (nI D))] dX6_bestPlaces_85 (by decide) rfl ?_
  refine z_iconst C (v := nI 0) dX6_bestPlaces_87 (by decide) ?_
  refine z_istore C [(6, .int (nI 0)), (5, .int (nI 0)), (4, .int (nI 0)), (3, .int (nI 0)), (0, .ref (ad 0)), (1, .int mo), (2, .int (nI D))] dX6_bestPlaces_88 (by decide) rfl ?_
  refine z_lv (lv' := [(0, .ref (ad 0)), (1, .int mo), (2, .int (nI D)), (3, .int (aB (n 1) p 0)), (4, .int (aS (n 1) (r 26) p 0)), (5, .int (nI (aM (n 1) p 0))), (6, .int (nI 0))]) rfl ?_
  refine z_up (fun k => Z κ (MW θ ad n g (rv (r 2) (r 4) (r 6) (r 7) (r 9) (r 17) (r 19) (r 21) (r 23) tr be (r 26) (r 28) (r 29) (r 30) (r 31) (r 32))) 90 [(0, .ref (ad 0)), (1, .int mo), (2, .int (nI D)), (3, .int (aB (n 1) p k)), (4, .int (aS (n 1) (r 26) p k)), (5, .int (nI (aM (n 1) p k))), (6, .int (nI k))] []) (D) ?_ ?_ 0 (by omega)
  · refine z_iload C dX6_bestPlaces_90 (show zlk _ 6 = some (.int (nI D)) from rfl) ?_
    refine z_iload_n C dX6_bestPlaces_92 rfl (show zlk _ 2 = some (.int (nI D)) from rfl) ?_
    refine z_icmp_geT C 191 dX6_bestPlaces_93 (by decide) (by omega) (by omega) (by omega) ?_
    exact z_to (kk) (mw_eq rfl rfl rfl rfl rfl rfl rfl rfl rfl rfl rfl rfl rfl rfl rfl rfl rfl rfl rfl rfl rfl rfl rfl rfl rfl rfl rfl rfl rfl rfl rfl rfl) rfl
  · intro k hk90 ih90
    refine z_iload C dX6_bestPlaces_90 (show zlk _ 6 = some (.int (nI k)) from rfl) ?_
    refine z_iload_n C dX6_bestPlaces_92 rfl (show zlk _ 2 = some (.int (nI D)) from rfl) ?_
    refine z_icmp_geF C 191 dX6_bestPlaces_93 (by decide) (by omega) (by omega) (by omega) ?_
    refine z_aload_n C dX6_bestPlaces_96 rfl (show zlk _ 0 = some (.ref (ad 0)) from rfl) ?_
    refine z_mg C hin 24 (by decide) (by decide +kernel) (v := .ref (ad 24)) mf_24 dX6_bestPlaces_97 ?_
    refine z_iload C dX6_bestPlaces_100 (show zlk _ 6 = some (.int (nI k)) from rfl) ?_
    refine z_iald C (f := tr) 10 mrv_24 k rfl (by omega) (by decide) dX6_bestPlaces_102 ?_
    refine z_top (v' := .int (nI (p k))) (by rw [htr k (by omega)]) ?_
    refine z_aload_n C dX6_bestPlaces_103 rfl (show zlk _ 0 = some (.ref (ad 0)) from rfl) ?_
    refine z_mg C hin 1 (by decide) (by decide +kernel) (v := .int (nI (n 1))) mf_1 dX6_bestPlaces_104 ?_
    refine z_icmp_geN C 114 dX6_bestPlaces_107 (by decide) (by have := hpS k (by omega); omega) (by omega) (fun h107t_1 => ?_) (fun h107n_1 => ?_)
    · refine z_iconst C (v := nI 0) dX6_bestPlaces_114 (by decide) ?_
      refine z_istore C [(7, .int (nI 0)), (0, .ref (ad 0)), (1, .int mo), (2, .int (nI D)), (3, .int (aB (n 1) p k)), (4, .int (aS (n 1) (r 26) p k)), (5, .int (nI (aM (n 1) p k))), (6, .int (nI k))] dX6_bestPlaces_115 (by decide) rfl ?_
      refine z_iload_n C dX6_bestPlaces_117 rfl (show zlk _ 3 = some (.int (aB (n 1) p k)) from rfl) ?_
      refine z_iload C dX6_bestPlaces_118 (show zlk _ 7 = some (.int (nI 0)) from rfl) ?_
      refine z_if_eqN C 135 dX6_bestPlaces_120 (by decide) (by decide) (fun _ => ?_) (fun h => absurd h (by decide))
      refine z_iconst C (v := nI 0) dX6_bestPlaces_135 (by decide) ?_
      refine z_ior C dX6_bestPlaces_136 ?_
      refine z_istore_n C [(3, .int ((aB (n 1) p k) ||| (nI 0))), (7, .int (nI 0)), (0, .ref (ad 0)), (1, .int mo), (2, .int (nI D)), (4, .int (aS (n 1) (r 26) p k)), (5, .int (nI (aM (n 1) p k))), (6, .int (nI k))] dX6_bestPlaces_137 rfl (by decide) rfl ?_
      refine z_iload C dX6_bestPlaces_138 (show zlk _ 4 = some (.int (aS (n 1) (r 26) p k)) from rfl) ?_
      refine z_iload C dX6_bestPlaces_140 (show zlk _ 7 = some (.int (nI 0)) from rfl) ?_
      refine z_if_eqN C 166 dX6_bestPlaces_142 (by decide) (by decide) (fun _ => ?_) (fun h => absurd h (by decide))
      refine z_iconst C (v := nI 0) dX6_bestPlaces_166 (by decide) ?_
      refine z_ior C dX6_bestPlaces_167 ?_
      refine z_istore C [(4, .int ((aS (n 1) (r 26) p k) ||| (nI 0))), (3, .int ((aB (n 1) p k) ||| (nI 0))), (7, .int (nI 0)), (0, .ref (ad 0)), (1, .int mo), (2, .int (nI D)), (5, .int (nI (aM (n 1) p k))), (6, .int (nI k))] dX6_bestPlaces_168 (by decide) rfl ?_
      refine z_iload C dX6_bestPlaces_170 (show zlk _ 5 = some (.int (nI (aM (n 1) p k))) from rfl) ?_
      refine z_iload C dX6_bestPlaces_172 (show zlk _ 7 = some (.int (nI 0)) from rfl) ?_
      refine z_if_eqN C 181 dX6_bestPlaces_174 (by decide) (by decide) (fun _ => ?_) (fun h => absurd h (by decide))
      refine z_iconst C (v := nI 0) dX6_bestPlaces_181 (by decide) ?_
      refine z_iaddN C dX6_bestPlaces_182 ?_
      refine z_istore C [(5, .int (nI (aM (n 1) p k))), (4, .int ((aS (n 1) (r 26) p k) ||| (nI 0))), (3, .int ((aB (n 1) p k) ||| (nI 0))), (7, .int (nI 0)), (0, .ref (ad 0)), (1, .int mo), (2, .int (nI D)), (6, .int (nI k))] dX6_bestPlaces_183 (by decide) rfl ?_
      refine z_iincN C [(6, .int (nI (k + 1))), (5, .int (nI (aM (n 1) p k))), (4, .int ((aS (n 1) (r 26) p k) ||| (nI 0))), (3, .int ((aB (n 1) p k) ||| (nI 0))), (7, .int (nI 0)), (0, .ref (ad 0)), (1, .int mo), (2, .int (nI D))] dX6_bestPlaces_185 rfl (by decide) rfl ?_
      refine z_goto C 90 dX6_bestPlaces_188 (by decide) ?_
      exact z_to (ih90) (rfl) (by simp [zlk, aB, aS, aM, h107t_1])
    · refine z_iconst C (v := nI 1) dX6_bestPlaces_110 (by decide) ?_
      refine z_goto C 115 dX6_bestPlaces_111 (by decide) ?_
      refine z_istore C [(7, .int (nI 1)), (0, .ref (ad 0)), (1, .int mo), (2, .int (nI D)), (3, .int (aB (n 1) p k)), (4, .int (aS (n 1) (r 26) p k)), (5, .int (nI (aM (n 1) p k))), (6, .int (nI k))] dX6_bestPlaces_115 (by decide) rfl ?_
      refine z_iload_n C dX6_bestPlaces_117 rfl (show zlk _ 3 = some (.int (aB (n 1) p k)) from rfl) ?_
      refine z_iload C dX6_bestPlaces_118 (show zlk _ 7 = some (.int (nI 1)) from rfl) ?_
      refine z_if_eqN C 135 dX6_bestPlaces_120 (by decide) (by decide) (fun h => absurd h (by decide)) (fun _ => ?_)
      refine z_iconst C (v := nI 1) dX6_bestPlaces_123 (by decide) ?_
      refine z_aload_n C dX6_bestPlaces_124 rfl (show zlk _ 0 = some (.ref (ad 0)) from rfl) ?_
      refine z_mg C hin 24 (by decide) (by decide +kernel) (v := .ref (ad 24)) mf_24 dX6_bestPlaces_125 ?_
      refine z_iload C dX6_bestPlaces_128 (show zlk _ 6 = some (.int (nI k)) from rfl) ?_
      refine z_iald C (f := tr) 10 mrv_24 k rfl (by omega) (by decide) dX6_bestPlaces_130 ?_
      refine z_top (v' := .int (nI (p k))) (by rw [htr k (by omega)]) ?_
      refine z_ishl C dX6_bestPlaces_131 ?_
      refine z_goto C 136 dX6_bestPlaces_132 (by decide) ?_
      refine z_ior C dX6_bestPlaces_136 ?_
      refine z_istore_n C [(3, .int ((aB (n 1) p k) ||| ((nI 1) <<< ((nI (p k)) &&& 31)))), (7, .int (nI 1)), (0, .ref (ad 0)), (1, .int mo), (2, .int (nI D)), (4, .int (aS (n 1) (r 26) p k)), (5, .int (nI (aM (n 1) p k))), (6, .int (nI k))] dX6_bestPlaces_137 rfl (by decide) rfl ?_
      refine z_iload C dX6_bestPlaces_138 (show zlk _ 4 = some (.int (aS (n 1) (r 26) p k)) from rfl) ?_
      refine z_iload C dX6_bestPlaces_140 (show zlk _ 7 = some (.int (nI 1)) from rfl) ?_
      refine z_if_eqN C 166 dX6_bestPlaces_142 (by decide) (by decide) (fun h => absurd h (by decide)) (fun _ => ?_)
      refine z_aload_n C dX6_bestPlaces_145 rfl (show zlk _ 0 = some (.ref (ad 0)) from rfl) ?_
      refine z_mg C hin 26 (by decide) (by decide +kernel) (v := .ref (ad 26)) mf_26 dX6_bestPlaces_146 ?_
      refine z_bipush C (v := nI 6) dX6_bestPlaces_149 (by decide) ?_
      refine z_iload C dX6_bestPlaces_151 (show zlk _ 6 = some (.int (nI k)) from rfl) ?_
      refine z_imulN C dX6_bestPlaces_153 ?_
      refine z_aload_n C dX6_bestPlaces_154 rfl (show zlk _ 0 = some (.ref (ad 0)) from rfl) ?_
      refine z_mg C hin 24 (by decide) (by decide +kernel) (v := .ref (ad 24)) mf_24 dX6_bestPlaces_155 ?_
      refine z_iload C dX6_bestPlaces_158 (show zlk _ 6 = some (.int (nI k)) from rfl) ?_
      refine z_iald C (f := tr) 10 mrv_24 k rfl (by omega) (by decide) dX6_bestPlaces_160 ?_
      refine z_top (v' := .int (nI (p k))) (by rw [htr k (by omega)]) ?_
      refine z_iaddN C dX6_bestPlaces_161 ?_
      refine z_iald C (f := (r 26)) 12 mrv_26 (k * 6 + p k) (congrArg nI (by omega)) (by omega) (by decide) dX6_bestPlaces_162 ?_
      refine z_goto C 167 dX6_bestPlaces_163 (by decide) ?_
      refine z_ior C dX6_bestPlaces_167 ?_
      refine z_istore C [(4, .int ((aS (n 1) (r 26) p k) ||| ((r 26) (k * 6 + p k)))), (3, .int ((aB (n 1) p k) ||| ((nI 1) <<< ((nI (p k)) &&& 31)))), (7, .int (nI 1)), (0, .ref (ad 0)), (1, .int mo), (2, .int (nI D)), (5, .int (nI (aM (n 1) p k))), (6, .int (nI k))] dX6_bestPlaces_168 (by decide) rfl ?_
      refine z_iload C dX6_bestPlaces_170 (show zlk _ 5 = some (.int (nI (aM (n 1) p k))) from rfl) ?_
      refine z_iload C dX6_bestPlaces_172 (show zlk _ 7 = some (.int (nI 1)) from rfl) ?_
      refine z_if_eqN C 181 dX6_bestPlaces_174 (by decide) (by decide) (fun h => absurd h (by decide)) (fun _ => ?_)
      refine z_iconst C (v := nI 1) dX6_bestPlaces_177 (by decide) ?_
      refine z_goto C 182 dX6_bestPlaces_178 (by decide) ?_
      refine z_iaddN C dX6_bestPlaces_182 ?_
      refine z_istore C [(5, .int (nI (aM (n 1) p k + 1))), (4, .int ((aS (n 1) (r 26) p k) ||| ((r 26) (k * 6 + p k)))), (3, .int ((aB (n 1) p k) ||| ((nI 1) <<< ((nI (p k)) &&& 31)))), (7, .int (nI 1)), (0, .ref (ad 0)), (1, .int mo), (2, .int (nI D)), (6, .int (nI k))] dX6_bestPlaces_183 (by decide) rfl ?_
      refine z_iincN C [(6, .int (nI (k + 1))), (5, .int (nI (aM (n 1) p k + 1))), (4, .int ((aS (n 1) (r 26) p k) ||| ((r 26) (k * 6 + p k)))), (3, .int ((aB (n 1) p k) ||| ((nI 1) <<< ((nI (p k)) &&& 31)))), (7, .int (nI 1)), (0, .ref (ad 0)), (1, .int mo), (2, .int (nI D))] dX6_bestPlaces_185 rfl (by decide) rfl ?_
      refine z_goto C 90 dX6_bestPlaces_188 (by decide) ?_
      exact z_to (ih90) (rfl) (by simp [zlk, aB, aS, aM, h107n_1])
set_option maxHeartbeats 4000000 in
set_option maxRecDepth 100000 in
theorem bp_leaf {l : Launch} {θ : zH} {κ : zX} (C : zC κ l cX6_bestPlaces 8 RX6 wsX6_bestPlaces 3 θ) (ad : Nat → Nat) (n : Nat → Nat) (g : Int32) (r : Nat → Nat → Int32) (tr be : Nat → Int32) (mo : Int32) (D : Nat) (p : Nat → Nat) (bu se : Int32) (c : Nat) (hS : n 1 ≤ 6) (hD : D ≤ 5) (htr : ∀ k, k < D → tr k = nI (p k)) (hpS : ∀ k, k < D → p k ≤ 6) (hW : D = n 3) (hc : c ≤ 5) (kk : Z κ (MW θ ad n g (rv (r 2) (r 4) (r 6) (r 7) (r 9) (r 17) (r 19) (r 21) (r 23) tr (((if nI c ≤ mo then (mo, be) else (nI c, m_cq be (chP (n 1) p) (n 3)) : PB)).2) (r 26) (r 28) (r 29) (r 30) (r 31) (r 32))) 75 [(0, .ref (ad 0)), (1, .int (((if nI c ≤ mo then (mo, be) else (nI c, m_cq be (chP (n 1) p) (n 3)) : PB)).1)), (2, .int ((nI D) + (-1)))] []) : Z κ (MW θ ad n g (rv (r 2) (r 4) (r 6) (r 7) (r 9) (r 17) (r 19) (r 21) (r 23) tr be (r 26) (r 28) (r 29) (r 30) (r 31) (r 32))) 191 [(0, .ref (ad 0)), (1, .int mo), (2, .int (nI D)), (3, .int bu), (4, .int se), (5, .int (nI c))] [] := by
  have hin : ∀ w ∈ wsX60, w ∈ wsX6_bestPlaces := by decide +kernel
  refine z_iload_n C dX6_bestPlaces_191 rfl (show zlk _ 2 = some (.int (nI D)) from rfl) ?_
  refine z_aload_n C dX6_bestPlaces_192 rfl (show zlk _ 0 = some (.ref (ad 0)) from rfl) ?_
  refine z_mg C hin 3 (by decide) (by decide +kernel) (v := .int (nI (n 3))) mf_3 dX6_bestPlaces_193 ?_
  refine z_icmp_neF C 264 dX6_bestPlaces_196 (by decide) (by omega) (by omega) (hW) ?_
  refine z_iload C dX6_bestPlaces_199 (show zlk _ 5 = some (.int (nI c)) from rfl) ?_
  refine z_iload_n C dX6_bestPlaces_201 rfl (show zlk _ 1 = some (.int mo) from rfl) ?_
  refine z_icmp_le C 258 dX6_bestPlaces_202 (by decide) (fun h202t_1 => ?_) (fun h202n_1 => ?_)
  · refine z_iinc C [(2, .int (nI D + (-1))), (0, .ref (ad 0)), (1, .int mo), (3, .int bu), (4, .int se), (5, .int (nI c))] dX6_bestPlaces_258 rfl rfl (by decide) rfl ?_
    refine z_goto C 364 dX6_bestPlaces_261 (by decide) ?_
    refine z_goto C 75 dX6_bestPlaces_364 (by decide) ?_
    rw [if_pos h202t_1] at kk
    exact z_to (kk) (mw_eq rfl rfl rfl rfl rfl rfl rfl rfl rfl rfl rfl rfl rfl rfl rfl rfl rfl rfl rfl rfl rfl rfl rfl rfl rfl rfl rfl rfl rfl rfl rfl rfl) rfl
  · refine z_iload C dX6_bestPlaces_205 (show zlk _ 5 = some (.int (nI c)) from rfl) ?_
    refine z_istore_n C [(1, .int (nI c)), (0, .ref (ad 0)), (2, .int (nI D)), (3, .int bu), (4, .int se), (5, .int (nI c))] dX6_bestPlaces_207 rfl (by decide) rfl ?_
    refine z_iconst C (v := nI 0) dX6_bestPlaces_208 (by decide) ?_
    refine z_istore C [(6, .int (nI 0)), (1, .int (nI c)), (0, .ref (ad 0)), (2, .int (nI D)), (3, .int bu), (4, .int se), (5, .int (nI c))] dX6_bestPlaces_209 (by decide) rfl ?_
    refine z_lv (lv' := [(0, .ref (ad 0)), (1, .int (nI c)), (2, .int (nI D)), (6, .int (nI 0))]) rfl ?_
    refine z_X (Y := MW θ ad n g (rv (r 2) (r 4) (r 6) (r 7) (r 9) (r 17) (r 19) (r 21) (r 23) tr (m_cq be (chP (n 1) p) 0) (r 26) (r 28) (r 29) (r 30) (r 31) (r 32))) (mw_eq rfl rfl rfl rfl rfl rfl rfl rfl rfl rfl rfl rfl rfl rfl rfl rfl rfl rfl rfl rfl rfl rfl rfl rfl rfl rfl rfl rfl rfl rfl rfl rfl) ?_
    refine z_up (fun k => Z κ (MW θ ad n g (rv (r 2) (r 4) (r 6) (r 7) (r 9) (r 17) (r 19) (r 21) (r 23) tr (m_cq be (chP (n 1) p) k) (r 26) (r 28) (r 29) (r 30) (r 31) (r 32))) 211 [(0, .ref (ad 0)), (1, .int (nI c)), (2, .int (nI D)), (6, .int (nI k))] []) (n 3) ?_ ?_ 0 (by omega)
    · refine z_iload C dX6_bestPlaces_211 (show zlk _ 6 = some (.int (nI (n 3))) from rfl) ?_
      refine z_aload_n C dX6_bestPlaces_213 rfl (show zlk _ 0 = some (.ref (ad 0)) from rfl) ?_
      refine z_mg C hin 3 (by decide) (by decide +kernel) (v := .int (nI (n 3))) mf_3 dX6_bestPlaces_214 ?_
      refine z_icmp_geT C 258 dX6_bestPlaces_217 (by decide) (by omega) (by omega) (by omega) ?_
      refine z_iinc C [(2, .int (nI D + (-1))), (0, .ref (ad 0)), (1, .int (nI c)), (6, .int (nI (n 3)))] dX6_bestPlaces_258 rfl rfl (by decide) rfl ?_
      refine z_goto C 364 dX6_bestPlaces_261 (by decide) ?_
      refine z_goto C 75 dX6_bestPlaces_364 (by decide) ?_
      rw [if_neg h202n_1] at kk
      exact z_to (kk) (mw_eq rfl rfl rfl rfl rfl rfl rfl rfl rfl rfl rfl rfl rfl rfl rfl rfl rfl rfl rfl rfl rfl rfl rfl rfl rfl rfl rfl rfl rfl rfl rfl rfl) rfl
    · intro k hk211 ih211
      refine z_iload C dX6_bestPlaces_211 (show zlk _ 6 = some (.int (nI k)) from rfl) ?_
      refine z_aload_n C dX6_bestPlaces_213 rfl (show zlk _ 0 = some (.ref (ad 0)) from rfl) ?_
      refine z_mg C hin 3 (by decide) (by decide +kernel) (v := .int (nI (n 3))) mf_3 dX6_bestPlaces_214 ?_
      refine z_icmp_geF C 258 dX6_bestPlaces_217 (by decide) (by omega) (by omega) (by omega) ?_
      refine z_aload_n C dX6_bestPlaces_220 rfl (show zlk _ 0 = some (.ref (ad 0)) from rfl) ?_
      refine z_mg C hin 25 (by decide) (by decide +kernel) (v := .ref (ad 25)) mf_25 dX6_bestPlaces_221 ?_
      refine z_iload C dX6_bestPlaces_224 (show zlk _ 6 = some (.int (nI k)) from rfl) ?_
      refine z_aload_n C dX6_bestPlaces_226 rfl (show zlk _ 0 = some (.ref (ad 0)) from rfl) ?_
      refine z_mg C hin 24 (by decide) (by decide +kernel) (v := .ref (ad 24)) mf_24 dX6_bestPlaces_227 ?_
      refine z_iload C dX6_bestPlaces_230 (show zlk _ 6 = some (.int (nI k)) from rfl) ?_
      refine z_iald C (f := tr) 10 mrv_24 k rfl (by omega) (by decide) dX6_bestPlaces_232 ?_
      refine z_top (v' := .int (nI (p k))) (by rw [htr k (by omega)]) ?_
      refine z_aload_n C dX6_bestPlaces_233 rfl (show zlk _ 0 = some (.ref (ad 0)) from rfl) ?_
      refine z_mg C hin 1 (by decide) (by decide +kernel) (v := .int (nI (n 1))) mf_1 dX6_bestPlaces_234 ?_
      refine z_icmp_geN C 250 dX6_bestPlaces_237 (by decide) (by have := hpS k (by omega); omega) (by omega) (fun h237t_2 => ?_) (fun h237n_2 => ?_)
      · refine z_iconst C (v := (-1)) dX6_bestPlaces_250 (by decide) ?_
        refine z_iast C (f := (m_cq be (chP (n 1) p) k)) 11 mrv_25 k rfl (by omega) (by decide) _ msv_25 dX6_bestPlaces_251 ?_
        refine z_iincN C [(6, .int (nI (k + 1))), (0, .ref (ad 0)), (1, .int (nI c)), (2, .int (nI D))] dX6_bestPlaces_252 rfl (by decide) rfl ?_
        refine z_goto C 211 dX6_bestPlaces_255 (by decide) ?_
        exact z_to (ih211) (by rw [m_cq, chP_t h237t_2] <;> exact (mw_eq rfl rfl rfl rfl rfl rfl rfl rfl rfl rfl rfl rfl rfl rfl rfl rfl rfl rfl rfl rfl rfl rfl rfl rfl rfl rfl rfl rfl rfl rfl rfl rfl)) (rfl)
      · refine z_aload_n C dX6_bestPlaces_240 rfl (show zlk _ 0 = some (.ref (ad 0)) from rfl) ?_
        refine z_mg C hin 24 (by decide) (by decide +kernel) (v := .ref (ad 24)) mf_24 dX6_bestPlaces_241 ?_
        refine z_iload C dX6_bestPlaces_244 (show zlk _ 6 = some (.int (nI k)) from rfl) ?_
        refine z_iald C (f := tr) 10 mrv_24 k rfl (by omega) (by decide) dX6_bestPlaces_246 ?_
        refine z_top (v' := .int (nI (p k))) (by rw [htr k (by omega)]) ?_
        refine z_goto C 251 dX6_bestPlaces_247 (by decide) ?_
        refine z_iast C (f := (m_cq be (chP (n 1) p) k)) 11 mrv_25 k rfl (by omega) (by decide) _ msv_25 dX6_bestPlaces_251 ?_
        refine z_iincN C [(6, .int (nI (k + 1))), (0, .ref (ad 0)), (1, .int (nI c)), (2, .int (nI D))] dX6_bestPlaces_252 rfl (by decide) rfl ?_
        refine z_goto C 211 dX6_bestPlaces_255 (by decide) ?_
        exact z_to (ih211) (by rw [m_cq, chP_f h237n_2] <;> exact (mw_eq rfl rfl rfl rfl rfl rfl rfl rfl rfl rfl rfl rfl rfl rfl rfl rfl rfl rfl rfl rfl rfl rfl rfl rfl rfl rfl rfl rfl rfl rfl rfl rfl)) (rfl)
set_option maxHeartbeats 4000000 in
set_option maxRecDepth 100000 in
theorem bp_next {l : Launch} {θ : zH} {κ : zX} (C : zC κ l cX6_bestPlaces 8 RX6 wsX6_bestPlaces 3 θ) (ad : Nat → Nat) (n : Nat → Nat) (g : Int32) (r : Nat → Nat → Int32) (tr be : Nat → Int32) (mo : Int32) (D : Nat) (p : Nat → Nat) (bu se : Int32) (c s : Nat) (hS : n 1 ≤ 6) (hD : D ≤ 5) (htr : ∀ k, k < D → tr k = nI (p k)) (hpS : ∀ k, k < D → p k ≤ 6) (hW : D < n 3) (hW5 : n 3 ≤ 5) (hs : tr D + nI 1 = nI s) (kk : Z κ (MW θ ad n g (rv (r 2) (r 4) (r 6) (r 7) (r 9) (r 17) (r 19) (r 21) (r 23) tr be (r 26) (r 28) (r 29) (r 30) (r 31) (r 32))) 274 [(0, .ref (ad 0)), (1, .int mo), (2, .int (nI D)), (3, .int bu), (4, .int se), (5, .int (nI c)), (6, .int (nI s))] []) : Z κ (MW θ ad n g (rv (r 2) (r 4) (r 6) (r 7) (r 9) (r 17) (r 19) (r 21) (r 23) tr be (r 26) (r 28) (r 29) (r 30) (r 31) (r 32))) 191 [(0, .ref (ad 0)), (1, .int mo), (2, .int (nI D)), (3, .int bu), (4, .int se), (5, .int (nI c))] [] := by
  have hin : ∀ w ∈ wsX60, w ∈ wsX6_bestPlaces := by decide +kernel
  refine z_iload_n C dX6_bestPlaces_191 rfl (show zlk _ 2 = some (.int (nI D)) from rfl) ?_
  refine z_aload_n C dX6_bestPlaces_192 rfl (show zlk _ 0 = some (.ref (ad 0)) from rfl) ?_
  refine z_mg C hin 3 (by decide) (by decide +kernel) (v := .int (nI (n 3))) mf_3 dX6_bestPlaces_193 ?_
  refine z_icmp_neT C 264 dX6_bestPlaces_196 (by decide) (by omega) (by omega) (by omega) ?_
  refine z_aload_n C dX6_bestPlaces_264 rfl (show zlk _ 0 = some (.ref (ad 0)) from rfl) ?_
  refine z_mg C hin 24 (by decide) (by decide +kernel) (v := .ref (ad 24)) mf_24 dX6_bestPlaces_265 ?_
  refine z_iload_n C dX6_bestPlaces_268 rfl (show zlk _ 2 = some (.int (nI D)) from rfl) ?_
  refine z_iald C (f := tr) 10 mrv_24 D rfl (by omega) (by decide) dX6_bestPlaces_269 ?_
  refine z_iconst C (v := nI 1) dX6_bestPlaces_270 (by decide) ?_
  refine z_iadd C dX6_bestPlaces_271 ?_
  refine z_top (v' := .int (nI s)) (congrArg Value.int hs) ?_
  refine z_istore C [(6, .int (nI s)), (0, .ref (ad 0)), (1, .int mo), (2, .int (nI D)), (3, .int bu), (4, .int se), (5, .int (nI c))] dX6_bestPlaces_272 (by decide) rfl ?_
  exact z_to (kk) rfl rfl
set_option maxHeartbeats 4000000 in
set_option maxRecDepth 100000 in
theorem bp_take {l : Launch} {θ : zH} {κ : zX} (C : zC κ l cX6_bestPlaces 8 RX6 wsX6_bestPlaces 3 θ) (ad : Nat → Nat) (n : Nat → Nat) (g : Int32) (r : Nat → Nat → Int32) (tr be : Nat → Int32) (mo : Int32) (D : Nat) (p : Nat → Nat) (bu se : Int32) (c s : Nat) (hs : s ≤ n 1) (hS : n 1 ≤ 6) (hD : D < 5) (kk : Z κ (MW θ ad n g (rv (r 2) (r 4) (r 6) (r 7) (r 9) (r 17) (r 19) (r 21) (r 23) (upd (upd tr D (nI s)) (D + 1) (-1)) be (r 26) (r 28) (r 29) (r 30) (r 31) (r 32))) 75 [(0, .ref (ad 0)), (1, .int mo), (2, .int (nI (D + 1)))] []) : Z κ (MW θ ad n g (rv (r 2) (r 4) (r 6) (r 7) (r 9) (r 17) (r 19) (r 21) (r 23) tr be (r 26) (r 28) (r 29) (r 30) (r 31) (r 32))) 331 [(0, .ref (ad 0)), (1, .int mo), (2, .int (nI D)), (3, .int bu), (4, .int se), (5, .int (nI c)), (6, .int (nI s))] [] := by
  have hin : ∀ w ∈ wsX60, w ∈ wsX6_bestPlaces := by decide +kernel
  refine z_aload_n C dX6_bestPlaces_331 rfl (show zlk _ 0 = some (.ref (ad 0)) from rfl) ?_
  refine z_mg C hin 24 (by decide) (by decide +kernel) (v := .ref (ad 24)) mf_24 dX6_bestPlaces_332 ?_
  refine z_iload_n C dX6_bestPlaces_335 rfl (show zlk _ 2 = some (.int (nI D)) from rfl) ?_
  refine z_iload C dX6_bestPlaces_336 (show zlk _ 6 = some (.int (nI s)) from rfl) ?_
  refine z_iast C (f := tr) 10 mrv_24 D rfl (by omega) (by decide) _ msv_24 dX6_bestPlaces_338 ?_
  refine z_iload C dX6_bestPlaces_339 (show zlk _ 6 = some (.int (nI s)) from rfl) ?_
  refine z_aload_n C dX6_bestPlaces_341 rfl (show zlk _ 0 = some (.ref (ad 0)) from rfl) ?_
  refine z_mg C hin 1 (by decide) (by decide +kernel) (v := .int (nI (n 1))) mf_1 dX6_bestPlaces_342 ?_
  refine z_icmp_leT C 354 dX6_bestPlaces_345 (by decide) (by omega) (by omega) (hs) ?_
  refine z_iincN C [(2, .int (nI (D + 1))), (0, .ref (ad 0)), (1, .int mo), (3, .int bu), (4, .int se), (5, .int (nI c)), (6, .int (nI s))] dX6_bestPlaces_354 rfl (by decide) rfl ?_
  refine z_aload_n C dX6_bestPlaces_357 rfl (show zlk _ 0 = some (.ref (ad 0)) from rfl) ?_
  refine z_mg C hin 24 (by decide) (by decide +kernel) (v := .ref (ad 24)) mf_24 dX6_bestPlaces_358 ?_
  refine z_iload_n C dX6_bestPlaces_361 rfl (show zlk _ 2 = some (.int (nI (D + 1))) from rfl) ?_
  refine z_iconst C (v := (-1)) dX6_bestPlaces_362 (by decide) ?_
  refine z_iast C (f := (upd tr D (nI s))) 10 mrv_24 (D + 1) rfl (by omega) (by decide) _ msv_24 dX6_bestPlaces_363 ?_
  refine z_goto C 75 dX6_bestPlaces_364 (by decide) ?_
  exact z_to (kk) (mw_eq rfl rfl rfl rfl rfl rfl rfl rfl rfl rfl rfl rfl rfl rfl rfl rfl rfl rfl rfl rfl rfl rfl rfl rfl rfl rfl rfl rfl rfl rfl rfl rfl) rfl
set_option maxHeartbeats 4000000 in
set_option maxRecDepth 100000 in
theorem bp_done {l : Launch} {θ : zH} {κ : zX} (C : zC κ l cX6_bestPlaces 8 RX6 wsX6_bestPlaces 3 θ) (ad : Nat → Nat) (n : Nat → Nat) (g : Int32) (r : Nat → Nat → Int32) (tr be : Nat → Int32) (mo : Int32) (D : Nat) (p : Nat → Nat) (bu se : Int32) (c s : Nat) (hs : n 1 < s) (hs2 : s ≤ 7) (hD : D < 5) (kk : Z κ (MW θ ad n g (rv (r 2) (r 4) (r 6) (r 7) (r 9) (r 17) (r 19) (r 21) (r 23) (upd tr D (nI s)) be (r 26) (r 28) (r 29) (r 30) (r 31) (r 32))) 75 [(0, .ref (ad 0)), (1, .int mo), (2, .int ((nI D) + (-1)))] []) : Z κ (MW θ ad n g (rv (r 2) (r 4) (r 6) (r 7) (r 9) (r 17) (r 19) (r 21) (r 23) tr be (r 26) (r 28) (r 29) (r 30) (r 31) (r 32))) 331 [(0, .ref (ad 0)), (1, .int mo), (2, .int (nI D)), (3, .int bu), (4, .int se), (5, .int (nI c)), (6, .int (nI s))] [] := by
  have hin : ∀ w ∈ wsX60, w ∈ wsX6_bestPlaces := by decide +kernel
  refine z_aload_n C dX6_bestPlaces_331 rfl (show zlk _ 0 = some (.ref (ad 0)) from rfl) ?_
  refine z_mg C hin 24 (by decide) (by decide +kernel) (v := .ref (ad 24)) mf_24 dX6_bestPlaces_332 ?_
  refine z_iload_n C dX6_bestPlaces_335 rfl (show zlk _ 2 = some (.int (nI D)) from rfl) ?_
  refine z_iload C dX6_bestPlaces_336 (show zlk _ 6 = some (.int (nI s)) from rfl) ?_
  refine z_iast C (f := tr) 10 mrv_24 D rfl (by omega) (by decide) _ msv_24 dX6_bestPlaces_338 ?_
  refine z_iload C dX6_bestPlaces_339 (show zlk _ 6 = some (.int (nI s)) from rfl) ?_
  refine z_aload_n C dX6_bestPlaces_341 rfl (show zlk _ 0 = some (.ref (ad 0)) from rfl) ?_
  refine z_mg C hin 1 (by decide) (by decide +kernel) (v := .int (nI (n 1))) mf_1 dX6_bestPlaces_342 ?_
  refine z_icmp_leF C 354 dX6_bestPlaces_345 (by decide) (by omega) (by omega) (by omega) ?_
  refine z_iinc C [(2, .int (nI D + (-1))), (0, .ref (ad 0)), (1, .int mo), (3, .int bu), (4, .int se), (5, .int (nI c)), (6, .int (nI s))] dX6_bestPlaces_348 rfl rfl (by decide) rfl ?_
  refine z_goto C 364 dX6_bestPlaces_351 (by decide) ?_
  refine z_goto C 75 dX6_bestPlaces_364 (by decide) ?_
  exact z_to (kk) (mw_eq rfl rfl rfl rfl rfl rfl rfl rfl rfl rfl rfl rfl rfl rfl rfl rfl rfl rfl rfl rfl rfl rfl rfl rfl rfl rfl rfl rfl rfl rfl rfl rfl) rfl
set_option maxHeartbeats 4000000 in
set_option maxRecDepth 100000 in
theorem bp_end {l : Launch} {θ : zH} {κ : zX} (C : zC κ l cX6_bestPlaces 8 RX6 wsX6_bestPlaces 3 θ) (ad : Nat → Nat) (n : Nat → Nat) (g : Int32) (r : Nat → Nat → Int32) (tr be : Nat → Int32) (mo : Int32) (D : Nat) (p : Nat → Nat) (bu se : Int32) (c s : Nat) (hs : n 1 ≤ s) (hs2 : s ≤ 7) (kk : Z κ (MW θ ad n g (rv (r 2) (r 4) (r 6) (r 7) (r 9) (r 17) (r 19) (r 21) (r 23) tr be (r 26) (r 28) (r 29) (r 30) (r 31) (r 32))) 331 [(0, .ref (ad 0)), (1, .int mo), (2, .int (nI D)), (3, .int bu), (4, .int se), (5, .int (nI c)), (6, .int (nI s))] []) : Z κ (MW θ ad n g (rv (r 2) (r 4) (r 6) (r 7) (r 9) (r 17) (r 19) (r 21) (r 23) tr be (r 26) (r 28) (r 29) (r 30) (r 31) (r 32))) 274 [(0, .ref (ad 0)), (1, .int mo), (2, .int (nI D)), (3, .int bu), (4, .int se), (5, .int (nI c)), (6, .int (nI s))] [] := by
  have hin : ∀ w ∈ wsX60, w ∈ wsX6_bestPlaces := by decide +kernel
  refine z_iload C dX6_bestPlaces_274 (show zlk _ 6 = some (.int (nI s)) from rfl) ?_
  refine z_aload_n C dX6_bestPlaces_276 rfl (show zlk _ 0 = some (.ref (ad 0)) from rfl) ?_
  refine z_mg C hin 1 (by decide) (by decide +kernel) (v := .int (nI (n 1))) mf_1 dX6_bestPlaces_277 ?_
  refine z_icmp_geT C 331 dX6_bestPlaces_280 (by decide) (by omega) (by omega) (hs) ?_
  exact z_to (kk) rfl rfl
set_option maxHeartbeats 4000000 in
set_option maxRecDepth 100000 in
theorem bp_try {l : Launch} {θ : zH} {κ : zX} (C : zC κ l cX6_bestPlaces 8 RX6 wsX6_bestPlaces 3 θ) (ad : Nat → Nat) (n : Nat → Nat) (g : Int32) (r : Nat → Nat → Int32) (tr be : Nat → Int32) (mo : Int32) (D : Nat) (p : Nat → Nat) (bu se : Int32) (c s : Nat) (hs : s < n 1) (hS : n 1 ≤ 6) (hD : D < 5) (kv : (m_has bu (nI s) = false ∧ ¬ r 26 (D * 6 + s) = 0 ∧ r 26 (D * 6 + s) &&& se = 0) → Z κ (MW θ ad n g (rv (r 2) (r 4) (r 6) (r 7) (r 9) (r 17) (r 19) (r 21) (r 23) tr be (r 26) (r 28) (r 29) (r 30) (r 31) (r 32))) 331 [(0, .ref (ad 0)), (1, .int mo), (2, .int (nI D)), (3, .int bu), (4, .int se), (5, .int (nI c)), (6, .int (nI s))] []) (kn : ¬ (m_has bu (nI s) = false ∧ ¬ r 26 (D * 6 + s) = 0 ∧ r 26 (D * 6 + s) &&& se = 0) → Z κ (MW θ ad n g (rv (r 2) (r 4) (r 6) (r 7) (r 9) (r 17) (r 19) (r 21) (r 23) tr be (r 26) (r 28) (r 29) (r 30) (r 31) (r 32))) 274 [(0, .ref (ad 0)), (1, .int mo), (2, .int (nI D)), (3, .int bu), (4, .int se), (5, .int (nI c)), (6, .int (nI (s + 1)))] []) : Z κ (MW θ ad n g (rv (r 2) (r 4) (r 6) (r 7) (r 9) (r 17) (r 19) (r 21) (r 23) tr be (r 26) (r 28) (r 29) (r 30) (r 31) (r 32))) 274 [(0, .ref (ad 0)), (1, .int mo), (2, .int (nI D)), (3, .int bu), (4, .int se), (5, .int (nI c)), (6, .int (nI s))] [] := by
  have hin : ∀ w ∈ wsX60, w ∈ wsX6_bestPlaces := by decide +kernel
  refine z_iload C dX6_bestPlaces_274 (show zlk _ 6 = some (.int (nI s)) from rfl) ?_
  refine z_aload_n C dX6_bestPlaces_276 rfl (show zlk _ 0 = some (.ref (ad 0)) from rfl) ?_
  refine z_mg C hin 1 (by decide) (by decide +kernel) (v := .int (nI (n 1))) mf_1 dX6_bestPlaces_277 ?_
  refine z_icmp_geF C 331 dX6_bestPlaces_280 (by decide) (by omega) (by omega) (by omega) ?_
  refine z_iload_n C dX6_bestPlaces_283 rfl (show zlk _ 3 = some (.int bu) from rfl) ?_
  refine z_iload C dX6_bestPlaces_284 (show zlk _ 6 = some (.int (nI s)) from rfl) ?_
  refine z_callSi C (As := [.int bu, .int (nI s)]) (rest := []) (c_X6_has l θ _ bu (nI s)) gX6_bestPlaces_X6_has rfl 2 (by decide +kernel) (by decide) (by decide) rfl rfl (Nat.le_of_ble_eq_true rfl) dX6_bestPlaces_286 ?_
  rintro _ _ ⟨rfl, rfl⟩
  refine z_top (v' := .int (bI (m_has bu (nI s)))) rfl ?_
  refine z_if_neB C 325 dX6_bestPlaces_289 (by decide) (fun h289t_1 => ?_) (fun h289n_1 => ?_)
  · refine z_iincN C [(6, .int (nI (s + 1))), (0, .ref (ad 0)), (1, .int mo), (2, .int (nI D)), (3, .int bu), (4, .int se), (5, .int (nI c))] dX6_bestPlaces_325 rfl (by decide) rfl ?_
    refine z_goto C 274 dX6_bestPlaces_328 (by decide) ?_
    exact z_to (kn (fun z => by rw [z.1] at h289t_1; cases h289t_1)) rfl rfl
  · refine z_aload_n C dX6_bestPlaces_292 rfl (show zlk _ 0 = some (.ref (ad 0)) from rfl) ?_
    refine z_mg C hin 26 (by decide) (by decide +kernel) (v := .ref (ad 26)) mf_26 dX6_bestPlaces_293 ?_
    refine z_bipush C (v := nI 6) dX6_bestPlaces_296 (by decide) ?_
    refine z_iload_n C dX6_bestPlaces_298 rfl (show zlk _ 2 = some (.int (nI D)) from rfl) ?_
    refine z_imulN C dX6_bestPlaces_299 ?_
    refine z_iload C dX6_bestPlaces_300 (show zlk _ 6 = some (.int (nI s)) from rfl) ?_
    refine z_iaddN C dX6_bestPlaces_302 ?_
    refine z_iald C (f := (r 26)) 12 mrv_26 (D * 6 + s) (congrArg nI (by omega)) (by omega) (by decide) dX6_bestPlaces_303 ?_
    refine z_if_eq C 325 dX6_bestPlaces_304 (by decide) (fun h304t_2 => ?_) (fun h304n_2 => ?_)
    · refine z_iincN C [(6, .int (nI (s + 1))), (0, .ref (ad 0)), (1, .int mo), (2, .int (nI D)), (3, .int bu), (4, .int se), (5, .int (nI c))] dX6_bestPlaces_325 rfl (by decide) rfl ?_
      refine z_goto C 274 dX6_bestPlaces_328 (by decide) ?_
      exact z_to (kn (fun z => z.2.1 h304t_2)) rfl rfl
    · refine z_aload_n C dX6_bestPlaces_307 rfl (show zlk _ 0 = some (.ref (ad 0)) from rfl) ?_
      refine z_mg C hin 26 (by decide) (by decide +kernel) (v := .ref (ad 26)) mf_26 dX6_bestPlaces_308 ?_
      refine z_bipush C (v := nI 6) dX6_bestPlaces_311 (by decide) ?_
      refine z_iload_n C dX6_bestPlaces_313 rfl (show zlk _ 2 = some (.int (nI D)) from rfl) ?_
      refine z_imulN C dX6_bestPlaces_314 ?_
      refine z_iload C dX6_bestPlaces_315 (show zlk _ 6 = some (.int (nI s)) from rfl) ?_
      refine z_iaddN C dX6_bestPlaces_317 ?_
      refine z_iald C (f := (r 26)) 12 mrv_26 (D * 6 + s) (congrArg nI (by omega)) (by omega) (by decide) dX6_bestPlaces_318 ?_
      refine z_iload C dX6_bestPlaces_319 (show zlk _ 4 = some (.int se) from rfl) ?_
      refine z_iand C dX6_bestPlaces_321 ?_
      refine z_if_eq C 331 dX6_bestPlaces_322 (by decide) (fun h322t_3 => ?_) (fun h322n_3 => ?_)
      · exact z_to (kv ⟨h289n_1, h304n_2, h322t_3⟩) rfl rfl
      · refine z_iincN C [(6, .int (nI (s + 1))), (0, .ref (ad 0)), (1, .int mo), (2, .int (nI D)), (3, .int bu), (4, .int se), (5, .int (nI c))] dX6_bestPlaces_325 rfl (by decide) rfl ?_
        refine z_goto C 274 dX6_bestPlaces_328 (by decide) ?_
        exact z_to (kn (fun z => h322n_3 z.2.2)) rfl rfl
def pu (p : Nat → Nat) (D s : Nat) : Nat → Nat := fun k => if k = D then s else p k
theorem aB_pu {S : Nat} {p : Nat → Nat} {D s : Nat} : ∀ k, k ≤ D → aB S (pu p D s) k = aB S p k
  | 0, _ => rfl
  | k + 1, h => by
    unfold aB
    rw [aB_pu k (by omega), show pu p D s k = p k from if_neg (by omega)]
theorem aS_pu {S : Nat} {dr : Nat → Int32} {p : Nat → Nat} {D s : Nat} : ∀ k, k ≤ D → aS S dr (pu p D s) k = aS S dr p k
  | 0, _ => rfl
  | k + 1, h => by
    unfold aS
    rw [aS_pu k (by omega), show pu p D s k = p k from if_neg (by omega)]
theorem aM_pu {S : Nat} {p : Nat → Nat} {D s : Nat} : ∀ k, k ≤ D → aM S (pu p D s) k = aM S p k
  | 0, _ => rfl
  | k + 1, h => by
    unfold aM
    rw [aM_pu k (by omega), show pu p D s k = p k from if_neg (by omega)]
theorem pu_D {p : Nat → Nat} {D s : Nat} : pu p D s D = s := if_pos rfl
theorem or_n0 (x : Int32) : x ||| nI 0 = x := Int32.or_zero
theorem pu_x {S : Nat} {dr : Nat → Int32} {p : Nat → Nat} {D s : Nat} (h : S ≤ s) : aB S (pu p D s) (D + 1) = aB S p D ∧ aS S dr (pu p D s) (D + 1) = aS S dr p D ∧ aM S (pu p D s) (D + 1) = aM S p D ∧ chP S (pu p D s) = upd (chP S p) D (-1) := by
  refine ⟨?_, ?_, ?_, ?_⟩
  · show aB S (pu p D s) D ||| (if S ≤ pu p D s D then nI 0 else _) = _
    rw [pu_D, if_pos h, aB_pu D (Nat.le_refl _), or_n0]
  · show aS S dr (pu p D s) D ||| (if S ≤ pu p D s D then nI 0 else _) = _
    rw [pu_D, if_pos h, aS_pu D (Nat.le_refl _), or_n0]
  · show aM S (pu p D s) D + (if S ≤ pu p D s D then 0 else 1) = _
    rw [pu_D, if_pos h, aM_pu D (Nat.le_refl _)]
    omega
  · funext k
    by_cases e : k = D
    · subst e
      rw [pk_us, chP_t (by rw [pu_D]; exact h)]
    · rw [pk_un e]
      unfold chP
      rw [show pu p D s k = p k from if_neg e]
theorem pu_y {S : Nat} {dr : Nat → Int32} {p : Nat → Nat} {D s : Nat} (h : s < S) : aB S (pu p D s) (D + 1) = aB S p D ||| (nI 1 <<< (nI s &&& 31)) ∧ aS S dr (pu p D s) (D + 1) = aS S dr p D ||| dr (D * 6 + s) ∧ aM S (pu p D s) (D + 1) = aM S p D + 1 ∧ chP S (pu p D s) = upd (chP S p) D (nI s) := by
  refine ⟨?_, ?_, ?_, ?_⟩
  · show aB S (pu p D s) D ||| (if S ≤ pu p D s D then nI 0 else _) = _
    rw [pu_D, if_neg (by omega), aB_pu D (Nat.le_refl _)]
  · show aS S dr (pu p D s) D ||| (if S ≤ pu p D s D then nI 0 else _) = _
    rw [pu_D, if_neg (by omega), aS_pu D (Nat.le_refl _)]
  · show aM S (pu p D s) D + (if S ≤ pu p D s D then 0 else 1) = _
    rw [pu_D, if_neg (by omega), aM_pu D (Nat.le_refl _)]
  · funext k
    by_cases e : k = D
    · subst e
      rw [pk_us, chP_f (by rw [pu_D]; omega), pu_D]
    · rw [pk_un e]
      unfold chP
      rw [show pu p D s k = p k from if_neg e]
theorem nI_dn (D : Nat) : nI (D + 1) + (-1) = nI D := pk_m1 D
theorem nI_m1s : (-1 : Int32) + nI 1 = nI 0 := by decide
set_option maxHeartbeats 4000000 in
theorem bp_K {l : Launch} {θ : zH} {κ : zX} (C : zC κ l cX6_bestPlaces 8 RX6 wsX6_bestPlaces 3 θ) (ad : Nat → Nat) (n : Nat → Nat) (g : Int32) (r : Nat → Nat → Int32) (hS : n 1 ≤ 6) (hW : n 3 ≤ 5) : ∀ d, ∀ (D : Nat) (p : Nat → Nat) (tr be : Nat → Int32) (mo : Int32), D + d = n 3 → (∀ k, k < D → p k ≤ n 1) → (∀ k, k < D → tr k = nI (p k)) → tr D = (-1) → (∀ tr1 : Nat → Int32, (∀ k, k < D → tr1 k = tr k) → Z κ (MW θ ad n g (rv (r 2) (r 4) (r 6) (r 7) (r 9) (r 17) (r 19) (r 21) (r 23) tr1 ((pq (n 1) (n 3) (r 26) d D (aS (n 1) (r 26) p D) (aB (n 1) p D) (aM (n 1) p D) (chP (n 1) p) (mo, be)).2) (r 26) (r 28) (r 29) (r 30) (r 31) (r 32))) 75 [(0, .ref (ad 0)), (1, .int (pq (n 1) (n 3) (r 26) d D (aS (n 1) (r 26) p D) (aB (n 1) p D) (aM (n 1) p D) (chP (n 1) p) (mo, be)).1), (2, .int (nI D + (-1)))] []) → Z κ (MW θ ad n g (rv (r 2) (r 4) (r 6) (r 7) (r 9) (r 17) (r 19) (r 21) (r 23) tr be (r 26) (r 28) (r 29) (r 30) (r 31) (r 32))) 75 [(0, .ref (ad 0)), (1, .int mo), (2, .int (nI D))] [] := by
  intro d
  induction d with
  | zero =>
    intro D p tr be mo hD hp htr ht kk
    have hp6 : ∀ k, k < D → p k ≤ 6 := fun k hk => Nat.le_trans (hp k hk) hS
    refine bp_acc C ad n g r tr be mo D p hS (by omega) htr hp6 ?_
    refine bp_leaf C ad n g r tr be mo D p _ _ _ hS (by omega) htr hp6 (by omega) (Nat.le_trans (aM_le _ _ _) (by omega)) ?_
    exact kk tr (fun _ _ => rfl)
  | succ d ih =>
    intro D p tr be mo hD hp htr ht kk
    have hp6 : ∀ k, k < D → p k ≤ 6 := fun k hk => Nat.le_trans (hp k hk) hS
    have KB : ∀ (m s : Nat), s + m = n 1 → ∀ (tr be : Nat → Int32) (mo : Int32), (∀ k, k < D → tr k = nI (p k)) → (∀ tr1 : Nat → Int32, (∀ k, k < D → tr1 k = tr k) → Z κ (MW θ ad n g (rv (r 2) (r 4) (r 6) (r 7) (r 9) (r 17) (r 19) (r 21) (r 23) tr1 ((pq (n 1) (n 3) (r 26) d (D + 1) (aS (n 1) (r 26) p D) (aB (n 1) p D) (aM (n 1) p D) (upd (chP (n 1) p) D (-1)) (pqF (pqS (n 1) (n 3) (r 26) d D (aS (n 1) (r 26) p D) (aB (n 1) p D) (aM (n 1) p D) (chP (n 1) p)) m s (mo, be))).2) (r 26) (r 28) (r 29) (r 30) (r 31) (r 32))) 75 [(0, .ref (ad 0)), (1, .int (pq (n 1) (n 3) (r 26) d (D + 1) (aS (n 1) (r 26) p D) (aB (n 1) p D) (aM (n 1) p D) (upd (chP (n 1) p) D (-1)) (pqF (pqS (n 1) (n 3) (r 26) d D (aS (n 1) (r 26) p D) (aB (n 1) p D) (aM (n 1) p D) (chP (n 1) p)) m s (mo, be))).1), (2, .int (nI D + (-1)))] []) → Z κ (MW θ ad n g (rv (r 2) (r 4) (r 6) (r 7) (r 9) (r 17) (r 19) (r 21) (r 23) tr be (r 26) (r 28) (r 29) (r 30) (r 31) (r 32))) 274 [(0, .ref (ad 0)), (1, .int mo), (2, .int (nI D)), (3, .int (aB (n 1) p D)), (4, .int (aS (n 1) (r 26) p D)), (5, .int (nI (aM (n 1) p D))), (6, .int (nI s))] [] := by
      intro m
      induction m with
      | zero =>
        intro s hs tr be mo htr kk
        have hs' : s = n 1 := by omega
        refine bp_end C ad n g r tr be mo D p _ _ _ s (by omega) (by omega) ?_
        refine bp_take C ad n g r tr be mo D p _ _ _ s (by omega) hS (by omega) ?_
        obtain ⟨e1, e2, e3, e4⟩ := pu_x (S := n 1) (dr := r 26) (p := p) (D := D) (s := s) (by omega)
        refine ih (D + 1) (pu p D s) _ be mo (by omega) (fun k hk => ?_) (fun k hk => ?_) pk_us (fun tr1 h1 => ?_)
        · by_cases e : k = D
          · rw [e, pu_D]; omega
          · rw [show pu p D s k = p k from if_neg e]; exact hp k (by omega)
        · rw [pk_un (by omega)]
          by_cases e : k = D
          · rw [e, pk_us, pu_D]
          · rw [pk_un e, show pu p D s k = p k from if_neg e]; exact htr k (by omega)
        · rw [e1, e2, e3, e4, nI_dn]
          have h2 : ∀ k, k < D → tr1 k = tr k := fun k hk => by rw [h1 k (by omega), pk_un (by omega), pk_un (by omega)]
          have h3 : tr1 D = nI s := by rw [h1 D (by omega), pk_un (by omega), pk_us]
          have h4 : ∀ k, k < D → tr1 k = nI (p k) := fun k hk => (h2 k hk).trans (htr k hk)
          refine bp_acc C ad n g r tr1 _ _ D p hS (by omega) h4 hp6 ?_
          refine bp_next C ad n g r tr1 _ _ D p _ _ _ (s + 1) hS (by omega) h4 hp6 (by omega) hW (by rw [h3, nI_add]) ?_
          refine bp_end C ad n g r tr1 _ _ D p _ _ _ (s + 1) (by omega) (by omega) ?_
          refine bp_done C ad n g r tr1 _ _ D p _ _ _ (s + 1) (by omega) (by omega) (by omega) ?_
          exact kk _ (fun k hk => by rw [pk_un (by omega)]; exact h2 k hk)
      | succ m ihm =>
        intro s hs tr be mo htr kk
        refine bp_try C ad n g r tr be mo D p _ _ _ s (by omega) hS (by omega) (fun hv => ?_) (fun hv => ?_)
        · refine bp_take C ad n g r tr be mo D p _ _ _ s (by omega) hS (by omega) ?_
          obtain ⟨e1, e2, e3, e4⟩ := pu_y (S := n 1) (dr := r 26) (p := p) (D := D) (s := s) (by omega)
          refine ih (D + 1) (pu p D s) _ be mo (by omega) (fun k hk => ?_) (fun k hk => ?_) pk_us (fun tr1 h1 => ?_)
          · by_cases e : k = D
            · rw [e, pu_D]; omega
            · rw [show pu p D s k = p k from if_neg e]; exact hp k (by omega)
          · rw [pk_un (by omega)]
            by_cases e : k = D
            · rw [e, pk_us, pu_D]
            · rw [pk_un e, show pu p D s k = p k from if_neg e]; exact htr k (by omega)
          · rw [e1, e2, e3, e4, nI_dn]
            have h2 : ∀ k, k < D → tr1 k = tr k := fun k hk => by rw [h1 k (by omega), pk_un (by omega), pk_un (by omega)]
            have h3 : tr1 D = nI s := by rw [h1 D (by omega), pk_un (by omega), pk_us]
            have h4 : ∀ k, k < D → tr1 k = nI (p k) := fun k hk => (h2 k hk).trans (htr k hk)
            refine bp_acc C ad n g r tr1 _ _ D p hS (by omega) h4 hp6 ?_
            refine bp_next C ad n g r tr1 _ _ D p _ _ _ (s + 1) hS (by omega) h4 hp6 (by omega) hW (by rw [h3, nI_add]) ?_
            refine ihm (s + 1) (by omega) tr1 _ _ h4 (fun tr2 h5 => ?_)
            have e5 : pqS (n 1) (n 3) (r 26) d D (aS (n 1) (r 26) p D) (aB (n 1) p D) (aM (n 1) p D) (chP (n 1) p) s (mo, be) = pq (n 1) (n 3) (r 26) d (D + 1) (aS (n 1) (r 26) p D ||| r 26 (D * 6 + s)) (aB (n 1) p D ||| (nI 1 <<< (nI s &&& 31))) (aM (n 1) p D + 1) (upd (chP (n 1) p) D (nI s)) (mo, be) := if_pos hv
            have k9 := kk tr2 (fun k hk => (h5 k hk).trans (h2 k hk))
            unfold pqF at k9
            rw [e5] at k9
            exact k9
        · refine ihm (s + 1) (by omega) tr be mo htr (fun tr2 h5 => ?_)
          have e5 : pqS (n 1) (n 3) (r 26) d D (aS (n 1) (r 26) p D) (aB (n 1) p D) (aM (n 1) p D) (chP (n 1) p) s (mo, be) = (mo, be) := if_neg hv
          have k9 := kk tr2 h5
          unfold pqF at k9
          rw [e5] at k9
          exact k9
    refine bp_acc C ad n g r tr be mo D p hS (by omega) htr hp6 ?_
    refine bp_next C ad n g r tr be mo D p _ _ _ 0 hS (by omega) htr hp6 (by omega) hW (by rw [ht]; exact nI_m1s) ?_
    exact KB (n 1) 0 (by omega) tr be mo htr kk
