/-- the search for places: the most, the chosen, the best -/
abbrev PF : Type := Nat × (Nat → Int32) × (Nat → Int32)
def pfL (stp : Nat → PF → PF) : Nat → PF → PF
  | 0, st => st
  | s + 1, st => stp s (pfL stp s st)
def pf (S W : Nat) (dr : Nat → Int32) : Nat → Nat → Int32 → Int32 → Nat → PF → PF
  | 0, w, _, _, c, st => if c + W - w ≤ st.1 then st else (c, st.2.1, m_cq st.2.2 st.2.1 W)
  | d + 1, w, cl, tk, c, st => if c + W - w ≤ st.1 then st else
      (fun st1 : PF => pf S W dr d (w + 1) cl tk c (st1.1, upd st1.2.1 w (-1), st1.2.2))
      (pfL (fun s st => if (tk >>> (nI s &&& 31)) &&& nI 1 = 0 ∧ ¬ dr (w * 6 + s) = 0 ∧ dr (w * 6 + s) &&& cl = 0 then pf S W dr d (w + 1) (cl ||| dr (w * 6 + s)) (tk ||| (nI 1 <<< (nI s &&& 31))) (c + 1) (st.1, upd st.2.1 w (nI s), st.2.2) else st) S st)
def pfS (S W : Nat) (dr : Nat → Int32) (d w : Nat) (cl tk : Int32) (c s : Nat) (st : PF) : PF := if (tk >>> (nI s &&& 31)) &&& nI 1 = 0 ∧ ¬ dr (w * 6 + s) = 0 ∧ dr (w * 6 + s) &&& cl = 0 then pf S W dr d (w + 1) (cl ||| dr (w * 6 + s)) (tk ||| (nI 1 <<< (nI s &&& 31))) (c + 1) (st.1, upd st.2.1 w (nI s), st.2.2) else st
def pfA (S W : Nat) (dr : Nat → Int32) (d w : Nat) (cl tk : Int32) (c : Nat) (st : PF) (k : Nat) : PF := pfL (pfS S W dr d w cl tk c) k st
theorem pf_stop {S W : Nat} {dr : Nat → Int32} {d w : Nat} {cl tk : Int32} {c : Nat} {st : PF} (h : c + W - w ≤ st.1) : pf S W dr d w cl tk c st = st := by
  cases d with
  | zero => exact if_pos h
  | succ d => exact if_pos h
theorem pf_leaf {S W : Nat} {dr : Nat → Int32} {w : Nat} {cl tk : Int32} {c : Nat} {st : PF} (h : ¬ c + W - w ≤ st.1) : pf S W dr 0 w cl tk c st = (c, st.2.1, m_cq st.2.2 st.2.1 W) := if_neg h
theorem pf_go {S W : Nat} {dr : Nat → Int32} {d w : Nat} {cl tk : Int32} {c : Nat} {st : PF} (h : ¬ c + W - w ≤ st.1) : pf S W dr (d + 1) w cl tk c st = pf S W dr d (w + 1) cl tk c ((pfA S W dr d w cl tk c st S).1, upd (pfA S W dr d w cl tk c st S).2.1 w (-1), (pfA S W dr d w cl tk c st S).2.2) := if_neg h
theorem pfA_t {S W : Nat} {dr : Nat → Int32} {d w : Nat} {cl tk : Int32} {c : Nat} {st : PF} {s : Nat} (h1 : (tk >>> (nI s &&& 31)) &&& nI 1 = 0) (h2 : ¬ dr (w * 6 + s) = 0) (h3 : dr (w * 6 + s) &&& cl = 0) : pfA S W dr d w cl tk c st (s + 1) = pf S W dr d (w + 1) (cl ||| dr (w * 6 + s)) (tk ||| (nI 1 <<< (nI s &&& 31))) (c + 1) ((pfA S W dr d w cl tk c st s).1, upd (pfA S W dr d w cl tk c st s).2.1 w (nI s), (pfA S W dr d w cl tk c st s).2.2) := if_pos ⟨h1, h2, h3⟩
theorem pfA_f {S W : Nat} {dr : Nat → Int32} {d w : Nat} {cl tk : Int32} {c : Nat} {st : PF} {s : Nat} (h : ¬ ((tk >>> (nI s &&& 31)) &&& nI 1 = 0 ∧ ¬ dr (w * 6 + s) = 0 ∧ dr (w * 6 + s) &&& cl = 0)) : pfA S W dr d w cl tk c st (s + 1) = pfA S W dr d w cl tk c st s := if_neg h
theorem pfL_le {stp : Nat → PF → PF} (h : ∀ s st, st.1 ≤ 5 → (stp s st).1 ≤ 5) : ∀ (k : Nat) (st : PF), st.1 ≤ 5 → (pfL stp k st).1 ≤ 5
  | 0, _, h1 => h1
  | k + 1, st, h1 => h k _ (pfL_le h k st h1)
theorem pf_le {S W : Nat} {dr : Nat → Int32} : ∀ (d w : Nat) (cl tk : Int32) (c : Nat) (st : PF), c + d ≤ 5 → st.1 ≤ 5 → (pf S W dr d w cl tk c st).1 ≤ 5
  | 0, w, cl, tk, c, st, h1, h2 => by
    unfold pf
    split
    · exact h2
    · exact h1
  | d + 1, w, cl, tk, c, st, h1, h2 => by
    unfold pf
    split
    · exact h2
    · refine pf_le d _ _ _ _ _ (by omega) ?_
      refine pfL_le (fun s st h => ?_) S st h2
      split
      · exact pf_le d _ _ _ _ _ (by omega) h
      · exact h
theorem pfA_le {S W : Nat} {dr : Nat → Int32} {d w : Nat} {cl tk : Int32} {c : Nat} {st : PF} (h1 : c + 1 + d ≤ 5) (h2 : st.1 ≤ 5) (k : Nat) : (pfA S W dr d w cl tk c st k).1 ≤ 5 := pfL_le (fun s st h => by
  unfold pfS
  split
  · exact pf_le d _ _ _ _ _ h1 h
  · exact h) k st h2
set_option maxHeartbeats 4000000 in
set_option maxRecDepth 100000 in
theorem c_X5_placeFrom_0 (l : Launch) (θ : zH) (ea : Nat → Nat → Nat) (ad : Nat → Nat) (n : Nat → Nat) (g : Nat → Int32) (b : Nat → Bool) (r : Nat → Nat → Int32) (V : Nat → Ev) (w : Nat) (cl tk : Int32) (c : Nat) (hS : n 18 ≤ 6) (hW : n 19 ≤ 5) (hm : n 20 ≤ 5) (hc : c ≤ w) (hw : w + 0 = n 19) : cV l yX5_placeFrom wsX5_placeFrom (0 + 1) θ [.ref (ad 9), .int (nI w), .int cl, .int tk, .int (nI c)] (CW θ ea ad n g b r V) (fun Y => Y = CW θ ea ad (cnv (n 0) (n 1) (n 2) (n 3) (n 4) (n 5) (n 6) (n 7) (n 8) (n 9) (n 10) (n 11) (n 12) (n 13) (n 14) (n 15) (n 16) (n 17) (n 18) (n 19) ((pf (n 18) (n 19) (r 13) 0 w cl tk c (n 20, (r 14), (r 15))).1)) g b (crv (r 0) (r 1) (r 2) (r 3) (r 4) (r 5) (r 6) (r 7) (r 8) (r 9) (r 10) (r 11) (r 12) (r 13) ((pf (n 18) (n 19) (r 13) 0 w cl tk c (n 20, (r 14), (r 15))).2.1) ((pf (n 18) (n 19) (r 13) 0 w cl tk c (n 20, (r 14), (r 15))).2.2) (r 16) (r 17) (r 18)) V) := by
  refine z_cV (by decide) rfl rfl (Nat.le_of_ble_eq_true rfl) (lv := [(0, .ref (ad 9)), (1, .int (nI w)), (2, .int cl), (3, .int tk), (4, .int (nI c))]) rfl (fun κ C E => ?_)
  have hinX3 : ∀ w ∈ wsX30, w ∈ wsX5_placeFrom := by decide +kernel
  refine z_iload C dX5_placeFrom_0 (show zlk _ 4 = some (.int (nI c)) from rfl) ?_
  refine z_aload_n C dX5_placeFrom_2 rfl (show zlk _ 0 = some (.ref (ad 9)) from rfl) ?_
  refine z_getN C (host := "GnatPortraits") hinX3 9 cc_9 rfl 1 (by decide) (by decide +kernel) cg_9_1 dX5_placeFrom_3 ?_
  refine z_iaddN C dX5_placeFrom_6 ?_
  refine z_iload_n C dX5_placeFrom_7 rfl (show zlk _ 1 = some (.int (nI w)) from rfl) ?_
  refine z_isubN C dX5_placeFrom_8 (by omega) ?_
  refine z_aload_n C dX5_placeFrom_9 rfl (show zlk _ 0 = some (.ref (ad 9)) from rfl) ?_
  refine z_getN C (host := "GnatPortraits") hinX3 9 cc_9 rfl 2 (by decide) (by decide +kernel) cg_9_2 dX5_placeFrom_10 ?_
  refine z_icmp_gtN C 17 dX5_placeFrom_13 (by decide) (by omega) (by omega) (fun h13t_1 => ?_) (fun h13n_1 => ?_)
  · refine z_iload_n C dX5_placeFrom_17 rfl (show zlk _ 1 = some (.int (nI w)) from rfl) ?_
    refine z_aload_n C dX5_placeFrom_18 rfl (show zlk _ 0 = some (.ref (ad 9)) from rfl) ?_
    refine z_getN C (host := "GnatPortraits") hinX3 9 cc_9 rfl 1 (by decide) (by decide +kernel) cg_9_1 dX5_placeFrom_19 ?_
    refine z_icmp_geT C 30 dX5_placeFrom_22 (by decide) (by omega) (by omega) (by omega) ?_
    refine z_aload_n C dX5_placeFrom_30 rfl (show zlk _ 0 = some (.ref (ad 9)) from rfl) ?_
    refine z_iload C dX5_placeFrom_31 (show zlk _ 4 = some (.int (nI c)) from rfl) ?_
    refine z_callNv C (As := [.int (nI c)]) (rest := []) (host := "GnatPortraits") (c_X3_takeChosen l θ ea ad n g b r V c hW) gX5_placeFrom_X3_takeChosen_n313 rfl 1 (by decide +kernel) (by decide +kernel) (by decide +kernel) (by decide +kernel) (by decide +kernel) (by omega) (by decide) 9 rfl rfl rfl rfl rfl (Nat.le_of_ble_eq_true rfl) dX5_placeFrom_33 ?_
    rintro _ rfl
    refine z_X (Y := CW θ ea ad (cnv (n 0) (n 1) (n 2) (n 3) (n 4) (n 5) (n 6) (n 7) (n 8) (n 9) (n 10) (n 11) (n 12) (n 13) (n 14) (n 15) (n 16) (n 17) (n 18) (n 19) c) g b (crv (r 0) (r 1) (r 2) (r 3) (r 4) (r 5) (r 6) (r 7) (r 8) (r 9) (r 10) (r 11) (r 12) (r 13) (r 14) (m_cq (r 15) (r 14) (n 19)) (r 16) (r 17) (r 18)) V) (cw_eq rfl rfl rfl rfl rfl rfl rfl rfl rfl rfl rfl rfl rfl rfl rfl rfl rfl rfl rfl rfl rfl rfl rfl rfl rfl rfl rfl rfl rfl rfl rfl rfl rfl rfl rfl rfl rfl rfl rfl rfl rfl rfl rfl rfl rfl rfl rfl rfl rfl rfl rfl) ?_
    exact E _ _ _ (by rw [pf_leaf (show ¬ c + n 19 - w ≤ n 20 by have := h13t_1; omega)] <;> exact (cw_eq rfl rfl rfl rfl rfl rfl rfl rfl rfl rfl rfl rfl rfl rfl rfl rfl rfl rfl rfl rfl rfl rfl rfl rfl rfl rfl rfl rfl rfl rfl rfl rfl rfl rfl rfl rfl rfl rfl rfl rfl rfl rfl rfl rfl rfl rfl rfl rfl rfl rfl rfl)) dX5_placeFrom_36
  · exact E _ _ _ (by rw [pf_stop (show c + n 19 - w ≤ n 20 by have := h13n_1; omega)] <;> exact (cw_eq rfl rfl rfl rfl rfl rfl rfl rfl rfl rfl rfl rfl rfl rfl rfl rfl rfl rfl rfl rfl rfl rfl rfl rfl rfl rfl rfl rfl rfl rfl rfl rfl rfl rfl rfl rfl rfl rfl rfl rfl rfl rfl rfl rfl rfl rfl rfl rfl rfl rfl rfl)) dX5_placeFrom_16

set_option maxHeartbeats 4000000 in
set_option maxRecDepth 100000 in
theorem c_X5_placeFrom_s (l : Launch) (θ : zH) (ea : Nat → Nat → Nat) (ad : Nat → Nat) (n : Nat → Nat) (g : Nat → Int32) (b : Nat → Bool) (r : Nat → Nat → Int32) (V : Nat → Ev) (d : Nat) (ih : ∀ (n : Nat → Nat) (r : Nat → Nat → Int32) (w : Nat) (cl tk : Int32) (c : Nat), n 18 ≤ 6 → n 19 ≤ 5 → n 20 ≤ 5 → c ≤ w → w + d = n 19 → cV l yX5_placeFrom wsX5_placeFrom (d + 1) θ [.ref (ad 9), .int (nI w), .int cl, .int tk, .int (nI c)] (CW θ ea ad n g b r V) (fun Y => Y = CW θ ea ad (cnv (n 0) (n 1) (n 2) (n 3) (n 4) (n 5) (n 6) (n 7) (n 8) (n 9) (n 10) (n 11) (n 12) (n 13) (n 14) (n 15) (n 16) (n 17) (n 18) (n 19) ((pf (n 18) (n 19) (r 13) d w cl tk c (n 20, (r 14), (r 15))).1)) g b (crv (r 0) (r 1) (r 2) (r 3) (r 4) (r 5) (r 6) (r 7) (r 8) (r 9) (r 10) (r 11) (r 12) (r 13) ((pf (n 18) (n 19) (r 13) d w cl tk c (n 20, (r 14), (r 15))).2.1) ((pf (n 18) (n 19) (r 13) d w cl tk c (n 20, (r 14), (r 15))).2.2) (r 16) (r 17) (r 18)) V)) (w : Nat) (cl tk : Int32) (c : Nat) (hS : n 18 ≤ 6) (hW : n 19 ≤ 5) (hm : n 20 ≤ 5) (hc : c ≤ w) (hw : w + (d + 1) = n 19) : cV l yX5_placeFrom wsX5_placeFrom (d + 1 + 1) θ [.ref (ad 9), .int (nI w), .int cl, .int tk, .int (nI c)] (CW θ ea ad n g b r V) (fun Y => Y = CW θ ea ad (cnv (n 0) (n 1) (n 2) (n 3) (n 4) (n 5) (n 6) (n 7) (n 8) (n 9) (n 10) (n 11) (n 12) (n 13) (n 14) (n 15) (n 16) (n 17) (n 18) (n 19) ((pf (n 18) (n 19) (r 13) (d + 1) w cl tk c (n 20, (r 14), (r 15))).1)) g b (crv (r 0) (r 1) (r 2) (r 3) (r 4) (r 5) (r 6) (r 7) (r 8) (r 9) (r 10) (r 11) (r 12) (r 13) ((pf (n 18) (n 19) (r 13) (d + 1) w cl tk c (n 20, (r 14), (r 15))).2.1) ((pf (n 18) (n 19) (r 13) (d + 1) w cl tk c (n 20, (r 14), (r 15))).2.2) (r 16) (r 17) (r 18)) V) := by
  refine z_cV (by decide) rfl rfl (Nat.le_of_ble_eq_true rfl) (lv := [(0, .ref (ad 9)), (1, .int (nI w)), (2, .int cl), (3, .int tk), (4, .int (nI c))]) rfl (fun κ C E => ?_)
  have hinX3 : ∀ w ∈ wsX30, w ∈ wsX5_placeFrom := by decide +kernel
  refine z_iload C dX5_placeFrom_0 (show zlk _ 4 = some (.int (nI c)) from rfl) ?_
  refine z_aload_n C dX5_placeFrom_2 rfl (show zlk _ 0 = some (.ref (ad 9)) from rfl) ?_
  refine z_getN C (host := "GnatPortraits") hinX3 9 cc_9 rfl 1 (by decide) (by decide +kernel) cg_9_1 dX5_placeFrom_3 ?_
  refine z_iaddN C dX5_placeFrom_6 ?_
  refine z_iload_n C dX5_placeFrom_7 rfl (show zlk _ 1 = some (.int (nI w)) from rfl) ?_
  refine z_isubN C dX5_placeFrom_8 (by omega) ?_
  refine z_aload_n C dX5_placeFrom_9 rfl (show zlk _ 0 = some (.ref (ad 9)) from rfl) ?_
  refine z_getN C (host := "GnatPortraits") hinX3 9 cc_9 rfl 2 (by decide) (by decide +kernel) cg_9_2 dX5_placeFrom_10 ?_
  refine z_icmp_gtN C 17 dX5_placeFrom_13 (by decide) (by omega) (by omega) (fun h13t_1 => ?_) (fun h13n_1 => ?_)
  · refine z_iload_n C dX5_placeFrom_17 rfl (show zlk _ 1 = some (.int (nI w)) from rfl) ?_
    refine z_aload_n C dX5_placeFrom_18 rfl (show zlk _ 0 = some (.ref (ad 9)) from rfl) ?_
    refine z_getN C (host := "GnatPortraits") hinX3 9 cc_9 rfl 1 (by decide) (by decide +kernel) cg_9_1 dX5_placeFrom_19 ?_
    refine z_icmp_geF C 30 dX5_placeFrom_22 (by decide) (by omega) (by omega) (by omega) ?_
    refine z_iload_n C dX5_placeFrom_25 rfl (show zlk _ 1 = some (.int (nI w)) from rfl) ?_
    refine z_iconst C (v := nI 5) dX5_placeFrom_26 (by decide) ?_
    refine z_icmp_ltT C 37 dX5_placeFrom_27 (by decide) (by omega) (by omega) (by omega) ?_
    refine z_iconst C (v := nI 0) dX5_placeFrom_37 (by decide) ?_
    refine z_istore C [(5, .int (nI 0)), (0, .ref (ad 9)), (1, .int (nI w)), (2, .int cl), (3, .int tk), (4, .int (nI c))] dX5_placeFrom_38 (by decide) rfl ?_
    refine z_lv (lv' := [(0, .ref (ad 9)), (1, .int (nI w)), (2, .int cl), (3, .int tk), (4, .int (nI c)), (5, .int (nI 0))]) rfl ?_
    refine z_X (Y := CW θ ea ad (cnv (n 0) (n 1) (n 2) (n 3) (n 4) (n 5) (n 6) (n 7) (n 8) (n 9) (n 10) (n 11) (n 12) (n 13) (n 14) (n 15) (n 16) (n 17) (n 18) (n 19) ((pfA (n 18) (n 19) (r 13) d w cl tk c (n 20, r 14, r 15) 0).1)) g b (crv (r 0) (r 1) (r 2) (r 3) (r 4) (r 5) (r 6) (r 7) (r 8) (r 9) (r 10) (r 11) (r 12) (r 13) ((pfA (n 18) (n 19) (r 13) d w cl tk c (n 20, r 14, r 15) 0).2.1) ((pfA (n 18) (n 19) (r 13) d w cl tk c (n 20, r 14, r 15) 0).2.2) (r 16) (r 17) (r 18)) V) (cw_eq rfl rfl rfl rfl rfl rfl rfl rfl rfl rfl rfl rfl rfl rfl rfl rfl rfl rfl rfl rfl rfl rfl rfl rfl rfl rfl rfl rfl rfl rfl rfl rfl rfl rfl rfl rfl rfl rfl rfl rfl rfl rfl rfl rfl rfl rfl rfl rfl rfl rfl rfl) ?_
    refine z_up (fun s => Z κ (CW θ ea ad (cnv (n 0) (n 1) (n 2) (n 3) (n 4) (n 5) (n 6) (n 7) (n 8) (n 9) (n 10) (n 11) (n 12) (n 13) (n 14) (n 15) (n 16) (n 17) (n 18) (n 19) ((pfA (n 18) (n 19) (r 13) d w cl tk c (n 20, r 14, r 15) s).1)) g b (crv (r 0) (r 1) (r 2) (r 3) (r 4) (r 5) (r 6) (r 7) (r 8) (r 9) (r 10) (r 11) (r 12) (r 13) ((pfA (n 18) (n 19) (r 13) d w cl tk c (n 20, r 14, r 15) s).2.1) ((pfA (n 18) (n 19) (r 13) d w cl tk c (n 20, r 14, r 15) s).2.2) (r 16) (r 17) (r 18)) V) 40 [(0, .ref (ad 9)), (1, .int (nI w)), (2, .int cl), (3, .int tk), (4, .int (nI c)), (5, .int (nI s))] []) (n 18) ?_ ?_ 0 (by omega)
    · refine z_iload C dX5_placeFrom_40 (show zlk _ 5 = some (.int (nI (n 18))) from rfl) ?_
      refine z_aload_n C dX5_placeFrom_42 rfl (show zlk _ 0 = some (.ref (ad 9)) from rfl) ?_
      refine z_getN C (host := "GnatPortraits") hinX3 9 cc_9 rfl 0 (by decide) (by decide +kernel) ch_9_0 dX5_placeFrom_43 ?_
      refine z_icmp_geT C 119 dX5_placeFrom_46 (by decide) (by omega) (by omega) (by omega) ?_
      refine z_aload_n C dX5_placeFrom_119 rfl (show zlk _ 0 = some (.ref (ad 9)) from rfl) ?_
      refine z_getN C (host := "GnatPortraits") hinX3 9 cc_9 rfl 4 (by decide) (by decide +kernel) cg_9_4 dX5_placeFrom_120 ?_
      refine z_iload_n C dX5_placeFrom_123 rfl (show zlk _ 1 = some (.int (nI w)) from rfl) ?_
      refine z_iconst C (v := (-1)) dX5_placeFrom_124 (by decide) ?_
      refine z_iast C (f := ((pfA (n 18) (n 19) (r 13) d w cl tk c (n 20, r 14, r 15) (n 18)).2.1)) 26 cav_26 w rfl (by omega) (by decide) _ csv_26 dX5_placeFrom_125 ?_
      refine z_aload_n C dX5_placeFrom_126 rfl (show zlk _ 0 = some (.ref (ad 9)) from rfl) ?_
      refine z_iload_n C dX5_placeFrom_127 rfl (show zlk _ 1 = some (.int (nI w)) from rfl) ?_
      refine z_iconst C (v := nI 1) dX5_placeFrom_128 (by decide) ?_
      refine z_iaddN C dX5_placeFrom_129 ?_
      refine z_iload_n C dX5_placeFrom_130 rfl (show zlk _ 2 = some (.int cl) from rfl) ?_
      refine z_iload_n C dX5_placeFrom_131 rfl (show zlk _ 3 = some (.int tk) from rfl) ?_
      refine z_iload C dX5_placeFrom_132 (show zlk _ 4 = some (.int (nI c)) from rfl) ?_
      refine z_callSv C (As := [.ref (ad 9), .int (nI (w + 1)), .int cl, .int tk, .int (nI c)]) (rest := []) (ih (cnv (n 0) (n 1) (n 2) (n 3) (n 4) (n 5) (n 6) (n 7) (n 8) (n 9) (n 10) (n 11) (n 12) (n 13) (n 14) (n 15) (n 16) (n 17) (n 18) (n 19) ((pfA (n 18) (n 19) (r 13) d w cl tk c (n 20, r 14, r 15) (n 18)).1)) (crv (r 0) (r 1) (r 2) (r 3) (r 4) (r 5) (r 6) (r 7) (r 8) (r 9) (r 10) (r 11) (r 12) (r 13) (upd ((pfA (n 18) (n 19) (r 13) d w cl tk c (n 20, r 14, r 15) (n 18)).2.1) w (-1)) ((pfA (n 18) (n 19) (r 13) d w cl tk c (n 20, r 14, r 15) (n 18)).2.2) (r 16) (r 17) (r 18)) (w + 1) cl tk c (show n 18 ≤ 6 from hS) (show n 19 ≤ 5 from hW) (pfA_le (by omega) hm (n 18)) (by omega) (show w + 1 + d = n 19 by omega)) gX5_placeFrom_X5_placeFrom rfl 5 (by decide +kernel) (by omega) (by decide) rfl rfl (Nat.le_of_ble_eq_true rfl) dX5_placeFrom_134 ?_
      rintro _ rfl
      refine z_X (Y := CW θ ea ad (cnv (n 0) (n 1) (n 2) (n 3) (n 4) (n 5) (n 6) (n 7) (n 8) (n 9) (n 10) (n 11) (n 12) (n 13) (n 14) (n 15) (n 16) (n 17) (n 18) (n 19) ((pf (n 18) (n 19) (r 13) d (w + 1) cl tk c ((pfA (n 18) (n 19) (r 13) d w cl tk c (n 20, r 14, r 15) (n 18)).1, (upd ((pfA (n 18) (n 19) (r 13) d w cl tk c (n 20, r 14, r 15) (n 18)).2.1) w (-1)), ((pfA (n 18) (n 19) (r 13) d w cl tk c (n 20, r 14, r 15) (n 18)).2.2))).1)) g b (crv (r 0) (r 1) (r 2) (r 3) (r 4) (r 5) (r 6) (r 7) (r 8) (r 9) (r 10) (r 11) (r 12) (r 13) ((pf (n 18) (n 19) (r 13) d (w + 1) cl tk c ((pfA (n 18) (n 19) (r 13) d w cl tk c (n 20, r 14, r 15) (n 18)).1, (upd ((pfA (n 18) (n 19) (r 13) d w cl tk c (n 20, r 14, r 15) (n 18)).2.1) w (-1)), ((pfA (n 18) (n 19) (r 13) d w cl tk c (n 20, r 14, r 15) (n 18)).2.2))).2.1) ((pf (n 18) (n 19) (r 13) d (w + 1) cl tk c ((pfA (n 18) (n 19) (r 13) d w cl tk c (n 20, r 14, r 15) (n 18)).1, (upd ((pfA (n 18) (n 19) (r 13) d w cl tk c (n 20, r 14, r 15) (n 18)).2.1) w (-1)), ((pfA (n 18) (n 19) (r 13) d w cl tk c (n 20, r 14, r 15) (n 18)).2.2))).2.2) (r 16) (r 17) (r 18)) V) (cw_eq rfl rfl rfl rfl rfl rfl rfl rfl rfl rfl rfl rfl rfl rfl rfl rfl rfl rfl rfl rfl rfl rfl rfl rfl rfl rfl rfl rfl rfl rfl rfl rfl rfl rfl rfl rfl rfl rfl rfl rfl rfl rfl rfl rfl rfl rfl rfl rfl rfl rfl rfl) ?_
      exact E _ _ _ (by rw [pf_go (show ¬ c + n 19 - w ≤ n 20 by have := h13t_1; omega)] <;> exact (cw_eq rfl rfl rfl rfl rfl rfl rfl rfl rfl rfl rfl rfl rfl rfl rfl rfl rfl rfl rfl rfl rfl rfl rfl rfl rfl rfl rfl rfl rfl rfl rfl rfl rfl rfl rfl rfl rfl rfl rfl rfl rfl rfl rfl rfl rfl rfl rfl rfl rfl rfl rfl)) dX5_placeFrom_137
    · intro s hk40 ih40
      refine z_iload C dX5_placeFrom_40 (show zlk _ 5 = some (.int (nI s)) from rfl) ?_
      refine z_aload_n C dX5_placeFrom_42 rfl (show zlk _ 0 = some (.ref (ad 9)) from rfl) ?_
      refine z_getN C (host := "GnatPortraits") hinX3 9 cc_9 rfl 0 (by decide) (by decide +kernel) ch_9_0 dX5_placeFrom_43 ?_
      refine z_icmp_geF C 119 dX5_placeFrom_46 (by decide) (by omega) (by omega) (by omega) ?_
      refine z_aload_n C dX5_placeFrom_49 rfl (show zlk _ 0 = some (.ref (ad 9)) from rfl) ?_
      refine z_getN C (host := "GnatPortraits") hinX3 9 cc_9 rfl 3 (by decide) (by decide +kernel) cg_9_3 dX5_placeFrom_50 ?_
      refine z_iload_n C dX5_placeFrom_53 rfl (show zlk _ 1 = some (.int (nI w)) from rfl) ?_
      refine z_bipush C (v := nI 6) dX5_placeFrom_54 (by decide) ?_
      refine z_imulN C dX5_placeFrom_56 ?_
      refine z_iload C dX5_placeFrom_57 (show zlk _ 5 = some (.int (nI s)) from rfl) ?_
      refine z_iaddN C dX5_placeFrom_59 ?_
      refine z_iald C (f := (r 13)) 25 cav_25 (w * 6 + s) rfl (by omega) (by decide) dX5_placeFrom_60 ?_
      refine z_istore C [(6, .int ((r 13) (w * 6 + s))), (0, .ref (ad 9)), (1, .int (nI w)), (2, .int cl), (3, .int tk), (4, .int (nI c)), (5, .int (nI s))] dX5_placeFrom_61 (by decide) rfl ?_
      refine z_iload_n C dX5_placeFrom_63 rfl (show zlk _ 3 = some (.int tk) from rfl) ?_
      refine z_iload C dX5_placeFrom_64 (show zlk _ 5 = some (.int (nI s)) from rfl) ?_
      refine z_ishr C dX5_placeFrom_66 ?_
      refine z_iconst C (v := nI 1) dX5_placeFrom_67 (by decide) ?_
      refine z_iand C dX5_placeFrom_68 ?_
      refine z_if_ne C 113 dX5_placeFrom_69 (by decide) (fun h69t_2 => ?_) (fun h69n_2 => ?_)
      · refine z_iincN C [(5, .int (nI (s + 1))), (6, .int ((r 13) (w * 6 + s))), (0, .ref (ad 9)), (1, .int (nI w)), (2, .int cl), (3, .int tk), (4, .int (nI c))] dX5_placeFrom_113 rfl (by decide) rfl ?_
        refine z_goto C 40 dX5_placeFrom_116 (by decide) ?_
        exact z_to (ih40) (by rw [pfA_f (fun z => h69t_2 z.1)] <;> exact (cw_eq rfl rfl rfl rfl rfl rfl rfl rfl rfl rfl rfl rfl rfl rfl rfl rfl rfl rfl rfl rfl rfl rfl rfl rfl rfl rfl rfl rfl rfl rfl rfl rfl rfl rfl rfl rfl rfl rfl rfl rfl rfl rfl rfl rfl rfl rfl rfl rfl rfl rfl rfl)) (rfl)
      · refine z_iload C dX5_placeFrom_72 (show zlk _ 6 = some (.int ((r 13) (w * 6 + s))) from rfl) ?_
        refine z_if_eq C 113 dX5_placeFrom_74 (by decide) (fun h74t_3 => ?_) (fun h74n_3 => ?_)
        · refine z_iincN C [(5, .int (nI (s + 1))), (6, .int ((r 13) (w * 6 + s))), (0, .ref (ad 9)), (1, .int (nI w)), (2, .int cl), (3, .int tk), (4, .int (nI c))] dX5_placeFrom_113 rfl (by decide) rfl ?_
          refine z_goto C 40 dX5_placeFrom_116 (by decide) ?_
          exact z_to (ih40) (by rw [pfA_f (fun z => z.2.1 h74t_3)] <;> exact (cw_eq rfl rfl rfl rfl rfl rfl rfl rfl rfl rfl rfl rfl rfl rfl rfl rfl rfl rfl rfl rfl rfl rfl rfl rfl rfl rfl rfl rfl rfl rfl rfl rfl rfl rfl rfl rfl rfl rfl rfl rfl rfl rfl rfl rfl rfl rfl rfl rfl rfl rfl rfl)) (rfl)
        · refine z_iload C dX5_placeFrom_77 (show zlk _ 6 = some (.int ((r 13) (w * 6 + s))) from rfl) ?_
          refine z_iload_n C dX5_placeFrom_79 rfl (show zlk _ 2 = some (.int cl) from rfl) ?_
          refine z_iand C dX5_placeFrom_80 ?_
          refine z_if_ne C 113 dX5_placeFrom_81 (by decide) (fun h81t_4 => ?_) (fun h81n_4 => ?_)
          · refine z_iincN C [(5, .int (nI (s + 1))), (6, .int ((r 13) (w * 6 + s))), (0, .ref (ad 9)), (1, .int (nI w)), (2, .int cl), (3, .int tk), (4, .int (nI c))] dX5_placeFrom_113 rfl (by decide) rfl ?_
            refine z_goto C 40 dX5_placeFrom_116 (by decide) ?_
            exact z_to (ih40) (by rw [pfA_f (fun z => h81t_4 z.2.2)] <;> exact (cw_eq rfl rfl rfl rfl rfl rfl rfl rfl rfl rfl rfl rfl rfl rfl rfl rfl rfl rfl rfl rfl rfl rfl rfl rfl rfl rfl rfl rfl rfl rfl rfl rfl rfl rfl rfl rfl rfl rfl rfl rfl rfl rfl rfl rfl rfl rfl rfl rfl rfl rfl rfl)) (rfl)
          · refine z_aload_n C dX5_placeFrom_84 rfl (show zlk _ 0 = some (.ref (ad 9)) from rfl) ?_
            refine z_getN C (host := "GnatPortraits") hinX3 9 cc_9 rfl 4 (by decide) (by decide +kernel) cg_9_4 dX5_placeFrom_85 ?_
            refine z_iload_n C dX5_placeFrom_88 rfl (show zlk _ 1 = some (.int (nI w)) from rfl) ?_
            refine z_iload C dX5_placeFrom_89 (show zlk _ 5 = some (.int (nI s)) from rfl) ?_
            refine z_iast C (f := ((pfA (n 18) (n 19) (r 13) d w cl tk c (n 20, r 14, r 15) s).2.1)) 26 cav_26 w rfl (by omega) (by decide) _ csv_26 dX5_placeFrom_91 ?_
            refine z_aload_n C dX5_placeFrom_92 rfl (show zlk _ 0 = some (.ref (ad 9)) from rfl) ?_
            refine z_iload_n C dX5_placeFrom_93 rfl (show zlk _ 1 = some (.int (nI w)) from rfl) ?_
            refine z_iconst C (v := nI 1) dX5_placeFrom_94 (by decide) ?_
            refine z_iaddN C dX5_placeFrom_95 ?_
            refine z_iload_n C dX5_placeFrom_96 rfl (show zlk _ 2 = some (.int cl) from rfl) ?_
            refine z_iload C dX5_placeFrom_97 (show zlk _ 6 = some (.int ((r 13) (w * 6 + s))) from rfl) ?_
            refine z_ior C dX5_placeFrom_99 ?_
            refine z_iload_n C dX5_placeFrom_100 rfl (show zlk _ 3 = some (.int tk) from rfl) ?_
            refine z_iconst C (v := nI 1) dX5_placeFrom_101 (by decide) ?_
            refine z_iload C dX5_placeFrom_102 (show zlk _ 5 = some (.int (nI s)) from rfl) ?_
            refine z_ishl C dX5_placeFrom_104 ?_
            refine z_ior C dX5_placeFrom_105 ?_
            refine z_iload C dX5_placeFrom_106 (show zlk _ 4 = some (.int (nI c)) from rfl) ?_
            refine z_iconst C (v := nI 1) dX5_placeFrom_108 (by decide) ?_
            refine z_iaddN C dX5_placeFrom_109 ?_
            refine z_callSv C (As := [.ref (ad 9), .int (nI (w + 1)), .int (cl ||| ((r 13) (w * 6 + s))), .int (tk ||| ((nI 1) <<< ((nI s) &&& 31))), .int (nI (c + 1))]) (rest := []) (ih (cnv (n 0) (n 1) (n 2) (n 3) (n 4) (n 5) (n 6) (n 7) (n 8) (n 9) (n 10) (n 11) (n 12) (n 13) (n 14) (n 15) (n 16) (n 17) (n 18) (n 19) ((pfA (n 18) (n 19) (r 13) d w cl tk c (n 20, r 14, r 15) s).1)) (crv (r 0) (r 1) (r 2) (r 3) (r 4) (r 5) (r 6) (r 7) (r 8) (r 9) (r 10) (r 11) (r 12) (r 13) (upd ((pfA (n 18) (n 19) (r 13) d w cl tk c (n 20, r 14, r 15) s).2.1) w (nI s)) ((pfA (n 18) (n 19) (r 13) d w cl tk c (n 20, r 14, r 15) s).2.2) (r 16) (r 17) (r 18)) (w + 1) (cl ||| ((r 13) (w * 6 + s))) (tk ||| ((nI 1) <<< ((nI s) &&& 31))) (c + 1) (show n 18 ≤ 6 from hS) (show n 19 ≤ 5 from hW) (pfA_le (by omega) hm s) (by omega) (show w + 1 + d = n 19 by omega)) gX5_placeFrom_X5_placeFrom rfl 5 (by decide +kernel) (by omega) (by decide) rfl rfl (Nat.le_of_ble_eq_true rfl) dX5_placeFrom_110 ?_
            rintro _ rfl
            refine z_X (Y := CW θ ea ad (cnv (n 0) (n 1) (n 2) (n 3) (n 4) (n 5) (n 6) (n 7) (n 8) (n 9) (n 10) (n 11) (n 12) (n 13) (n 14) (n 15) (n 16) (n 17) (n 18) (n 19) ((pf (n 18) (n 19) (r 13) d (w + 1) (cl ||| ((r 13) (w * 6 + s))) (tk ||| ((nI 1) <<< ((nI s) &&& 31))) (c + 1) ((pfA (n 18) (n 19) (r 13) d w cl tk c (n 20, r 14, r 15) s).1, (upd ((pfA (n 18) (n 19) (r 13) d w cl tk c (n 20, r 14, r 15) s).2.1) w (nI s)), ((pfA (n 18) (n 19) (r 13) d w cl tk c (n 20, r 14, r 15) s).2.2))).1)) g b (crv (r 0) (r 1) (r 2) (r 3) (r 4) (r 5) (r 6) (r 7) (r 8) (r 9) (r 10) (r 11) (r 12) (r 13) ((pf (n 18) (n 19) (r 13) d (w + 1) (cl ||| ((r 13) (w * 6 + s))) (tk ||| ((nI 1) <<< ((nI s) &&& 31))) (c + 1) ((pfA (n 18) (n 19) (r 13) d w cl tk c (n 20, r 14, r 15) s).1, (upd ((pfA (n 18) (n 19) (r 13) d w cl tk c (n 20, r 14, r 15) s).2.1) w (nI s)), ((pfA (n 18) (n 19) (r 13) d w cl tk c (n 20, r 14, r 15) s).2.2))).2.1) ((pf (n 18) (n 19) (r 13) d (w + 1) (cl ||| ((r 13) (w * 6 + s))) (tk ||| ((nI 1) <<< ((nI s) &&& 31))) (c + 1) ((pfA (n 18) (n 19) (r 13) d w cl tk c (n 20, r 14, r 15) s).1, (upd ((pfA (n 18) (n 19) (r 13) d w cl tk c (n 20, r 14, r 15) s).2.1) w (nI s)), ((pfA (n 18) (n 19) (r 13) d w cl tk c (n 20, r 14, r 15) s).2.2))).2.2) (r 16) (r 17) (r 18)) V) (cw_eq rfl rfl rfl rfl rfl rfl rfl rfl rfl rfl rfl rfl rfl rfl rfl rfl rfl rfl rfl rfl rfl rfl rfl rfl rfl rfl rfl rfl rfl rfl rfl rfl rfl rfl rfl rfl rfl rfl rfl rfl rfl rfl rfl rfl rfl rfl rfl rfl rfl rfl rfl) ?_
            refine z_iincN C [(5, .int (nI (s + 1))), (6, .int ((r 13) (w * 6 + s))), (0, .ref (ad 9)), (1, .int (nI w)), (2, .int cl), (3, .int tk), (4, .int (nI c))] dX5_placeFrom_113 rfl (by decide) rfl ?_
            refine z_goto C 40 dX5_placeFrom_116 (by decide) ?_
            exact z_to (ih40) (by rw [pfA_t h69n_2 h74n_3 h81n_4] <;> exact (cw_eq rfl rfl rfl rfl rfl rfl rfl rfl rfl rfl rfl rfl rfl rfl rfl rfl rfl rfl rfl rfl rfl rfl rfl rfl rfl rfl rfl rfl rfl rfl rfl rfl rfl rfl rfl rfl rfl rfl rfl rfl rfl rfl rfl rfl rfl rfl rfl rfl rfl rfl rfl)) (rfl)
  · exact E _ _ _ (by rw [pf_stop (show c + n 19 - w ≤ n 20 by have := h13n_1; omega)] <;> exact (cw_eq rfl rfl rfl rfl rfl rfl rfl rfl rfl rfl rfl rfl rfl rfl rfl rfl rfl rfl rfl rfl rfl rfl rfl rfl rfl rfl rfl rfl rfl rfl rfl rfl rfl rfl rfl rfl rfl rfl rfl rfl rfl rfl rfl rfl rfl rfl rfl rfl rfl rfl rfl)) dX5_placeFrom_16

theorem c_X5_placeFrom (l : Launch) (θ : zH) (ea : Nat → Nat → Nat) (ad : Nat → Nat) (g : Nat → Int32) (b : Nat → Bool) (V : Nat → Ev) : ∀ (d : Nat) (n : Nat → Nat) (r : Nat → Nat → Int32) (w : Nat) (cl tk : Int32) (c : Nat), n 18 ≤ 6 → n 19 ≤ 5 → n 20 ≤ 5 → c ≤ w → w + d = n 19 → cV l yX5_placeFrom wsX5_placeFrom (d + 1) θ [.ref (ad 9), .int (nI w), .int cl, .int tk, .int (nI c)] (CW θ ea ad n g b r V) (fun Y => Y = CW θ ea ad (cnv (n 0) (n 1) (n 2) (n 3) (n 4) (n 5) (n 6) (n 7) (n 8) (n 9) (n 10) (n 11) (n 12) (n 13) (n 14) (n 15) (n 16) (n 17) (n 18) (n 19) ((pf (n 18) (n 19) (r 13) d w cl tk c (n 20, (r 14), (r 15))).1)) g b (crv (r 0) (r 1) (r 2) (r 3) (r 4) (r 5) (r 6) (r 7) (r 8) (r 9) (r 10) (r 11) (r 12) (r 13) ((pf (n 18) (n 19) (r 13) d w cl tk c (n 20, (r 14), (r 15))).2.1) ((pf (n 18) (n 19) (r 13) d w cl tk c (n 20, (r 14), (r 15))).2.2) (r 16) (r 17) (r 18)) V) := by
  intro d
  induction d with
  | zero => exact fun n r w cl tk c h1 h2 h3 h4 h5 => c_X5_placeFrom_0 l θ ea ad n g b r V w cl tk c h1 h2 h3 h4 h5
  | succ d ih => exact fun n r w cl tk c h1 h2 h3 h4 h5 => c_X5_placeFrom_s l θ ea ad n g b r V d ih w cl tk c h1 h2 h3 h4 h5
def fiI (v : Nat → Nat → Int32) (a : Nat) (f : Nat → Int32) : Nat → Nat → Int32
  | 0 => f
  | s + 1 => upd (fiI v a f s) (a * 6 + s) (v a s)
def fiO (v : Nat → Nat → Int32) (S : Nat) (f : Nat → Int32) : Nat → Nat → Int32
  | 0 => f
  | a + 1 => fiI v a (fiO v S f a) S
def k_pv (G : Nat) (g : Nat → Int32) (o l : Nat → Int32) (a s : Nat) : Int32 := k_dB G g (o s) (l a)
set_option maxHeartbeats 4000000 in
set_option maxRecDepth 100000 in
theorem c_X5_places_1 (l : Launch) (θ : zH) (ea : Nat → Nat → Nat) (ad : Nat → Nat) (n : Nat → Nat) (g : Nat → Int32) (b : Nat → Bool) (r : Nat → Nat → Int32) (V : Nat → Ev) (w : Int32) (hW : n 11 ≤ 5) (h1 : ¬ w = (-1)) (hw : okN w (n 11) = false) : cI l yX5_places wsX5_places (7) θ [.ref (ad 0), .int w] (CW θ ea ad n g b r V) (fun r0 Y => r0 = (-1000000001) ∧ Y = CW θ ea ad n g b r V) := by
  refine z_cI (by decide) rfl rfl (Nat.le_of_ble_eq_true rfl) (lv := [(0, .ref (ad 0)), (1, .int w)]) rfl (fun κ C E => ?_)
  refine z_iload_n C dX5_places_0 rfl (show zlk _ 1 = some (.int w) from rfl) ?_
  refine z_iconst C (v := (-1)) dX5_places_1 (by decide) ?_
  refine z_icmp_eq C 16 dX5_places_2 (by decide) (fun h2n_1 => absurd h2n_1 (h1)) (fun h2n_1 => ?_)
  refine z_aload_n C dX5_places_5 rfl (show zlk _ 0 = some (.ref (ad 0)) from rfl) ?_
  refine z_iload_n C dX5_places_6 rfl (show zlk _ 1 = some (.int w) from rfl) ?_
  refine z_callVi C (As := [.int w]) (rest := []) (c_X5_isWindow l θ ea ad n g b r V w (by omega)) gX5_places_X5_isWindow rfl 1 (by decide +kernel) (by omega) (by decide) 0 rfl rfl rfl rfl rfl (Nat.le_of_ble_eq_true rfl) dX5_places_7 ?_
  rintro _ _ ⟨rfl, rfl⟩
  refine z_if_neB C 16 dX5_places_10 (by decide) (fun h => absurd h (by rw [hw]; decide)) (fun _ => ?_)
  refine z_ldc C (v := (-1000000001)) (by decide +kernel) dX5_places_13 ?_
  exact E _ _ _ _ (⟨rfl, rfl⟩) (rfl) dX5_places_15

set_option maxHeartbeats 4000000 in
set_option maxRecDepth 100000 in
theorem c_X5_places_2 (l : Launch) (θ : zH) (ea : Nat → Nat → Nat) (ad : Nat → Nat) (n : Nat → Nat) (g : Nat → Int32) (b : Nat → Bool) (r : Nat → Nat → Int32) (V : Nat → Ev)  (hW : n 11 ≤ 5) (hS : n 10 ≤ 6) (h9 : n 9 ≤ 30) : cI l yX5_places wsX5_places (7) θ [.ref (ad 0), .int (-1)] (CW θ ea ad n g b r V) (fun r0 Y => r0 = nI (pf (n 10) (n 11) (fiO (k_pv (n 9) g (r 4) (r 7)) (n 10) (r 13) (n 11)) (n 11) 0 (nI 0) (nI 0) 0 (0, k_nn (r 14) 5, k_nn (r 15) 5)).1 ∧ Y = CW θ ea ad (cnv (n 0) (n 1) (n 2) (n 3) (n 4) (n 5) (n 6) (n 7) (n 8) (n 9) (n 10) (n 11) (n 12) (n 13) (n 14) (n 15) (n 16) (n 17) (n 10) (n 11) ((pf (n 10) (n 11) (fiO (k_pv (n 9) g (r 4) (r 7)) (n 10) (r 13) (n 11)) (n 11) 0 (nI 0) (nI 0) 0 (0, k_nn (r 14) 5, k_nn (r 15) 5)).1)) g b (crv (r 0) (r 1) (r 2) (r 3) (r 4) (r 5) (r 6) (r 7) (r 8) (r 9) (r 10) (r 11) (r 12) (fiO (k_pv (n 9) g (r 4) (r 7)) (n 10) (r 13) (n 11)) ((pf (n 10) (n 11) (fiO (k_pv (n 9) g (r 4) (r 7)) (n 10) (r 13) (n 11)) (n 11) 0 (nI 0) (nI 0) 0 (0, k_nn (r 14) 5, k_nn (r 15) 5)).2.1) ((pf (n 10) (n 11) (fiO (k_pv (n 9) g (r 4) (r 7)) (n 10) (r 13) (n 11)) (n 11) 0 (nI 0) (nI 0) 0 (0, k_nn (r 14) 5, k_nn (r 15) 5)).2.2) (r 16) (r 17) (r 18)) V) := by
  refine z_cI (by decide) rfl rfl (Nat.le_of_ble_eq_true rfl) (lv := [(0, .ref (ad 0)), (1, .int (-1))]) rfl (fun κ C E => ?_)
  have hinX0 : ∀ w ∈ wsX00, w ∈ wsX5_places := by decide +kernel
  have hinX1 : ∀ w ∈ wsX10, w ∈ wsX5_places := by decide +kernel
  have hinX3 : ∀ w ∈ wsX30, w ∈ wsX5_places := by decide +kernel
  have hinX5 : ∀ w ∈ wsX50, w ∈ wsX5_places := by decide +kernel
  refine z_iload_n C dX5_places_0 rfl (show zlk _ 1 = some (.int (-1)) from rfl) ?_
  refine z_iconst C (v := (-1)) dX5_places_1 (by decide) ?_
  refine z_icmp_eq C 16 dX5_places_2 (by decide) (fun h2t_1 => ?_) (fun h2t_1 => absurd h2t_1 (fun z => z rfl))
  refine z_aload_n C dX5_places_16 rfl (show zlk _ 0 = some (.ref (ad 0)) from rfl) ?_
  refine z_get C hinX5 0 cc_0 rfl 7 (by decide) (by decide +kernel) cg_0_7 dX5_places_17 ?_
  refine z_aload_n C dX5_places_20 rfl (show zlk _ 0 = some (.ref (ad 0)) from rfl) ?_
  refine z_get C hinX5 0 cc_0 rfl 1 (by decide) (by decide +kernel) cg_0_1 dX5_places_21 ?_
  refine z_callNv C (As := [.ref (ad 3)]) (rest := []) (host := "GnatPortraits") (c_X3_begin l θ ea ad n g b r V) gX5_places_X3_begin_n230 rfl 1 (by decide +kernel) (by decide +kernel) (by decide +kernel) (by decide +kernel) (by decide +kernel) (by omega) (by decide) 9 rfl rfl rfl rfl rfl (Nat.le_of_ble_eq_true rfl) dX5_places_24 ?_
  rintro _ rfl
  refine z_X (Y := CW θ ea ad (cnv (n 0) (n 1) (n 2) (n 3) (n 4) (n 5) (n 6) (n 7) (n 8) (n 9) (n 10) (n 11) (n 12) (n 13) (n 14) (n 15) (n 16) (n 17) (n 10) (n 11) 0) g b (crv (r 0) (r 1) (r 2) (r 3) (r 4) (r 5) (r 6) (r 7) (r 8) (r 9) (r 10) (r 11) (r 12) (r 13) (k_nn (r 14) 5) (k_nn (r 15) 5) (r 16) (r 17) (r 18)) V) (cw_eq rfl rfl rfl rfl rfl rfl rfl rfl rfl rfl rfl rfl rfl rfl rfl rfl rfl rfl rfl rfl rfl rfl rfl rfl rfl rfl rfl rfl rfl rfl rfl rfl rfl rfl rfl rfl rfl rfl rfl rfl rfl rfl rfl rfl rfl rfl rfl rfl rfl rfl rfl) ?_
  refine z_iconst C (v := nI 0) dX5_places_27 (by decide) ?_
  refine z_istore_n C [(2, .int (nI 0)), (0, .ref (ad 0)), (1, .int (-1))] dX5_places_28 rfl (by decide) rfl ?_
  refine z_lv (lv' := [(0, .ref (ad 0)), (1, .int (-1)), (2, .int (nI 0))]) rfl ?_
  refine z_X (Y := CW θ ea ad (cnv (n 0) (n 1) (n 2) (n 3) (n 4) (n 5) (n 6) (n 7) (n 8) (n 9) (n 10) (n 11) (n 12) (n 13) (n 14) (n 15) (n 16) (n 17) (n 10) (n 11) 0) g b (crv (r 0) (r 1) (r 2) (r 3) (r 4) (r 5) (r 6) (r 7) (r 8) (r 9) (r 10) (r 11) (r 12) (fiO (k_pv (n 9) g (r 4) (r 7)) (n 10) (r 13) 0) (k_nn (r 14) 5) (k_nn (r 15) 5) (r 16) (r 17) (r 18)) V) (cw_eq rfl rfl rfl rfl rfl rfl rfl rfl rfl rfl rfl rfl rfl rfl rfl rfl rfl rfl rfl rfl rfl rfl rfl rfl rfl rfl rfl rfl rfl rfl rfl rfl rfl rfl rfl rfl rfl rfl rfl rfl rfl rfl rfl rfl rfl rfl rfl rfl rfl rfl rfl) ?_
  refine z_up (fun at_ => Z κ (CW θ ea ad (cnv (n 0) (n 1) (n 2) (n 3) (n 4) (n 5) (n 6) (n 7) (n 8) (n 9) (n 10) (n 11) (n 12) (n 13) (n 14) (n 15) (n 16) (n 17) (n 10) (n 11) 0) g b (crv (r 0) (r 1) (r 2) (r 3) (r 4) (r 5) (r 6) (r 7) (r 8) (r 9) (r 10) (r 11) (r 12) (fiO (k_pv (n 9) g (r 4) (r 7)) (n 10) (r 13) at_) (k_nn (r 14) 5) (k_nn (r 15) 5) (r 16) (r 17) (r 18)) V) 29 [(0, .ref (ad 0)), (1, .int (-1)), (2, .int (nI at_))] []) (n 11) ?_ ?_ 0 (by omega)
  · refine z_iload_n C dX5_places_29 rfl (show zlk _ 2 = some (.int (nI (n 11))) from rfl) ?_
    refine z_aload_n C dX5_places_30 rfl (show zlk _ 0 = some (.ref (ad 0)) from rfl) ?_
    refine z_get C hinX5 0 cc_0 rfl 1 (by decide) (by decide +kernel) cg_0_1 dX5_places_31 ?_
    refine z_getN C (host := "GnatPortraits") hinX0 3 cc_3 rfl 3 (by decide) (by decide +kernel) ch_3_3 dX5_places_34 ?_
    refine z_icmp_geT C 101 dX5_places_37 (by decide) (by omega) (by omega) (by omega) ?_
    refine z_aload_n C dX5_places_101 rfl (show zlk _ 0 = some (.ref (ad 0)) from rfl) ?_
    refine z_get C hinX5 0 cc_0 rfl 7 (by decide) (by decide +kernel) cg_0_7 dX5_places_102 ?_
    refine z_iconst C (v := nI 0) dX5_places_105 (by decide) ?_
    refine z_iconst C (v := nI 0) dX5_places_106 (by decide) ?_
    refine z_iconst C (v := nI 0) dX5_places_107 (by decide) ?_
    refine z_iconst C (v := nI 0) dX5_places_108 (by decide) ?_
    refine z_callSv C (As := [.ref (ad 9), .int (nI 0), .int (nI 0), .int (nI 0), .int (nI 0)]) (rest := []) (c_X5_placeFrom l θ ea ad g b V (n 11) (cnv (n 0) (n 1) (n 2) (n 3) (n 4) (n 5) (n 6) (n 7) (n 8) (n 9) (n 10) (n 11) (n 12) (n 13) (n 14) (n 15) (n 16) (n 17) (n 10) (n 11) 0) (crv (r 0) (r 1) (r 2) (r 3) (r 4) (r 5) (r 6) (r 7) (r 8) (r 9) (r 10) (r 11) (r 12) (fiO (k_pv (n 9) g (r 4) (r 7)) (n 10) (r 13) (n 11)) (k_nn (r 14) 5) (k_nn (r 15) 5) (r 16) (r 17) (r 18)) 0 (nI 0) (nI 0) 0 (show n 10 ≤ 6 from hS) (show n 11 ≤ 5 from hW) (Nat.zero_le _) (Nat.le_refl _) (Nat.zero_add _)) gX5_places_X5_placeFrom rfl 5 (by decide +kernel) (by omega) (by decide) rfl rfl (Nat.le_of_ble_eq_true rfl) dX5_places_109 ?_
    rintro _ rfl
    refine z_X (Y := CW θ ea ad (cnv (n 0) (n 1) (n 2) (n 3) (n 4) (n 5) (n 6) (n 7) (n 8) (n 9) (n 10) (n 11) (n 12) (n 13) (n 14) (n 15) (n 16) (n 17) (n 10) (n 11) ((pf (n 10) (n 11) (fiO (k_pv (n 9) g (r 4) (r 7)) (n 10) (r 13) (n 11)) (n 11) 0 (nI 0) (nI 0) 0 (0, (k_nn (r 14) 5), (k_nn (r 15) 5))).1)) g b (crv (r 0) (r 1) (r 2) (r 3) (r 4) (r 5) (r 6) (r 7) (r 8) (r 9) (r 10) (r 11) (r 12) (fiO (k_pv (n 9) g (r 4) (r 7)) (n 10) (r 13) (n 11)) ((pf (n 10) (n 11) (fiO (k_pv (n 9) g (r 4) (r 7)) (n 10) (r 13) (n 11)) (n 11) 0 (nI 0) (nI 0) 0 (0, (k_nn (r 14) 5), (k_nn (r 15) 5))).2.1) ((pf (n 10) (n 11) (fiO (k_pv (n 9) g (r 4) (r 7)) (n 10) (r 13) (n 11)) (n 11) 0 (nI 0) (nI 0) 0 (0, (k_nn (r 14) 5), (k_nn (r 15) 5))).2.2) (r 16) (r 17) (r 18)) V) (cw_eq rfl rfl rfl rfl rfl rfl rfl rfl rfl rfl rfl rfl rfl rfl rfl rfl rfl rfl rfl rfl rfl rfl rfl rfl rfl rfl rfl rfl rfl rfl rfl rfl rfl rfl rfl rfl rfl rfl rfl rfl rfl rfl rfl rfl rfl rfl rfl rfl rfl rfl rfl) ?_
    refine z_iload_n C dX5_places_112 rfl (show zlk _ 1 = some (.int (-1)) from rfl) ?_
    refine z_iconst C (v := (-1)) dX5_places_113 (by decide) ?_
    refine z_icmp_ne C 127 dX5_places_114 (by decide) (fun h114n_2 => absurd h114n_2 (fun z => z rfl)) (fun h114n_2 => ?_)
    refine z_aload_n C dX5_places_117 rfl (show zlk _ 0 = some (.ref (ad 0)) from rfl) ?_
    refine z_get C hinX5 0 cc_0 rfl 7 (by decide) (by decide +kernel) cg_0_7 dX5_places_118 ?_
    refine z_getN C (host := "GnatPortraits") hinX3 9 cc_9 rfl 2 (by decide) (by decide +kernel) ch_9_2 dX5_places_121 ?_
    refine z_goto C 136 dX5_places_124 (by decide) ?_
    exact E _ _ _ _ (⟨rfl, (cw_eq rfl rfl rfl rfl rfl rfl rfl rfl rfl rfl rfl rfl rfl rfl rfl rfl rfl rfl rfl rfl rfl rfl rfl rfl rfl rfl rfl rfl rfl rfl rfl rfl rfl rfl rfl rfl rfl rfl rfl rfl rfl rfl rfl rfl rfl rfl rfl rfl rfl rfl rfl)⟩) (rfl) dX5_places_136
  · intro at_ hk29 ih29
    refine z_iload_n C dX5_places_29 rfl (show zlk _ 2 = some (.int (nI at_)) from rfl) ?_
    refine z_aload_n C dX5_places_30 rfl (show zlk _ 0 = some (.ref (ad 0)) from rfl) ?_
    refine z_get C hinX5 0 cc_0 rfl 1 (by decide) (by decide +kernel) cg_0_1 dX5_places_31 ?_
    refine z_getN C (host := "GnatPortraits") hinX0 3 cc_3 rfl 3 (by decide) (by decide +kernel) ch_3_3 dX5_places_34 ?_
    refine z_icmp_geF C 101 dX5_places_37 (by decide) (by omega) (by omega) (by omega) ?_
    refine z_iconst C (v := nI 0) dX5_places_40 (by decide) ?_
    refine z_istore_n C [(3, .int (nI 0)), (0, .ref (ad 0)), (1, .int (-1)), (2, .int (nI at_))] dX5_places_41 rfl (by decide) rfl ?_
    refine z_lv (lv' := [(0, .ref (ad 0)), (1, .int (-1)), (2, .int (nI at_)), (3, .int (nI 0))]) rfl ?_
    refine z_X (Y := CW θ ea ad (cnv (n 0) (n 1) (n 2) (n 3) (n 4) (n 5) (n 6) (n 7) (n 8) (n 9) (n 10) (n 11) (n 12) (n 13) (n 14) (n 15) (n 16) (n 17) (n 10) (n 11) 0) g b (crv (r 0) (r 1) (r 2) (r 3) (r 4) (r 5) (r 6) (r 7) (r 8) (r 9) (r 10) (r 11) (r 12) (fiI (k_pv (n 9) g (r 4) (r 7)) at_ (fiO (k_pv (n 9) g (r 4) (r 7)) (n 10) (r 13) at_) 0) (k_nn (r 14) 5) (k_nn (r 15) 5) (r 16) (r 17) (r 18)) V) (cw_eq rfl rfl rfl rfl rfl rfl rfl rfl rfl rfl rfl rfl rfl rfl rfl rfl rfl rfl rfl rfl rfl rfl rfl rfl rfl rfl rfl rfl rfl rfl rfl rfl rfl rfl rfl rfl rfl rfl rfl rfl rfl rfl rfl rfl rfl rfl rfl rfl rfl rfl rfl) ?_
    refine z_up (fun s => Z κ (CW θ ea ad (cnv (n 0) (n 1) (n 2) (n 3) (n 4) (n 5) (n 6) (n 7) (n 8) (n 9) (n 10) (n 11) (n 12) (n 13) (n 14) (n 15) (n 16) (n 17) (n 10) (n 11) 0) g b (crv (r 0) (r 1) (r 2) (r 3) (r 4) (r 5) (r 6) (r 7) (r 8) (r 9) (r 10) (r 11) (r 12) (fiI (k_pv (n 9) g (r 4) (r 7)) at_ (fiO (k_pv (n 9) g (r 4) (r 7)) (n 10) (r 13) at_) s) (k_nn (r 14) 5) (k_nn (r 15) 5) (r 16) (r 17) (r 18)) V) 42 [(0, .ref (ad 0)), (1, .int (-1)), (2, .int (nI at_)), (3, .int (nI s))] []) (n 10) ?_ ?_ 0 (by omega)
    · refine z_iload_n C dX5_places_42 rfl (show zlk _ 3 = some (.int (nI (n 10))) from rfl) ?_
      refine z_aload_n C dX5_places_43 rfl (show zlk _ 0 = some (.ref (ad 0)) from rfl) ?_
      refine z_get C hinX5 0 cc_0 rfl 1 (by decide) (by decide +kernel) cg_0_1 dX5_places_44 ?_
      refine z_getN C (host := "GnatPortraits") hinX0 3 cc_3 rfl 2 (by decide) (by decide +kernel) ch_3_2 dX5_places_47 ?_
      refine z_icmp_geT C 95 dX5_places_50 (by decide) (by omega) (by omega) (by omega) ?_
      refine z_iincN C [(2, .int (nI (at_ + 1))), (0, .ref (ad 0)), (1, .int (-1)), (3, .int (nI (n 10)))] dX5_places_95 rfl (by decide) rfl ?_
      refine z_goto C 29 dX5_places_98 (by decide) ?_
      exact z_to (ih29) ((cw_eq rfl rfl rfl rfl rfl rfl rfl rfl rfl rfl rfl rfl rfl rfl rfl rfl rfl rfl rfl rfl rfl rfl rfl rfl rfl rfl rfl rfl rfl rfl rfl rfl rfl rfl rfl rfl rfl rfl rfl rfl rfl rfl rfl rfl rfl rfl rfl rfl rfl rfl rfl)) (rfl)
    · intro s hk42 ih42
      refine z_iload_n C dX5_places_42 rfl (show zlk _ 3 = some (.int (nI s)) from rfl) ?_
      refine z_aload_n C dX5_places_43 rfl (show zlk _ 0 = some (.ref (ad 0)) from rfl) ?_
      refine z_get C hinX5 0 cc_0 rfl 1 (by decide) (by decide +kernel) cg_0_1 dX5_places_44 ?_
      refine z_getN C (host := "GnatPortraits") hinX0 3 cc_3 rfl 2 (by decide) (by decide +kernel) ch_3_2 dX5_places_47 ?_
      refine z_icmp_geF C 95 dX5_places_50 (by decide) (by omega) (by omega) (by omega) ?_
      refine z_aload_n C dX5_places_53 rfl (show zlk _ 0 = some (.ref (ad 0)) from rfl) ?_
      refine z_get C hinX5 0 cc_0 rfl 7 (by decide) (by decide +kernel) cg_0_7 dX5_places_54 ?_
      refine z_getN C (host := "GnatPortraits") hinX3 9 cc_9 rfl 3 (by decide) (by decide +kernel) cg_9_3 dX5_places_57 ?_
      refine z_iload_n C dX5_places_60 rfl (show zlk _ 2 = some (.int (nI at_)) from rfl) ?_
      refine z_bipush C (v := nI 6) dX5_places_61 (by decide) ?_
      refine z_imulN C dX5_places_63 ?_
      refine z_iload_n C dX5_places_64 rfl (show zlk _ 3 = some (.int (nI s)) from rfl) ?_
      refine z_iaddN C dX5_places_65 ?_
      refine z_aload_n C dX5_places_66 rfl (show zlk _ 0 = some (.ref (ad 0)) from rfl) ?_
      refine z_aload_n C dX5_places_67 rfl (show zlk _ 0 = some (.ref (ad 0)) from rfl) ?_
      refine z_get C hinX5 0 cc_0 rfl 1 (by decide) (by decide +kernel) cg_0_1 dX5_places_68 ?_
      refine z_getN C (host := "GnatPortraits") hinX0 3 cc_3 rfl 5 (by decide) (by decide +kernel) cg_3_5 dX5_places_71 ?_
      refine z_iload_n C dX5_places_74 rfl (show zlk _ 3 = some (.int (nI s)) from rfl) ?_
      refine z_iald C (f := (r 4)) 15 cav_15 s rfl (by omega) (by decide) dX5_places_75 ?_
      refine z_aload_n C dX5_places_76 rfl (show zlk _ 0 = some (.ref (ad 0)) from rfl) ?_
      refine z_get C hinX5 0 cc_0 rfl 2 (by decide) (by decide +kernel) cg_0_2 dX5_places_77 ?_
      refine z_getN C (host := "GnatPortraits") hinX1 4 cc_4 rfl 8 (by decide) (by decide +kernel) cg_4_8 dX5_places_80 ?_
      refine z_iload_n C dX5_places_83 rfl (show zlk _ 2 = some (.int (nI at_)) from rfl) ?_
      refine z_iald C (f := (r 7)) 18 cav_18 at_ rfl (by omega) (by decide) dX5_places_84 ?_
      refine z_callVi C (As := [.int ((r 4) s), .int ((r 7) at_)]) (rest := [.int (nI (at_ * 6 + s)), .ref (ad 25)]) (c_X5_drawnBy l θ ea ad (cnv (n 0) (n 1) (n 2) (n 3) (n 4) (n 5) (n 6) (n 7) (n 8) (n 9) (n 10) (n 11) (n 12) (n 13) (n 14) (n 15) (n 16) (n 17) (n 10) (n 11) 0) g b (crv (r 0) (r 1) (r 2) (r 3) (r 4) (r 5) (r 6) (r 7) (r 8) (r 9) (r 10) (r 11) (r 12) (fiI (k_pv (n 9) g (r 4) (r 7)) at_ (fiO (k_pv (n 9) g (r 4) (r 7)) (n 10) (r 13) at_) s) (k_nn (r 14) 5) (k_nn (r 15) 5) (r 16) (r 17) (r 18)) V ((r 4) s) ((r 7) at_) (h9)) gX5_places_X5_drawnBy rfl 2 (by decide +kernel) (by omega) (by decide) 0 rfl rfl rfl rfl rfl (Nat.le_of_ble_eq_true rfl) dX5_places_85 ?_
      rintro _ _ ⟨rfl, rfl⟩
      refine z_top (v' := .int (k_dB (n 9) g ((r 4) s) ((r 7) at_))) rfl ?_
      refine z_iast C (f := (fiI (k_pv (n 9) g (r 4) (r 7)) at_ (fiO (k_pv (n 9) g (r 4) (r 7)) (n 10) (r 13) at_) s)) 25 cav_25 (at_ * 6 + s) rfl (by omega) (by decide) _ csv_25 dX5_places_88 ?_
      refine z_iincN C [(3, .int (nI (s + 1))), (0, .ref (ad 0)), (1, .int (-1)), (2, .int (nI at_))] dX5_places_89 rfl (by decide) rfl ?_
      refine z_goto C 42 dX5_places_92 (by decide) ?_
      exact z_to (ih42) ((cw_eq rfl rfl rfl rfl rfl rfl rfl rfl rfl rfl rfl rfl rfl rfl rfl rfl rfl rfl rfl rfl rfl rfl rfl rfl rfl rfl rfl rfl rfl rfl rfl rfl rfl rfl rfl rfl rfl rfl rfl rfl rfl rfl rfl rfl rfl rfl rfl rfl rfl rfl rfl)) (rfl)

set_option maxHeartbeats 4000000 in
set_option maxRecDepth 100000 in
theorem c_X5_places_3 (l : Launch) (θ : zH) (ea : Nat → Nat → Nat) (ad : Nat → Nat) (n : Nat → Nat) (g : Nat → Int32) (b : Nat → Bool) (r : Nat → Nat → Int32) (V : Nat → Ev) (w : Nat) (hW : n 11 ≤ 5) (hS : n 10 ≤ 6) (h9 : n 9 ≤ 30) (hw : w < n 11) : cI l yX5_places wsX5_places (7) θ [.ref (ad 0), .int (nI w)] (CW θ ea ad n g b r V) (fun r0 Y => r0 = (pf (n 10) (n 11) (fiO (k_pv (n 9) g (r 4) (r 7)) (n 10) (r 13) (n 11)) (n 11) 0 (nI 0) (nI 0) 0 (0, k_nn (r 14) 5, k_nn (r 15) 5)).2.2 w ∧ Y = CW θ ea ad (cnv (n 0) (n 1) (n 2) (n 3) (n 4) (n 5) (n 6) (n 7) (n 8) (n 9) (n 10) (n 11) (n 12) (n 13) (n 14) (n 15) (n 16) (n 17) (n 10) (n 11) ((pf (n 10) (n 11) (fiO (k_pv (n 9) g (r 4) (r 7)) (n 10) (r 13) (n 11)) (n 11) 0 (nI 0) (nI 0) 0 (0, k_nn (r 14) 5, k_nn (r 15) 5)).1)) g b (crv (r 0) (r 1) (r 2) (r 3) (r 4) (r 5) (r 6) (r 7) (r 8) (r 9) (r 10) (r 11) (r 12) (fiO (k_pv (n 9) g (r 4) (r 7)) (n 10) (r 13) (n 11)) ((pf (n 10) (n 11) (fiO (k_pv (n 9) g (r 4) (r 7)) (n 10) (r 13) (n 11)) (n 11) 0 (nI 0) (nI 0) 0 (0, k_nn (r 14) 5, k_nn (r 15) 5)).2.1) ((pf (n 10) (n 11) (fiO (k_pv (n 9) g (r 4) (r 7)) (n 10) (r 13) (n 11)) (n 11) 0 (nI 0) (nI 0) 0 (0, k_nn (r 14) 5, k_nn (r 15) 5)).2.2) (r 16) (r 17) (r 18)) V) := by
  refine z_cI (by decide) rfl rfl (Nat.le_of_ble_eq_true rfl) (lv := [(0, .ref (ad 0)), (1, .int (nI w))]) rfl (fun κ C E => ?_)
  have hinX0 : ∀ w ∈ wsX00, w ∈ wsX5_places := by decide +kernel
  have hinX1 : ∀ w ∈ wsX10, w ∈ wsX5_places := by decide +kernel
  have hinX3 : ∀ w ∈ wsX30, w ∈ wsX5_places := by decide +kernel
  have hinX5 : ∀ w ∈ wsX50, w ∈ wsX5_places := by decide +kernel
  refine z_iload_n C dX5_places_0 rfl (show zlk _ 1 = some (.int (nI w)) from rfl) ?_
  refine z_iconst C (v := (-1)) dX5_places_1 (by decide) ?_
  refine z_icmp_eq C 16 dX5_places_2 (by decide) (fun h2n_1 => absurd h2n_1 (nI_nm1 (by omega))) (fun h2n_1 => ?_)
  refine z_aload_n C dX5_places_5 rfl (show zlk _ 0 = some (.ref (ad 0)) from rfl) ?_
  refine z_iload_n C dX5_places_6 rfl (show zlk _ 1 = some (.int (nI w)) from rfl) ?_
  refine z_callVi C (As := [.int (nI w)]) (rest := []) (c_X5_isWindow l θ ea ad n g b r V (nI w) (by omega)) gX5_places_X5_isWindow rfl 1 (by decide +kernel) (by omega) (by decide) 0 rfl rfl rfl rfl rfl (Nat.le_of_ble_eq_true rfl) dX5_places_7 ?_
  rintro _ _ ⟨rfl, rfl⟩
  refine z_if_neB C 16 dX5_places_10 (by decide) (fun _ => ?_) (fun h => absurd h (by rw [okN_lt hw (by omega)]; decide))
  refine z_aload_n C dX5_places_16 rfl (show zlk _ 0 = some (.ref (ad 0)) from rfl) ?_
  refine z_get C hinX5 0 cc_0 rfl 7 (by decide) (by decide +kernel) cg_0_7 dX5_places_17 ?_
  refine z_aload_n C dX5_places_20 rfl (show zlk _ 0 = some (.ref (ad 0)) from rfl) ?_
  refine z_get C hinX5 0 cc_0 rfl 1 (by decide) (by decide +kernel) cg_0_1 dX5_places_21 ?_
  refine z_callNv C (As := [.ref (ad 3)]) (rest := []) (host := "GnatPortraits") (c_X3_begin l θ ea ad n g b r V) gX5_places_X3_begin_n230 rfl 1 (by decide +kernel) (by decide +kernel) (by decide +kernel) (by decide +kernel) (by decide +kernel) (by omega) (by decide) 9 rfl rfl rfl rfl rfl (Nat.le_of_ble_eq_true rfl) dX5_places_24 ?_
  rintro _ rfl
  refine z_X (Y := CW θ ea ad (cnv (n 0) (n 1) (n 2) (n 3) (n 4) (n 5) (n 6) (n 7) (n 8) (n 9) (n 10) (n 11) (n 12) (n 13) (n 14) (n 15) (n 16) (n 17) (n 10) (n 11) 0) g b (crv (r 0) (r 1) (r 2) (r 3) (r 4) (r 5) (r 6) (r 7) (r 8) (r 9) (r 10) (r 11) (r 12) (r 13) (k_nn (r 14) 5) (k_nn (r 15) 5) (r 16) (r 17) (r 18)) V) (cw_eq rfl rfl rfl rfl rfl rfl rfl rfl rfl rfl rfl rfl rfl rfl rfl rfl rfl rfl rfl rfl rfl rfl rfl rfl rfl rfl rfl rfl rfl rfl rfl rfl rfl rfl rfl rfl rfl rfl rfl rfl rfl rfl rfl rfl rfl rfl rfl rfl rfl rfl rfl) ?_
  refine z_iconst C (v := nI 0) dX5_places_27 (by decide) ?_
  refine z_istore_n C [(2, .int (nI 0)), (0, .ref (ad 0)), (1, .int (nI w))] dX5_places_28 rfl (by decide) rfl ?_
  refine z_lv (lv' := [(0, .ref (ad 0)), (1, .int (nI w)), (2, .int (nI 0))]) rfl ?_
  refine z_X (Y := CW θ ea ad (cnv (n 0) (n 1) (n 2) (n 3) (n 4) (n 5) (n 6) (n 7) (n 8) (n 9) (n 10) (n 11) (n 12) (n 13) (n 14) (n 15) (n 16) (n 17) (n 10) (n 11) 0) g b (crv (r 0) (r 1) (r 2) (r 3) (r 4) (r 5) (r 6) (r 7) (r 8) (r 9) (r 10) (r 11) (r 12) (fiO (k_pv (n 9) g (r 4) (r 7)) (n 10) (r 13) 0) (k_nn (r 14) 5) (k_nn (r 15) 5) (r 16) (r 17) (r 18)) V) (cw_eq rfl rfl rfl rfl rfl rfl rfl rfl rfl rfl rfl rfl rfl rfl rfl rfl rfl rfl rfl rfl rfl rfl rfl rfl rfl rfl rfl rfl rfl rfl rfl rfl rfl rfl rfl rfl rfl rfl rfl rfl rfl rfl rfl rfl rfl rfl rfl rfl rfl rfl rfl) ?_
  refine z_up (fun at_ => Z κ (CW θ ea ad (cnv (n 0) (n 1) (n 2) (n 3) (n 4) (n 5) (n 6) (n 7) (n 8) (n 9) (n 10) (n 11) (n 12) (n 13) (n 14) (n 15) (n 16) (n 17) (n 10) (n 11) 0) g b (crv (r 0) (r 1) (r 2) (r 3) (r 4) (r 5) (r 6) (r 7) (r 8) (r 9) (r 10) (r 11) (r 12) (fiO (k_pv (n 9) g (r 4) (r 7)) (n 10) (r 13) at_) (k_nn (r 14) 5) (k_nn (r 15) 5) (r 16) (r 17) (r 18)) V) 29 [(0, .ref (ad 0)), (1, .int (nI w)), (2, .int (nI at_))] []) (n 11) ?_ ?_ 0 (by omega)
  · refine z_iload_n C dX5_places_29 rfl (show zlk _ 2 = some (.int (nI (n 11))) from rfl) ?_
    refine z_aload_n C dX5_places_30 rfl (show zlk _ 0 = some (.ref (ad 0)) from rfl) ?_
    refine z_get C hinX5 0 cc_0 rfl 1 (by decide) (by decide +kernel) cg_0_1 dX5_places_31 ?_
    refine z_getN C (host := "GnatPortraits") hinX0 3 cc_3 rfl 3 (by decide) (by decide +kernel) ch_3_3 dX5_places_34 ?_
    refine z_icmp_geT C 101 dX5_places_37 (by decide) (by omega) (by omega) (by omega) ?_
    refine z_aload_n C dX5_places_101 rfl (show zlk _ 0 = some (.ref (ad 0)) from rfl) ?_
    refine z_get C hinX5 0 cc_0 rfl 7 (by decide) (by decide +kernel) cg_0_7 dX5_places_102 ?_
    refine z_iconst C (v := nI 0) dX5_places_105 (by decide) ?_
    refine z_iconst C (v := nI 0) dX5_places_106 (by decide) ?_
    refine z_iconst C (v := nI 0) dX5_places_107 (by decide) ?_
    refine z_iconst C (v := nI 0) dX5_places_108 (by decide) ?_
    refine z_callSv C (As := [.ref (ad 9), .int (nI 0), .int (nI 0), .int (nI 0), .int (nI 0)]) (rest := []) (c_X5_placeFrom l θ ea ad g b V (n 11) (cnv (n 0) (n 1) (n 2) (n 3) (n 4) (n 5) (n 6) (n 7) (n 8) (n 9) (n 10) (n 11) (n 12) (n 13) (n 14) (n 15) (n 16) (n 17) (n 10) (n 11) 0) (crv (r 0) (r 1) (r 2) (r 3) (r 4) (r 5) (r 6) (r 7) (r 8) (r 9) (r 10) (r 11) (r 12) (fiO (k_pv (n 9) g (r 4) (r 7)) (n 10) (r 13) (n 11)) (k_nn (r 14) 5) (k_nn (r 15) 5) (r 16) (r 17) (r 18)) 0 (nI 0) (nI 0) 0 (show n 10 ≤ 6 from hS) (show n 11 ≤ 5 from hW) (Nat.zero_le _) (Nat.le_refl _) (Nat.zero_add _)) gX5_places_X5_placeFrom rfl 5 (by decide +kernel) (by omega) (by decide) rfl rfl (Nat.le_of_ble_eq_true rfl) dX5_places_109 ?_
    rintro _ rfl
    refine z_X (Y := CW θ ea ad (cnv (n 0) (n 1) (n 2) (n 3) (n 4) (n 5) (n 6) (n 7) (n 8) (n 9) (n 10) (n 11) (n 12) (n 13) (n 14) (n 15) (n 16) (n 17) (n 10) (n 11) ((pf (n 10) (n 11) (fiO (k_pv (n 9) g (r 4) (r 7)) (n 10) (r 13) (n 11)) (n 11) 0 (nI 0) (nI 0) 0 (0, (k_nn (r 14) 5), (k_nn (r 15) 5))).1)) g b (crv (r 0) (r 1) (r 2) (r 3) (r 4) (r 5) (r 6) (r 7) (r 8) (r 9) (r 10) (r 11) (r 12) (fiO (k_pv (n 9) g (r 4) (r 7)) (n 10) (r 13) (n 11)) ((pf (n 10) (n 11) (fiO (k_pv (n 9) g (r 4) (r 7)) (n 10) (r 13) (n 11)) (n 11) 0 (nI 0) (nI 0) 0 (0, (k_nn (r 14) 5), (k_nn (r 15) 5))).2.1) ((pf (n 10) (n 11) (fiO (k_pv (n 9) g (r 4) (r 7)) (n 10) (r 13) (n 11)) (n 11) 0 (nI 0) (nI 0) 0 (0, (k_nn (r 14) 5), (k_nn (r 15) 5))).2.2) (r 16) (r 17) (r 18)) V) (cw_eq rfl rfl rfl rfl rfl rfl rfl rfl rfl rfl rfl rfl rfl rfl rfl rfl rfl rfl rfl rfl rfl rfl rfl rfl rfl rfl rfl rfl rfl rfl rfl rfl rfl rfl rfl rfl rfl rfl rfl rfl rfl rfl rfl rfl rfl rfl rfl rfl rfl rfl rfl) ?_
    refine z_iload_n C dX5_places_112 rfl (show zlk _ 1 = some (.int (nI w)) from rfl) ?_
    refine z_iconst C (v := (-1)) dX5_places_113 (by decide) ?_
    refine z_icmp_ne C 127 dX5_places_114 (by decide) (fun h114t_2 => ?_) (fun h114t_2 => absurd h114t_2 (nI_nm1 (by omega)))
    refine z_aload_n C dX5_places_127 rfl (show zlk _ 0 = some (.ref (ad 0)) from rfl) ?_
    refine z_get C hinX5 0 cc_0 rfl 7 (by decide) (by decide +kernel) cg_0_7 dX5_places_128 ?_
    refine z_getN C (host := "GnatPortraits") hinX3 9 cc_9 rfl 5 (by decide) (by decide +kernel) cg_9_5 dX5_places_131 ?_
    refine z_iload_n C dX5_places_134 rfl (show zlk _ 1 = some (.int (nI w)) from rfl) ?_
    refine z_iald C (f := ((pf (n 10) (n 11) (fiO (k_pv (n 9) g (r 4) (r 7)) (n 10) (r 13) (n 11)) (n 11) 0 (nI 0) (nI 0) 0 (0, (k_nn (r 14) 5), (k_nn (r 15) 5))).2.2)) 27 cav_27 w rfl (by omega) (by decide) dX5_places_135 ?_
    exact E _ _ _ _ (⟨rfl, (cw_eq rfl rfl rfl rfl rfl rfl rfl rfl rfl rfl rfl rfl rfl rfl rfl rfl rfl rfl rfl rfl rfl rfl rfl rfl rfl rfl rfl rfl rfl rfl rfl rfl rfl rfl rfl rfl rfl rfl rfl rfl rfl rfl rfl rfl rfl rfl rfl rfl rfl rfl rfl)⟩) (rfl) dX5_places_136
  · intro at_ hk29 ih29
    refine z_iload_n C dX5_places_29 rfl (show zlk _ 2 = some (.int (nI at_)) from rfl) ?_
    refine z_aload_n C dX5_places_30 rfl (show zlk _ 0 = some (.ref (ad 0)) from rfl) ?_
    refine z_get C hinX5 0 cc_0 rfl 1 (by decide) (by decide +kernel) cg_0_1 dX5_places_31 ?_
    refine z_getN C (host := "GnatPortraits") hinX0 3 cc_3 rfl 3 (by decide) (by decide +kernel) ch_3_3 dX5_places_34 ?_
    refine z_icmp_geF C 101 dX5_places_37 (by decide) (by omega) (by omega) (by omega) ?_
    refine z_iconst C (v := nI 0) dX5_places_40 (by decide) ?_
    refine z_istore_n C [(3, .int (nI 0)), (0, .ref (ad 0)), (1, .int (nI w)), (2, .int (nI at_))] dX5_places_41 rfl (by decide) rfl ?_
    refine z_lv (lv' := [(0, .ref (ad 0)), (1, .int (nI w)), (2, .int (nI at_)), (3, .int (nI 0))]) rfl ?_
    refine z_X (Y := CW θ ea ad (cnv (n 0) (n 1) (n 2) (n 3) (n 4) (n 5) (n 6) (n 7) (n 8) (n 9) (n 10) (n 11) (n 12) (n 13) (n 14) (n 15) (n 16) (n 17) (n 10) (n 11) 0) g b (crv (r 0) (r 1) (r 2) (r 3) (r 4) (r 5) (r 6) (r 7) (r 8) (r 9) (r 10) (r 11) (r 12) (fiI (k_pv (n 9) g (r 4) (r 7)) at_ (fiO (k_pv (n 9) g (r 4) (r 7)) (n 10) (r 13) at_) 0) (k_nn (r 14) 5) (k_nn (r 15) 5) (r 16) (r 17) (r 18)) V) (cw_eq rfl rfl rfl rfl rfl rfl rfl rfl rfl rfl rfl rfl rfl rfl rfl rfl rfl rfl rfl rfl rfl rfl rfl rfl rfl rfl rfl rfl rfl rfl rfl rfl rfl rfl rfl rfl rfl rfl rfl rfl rfl rfl rfl rfl rfl rfl rfl rfl rfl rfl rfl) ?_
    refine z_up (fun s => Z κ (CW θ ea ad (cnv (n 0) (n 1) (n 2) (n 3) (n 4) (n 5) (n 6) (n 7) (n 8) (n 9) (n 10) (n 11) (n 12) (n 13) (n 14) (n 15) (n 16) (n 17) (n 10) (n 11) 0) g b (crv (r 0) (r 1) (r 2) (r 3) (r 4) (r 5) (r 6) (r 7) (r 8) (r 9) (r 10) (r 11) (r 12) (fiI (k_pv (n 9) g (r 4) (r 7)) at_ (fiO (k_pv (n 9) g (r 4) (r 7)) (n 10) (r 13) at_) s) (k_nn (r 14) 5) (k_nn (r 15) 5) (r 16) (r 17) (r 18)) V) 42 [(0, .ref (ad 0)), (1, .int (nI w)), (2, .int (nI at_)), (3, .int (nI s))] []) (n 10) ?_ ?_ 0 (by omega)
    · refine z_iload_n C dX5_places_42 rfl (show zlk _ 3 = some (.int (nI (n 10))) from rfl) ?_
      refine z_aload_n C dX5_places_43 rfl (show zlk _ 0 = some (.ref (ad 0)) from rfl) ?_
      refine z_get C hinX5 0 cc_0 rfl 1 (by decide) (by decide +kernel) cg_0_1 dX5_places_44 ?_
      refine z_getN C (host := "GnatPortraits") hinX0 3 cc_3 rfl 2 (by decide) (by decide +kernel) ch_3_2 dX5_places_47 ?_
      refine z_icmp_geT C 95 dX5_places_50 (by decide) (by omega) (by omega) (by omega) ?_
      refine z_iincN C [(2, .int (nI (at_ + 1))), (0, .ref (ad 0)), (1, .int (nI w)), (3, .int (nI (n 10)))] dX5_places_95 rfl (by decide) rfl ?_
      refine z_goto C 29 dX5_places_98 (by decide) ?_
      exact z_to (ih29) ((cw_eq rfl rfl rfl rfl rfl rfl rfl rfl rfl rfl rfl rfl rfl rfl rfl rfl rfl rfl rfl rfl rfl rfl rfl rfl rfl rfl rfl rfl rfl rfl rfl rfl rfl rfl rfl rfl rfl rfl rfl rfl rfl rfl rfl rfl rfl rfl rfl rfl rfl rfl rfl)) (rfl)
    · intro s hk42 ih42
      refine z_iload_n C dX5_places_42 rfl (show zlk _ 3 = some (.int (nI s)) from rfl) ?_
      refine z_aload_n C dX5_places_43 rfl (show zlk _ 0 = some (.ref (ad 0)) from rfl) ?_
      refine z_get C hinX5 0 cc_0 rfl 1 (by decide) (by decide +kernel) cg_0_1 dX5_places_44 ?_
      refine z_getN C (host := "GnatPortraits") hinX0 3 cc_3 rfl 2 (by decide) (by decide +kernel) ch_3_2 dX5_places_47 ?_
      refine z_icmp_geF C 95 dX5_places_50 (by decide) (by omega) (by omega) (by omega) ?_
      refine z_aload_n C dX5_places_53 rfl (show zlk _ 0 = some (.ref (ad 0)) from rfl) ?_
      refine z_get C hinX5 0 cc_0 rfl 7 (by decide) (by decide +kernel) cg_0_7 dX5_places_54 ?_
      refine z_getN C (host := "GnatPortraits") hinX3 9 cc_9 rfl 3 (by decide) (by decide +kernel) cg_9_3 dX5_places_57 ?_
      refine z_iload_n C dX5_places_60 rfl (show zlk _ 2 = some (.int (nI at_)) from rfl) ?_
      refine z_bipush C (v := nI 6) dX5_places_61 (by decide) ?_
      refine z_imulN C dX5_places_63 ?_
      refine z_iload_n C dX5_places_64 rfl (show zlk _ 3 = some (.int (nI s)) from rfl) ?_
      refine z_iaddN C dX5_places_65 ?_
      refine z_aload_n C dX5_places_66 rfl (show zlk _ 0 = some (.ref (ad 0)) from rfl) ?_
      refine z_aload_n C dX5_places_67 rfl (show zlk _ 0 = some (.ref (ad 0)) from rfl) ?_
      refine z_get C hinX5 0 cc_0 rfl 1 (by decide) (by decide +kernel) cg_0_1 dX5_places_68 ?_
      refine z_getN C (host := "GnatPortraits") hinX0 3 cc_3 rfl 5 (by decide) (by decide +kernel) cg_3_5 dX5_places_71 ?_
      refine z_iload_n C dX5_places_74 rfl (show zlk _ 3 = some (.int (nI s)) from rfl) ?_
      refine z_iald C (f := (r 4)) 15 cav_15 s rfl (by omega) (by decide) dX5_places_75 ?_
      refine z_aload_n C dX5_places_76 rfl (show zlk _ 0 = some (.ref (ad 0)) from rfl) ?_
      refine z_get C hinX5 0 cc_0 rfl 2 (by decide) (by decide +kernel) cg_0_2 dX5_places_77 ?_
      refine z_getN C (host := "GnatPortraits") hinX1 4 cc_4 rfl 8 (by decide) (by decide +kernel) cg_4_8 dX5_places_80 ?_
      refine z_iload_n C dX5_places_83 rfl (show zlk _ 2 = some (.int (nI at_)) from rfl) ?_
      refine z_iald C (f := (r 7)) 18 cav_18 at_ rfl (by omega) (by decide) dX5_places_84 ?_
      refine z_callVi C (As := [.int ((r 4) s), .int ((r 7) at_)]) (rest := [.int (nI (at_ * 6 + s)), .ref (ad 25)]) (c_X5_drawnBy l θ ea ad (cnv (n 0) (n 1) (n 2) (n 3) (n 4) (n 5) (n 6) (n 7) (n 8) (n 9) (n 10) (n 11) (n 12) (n 13) (n 14) (n 15) (n 16) (n 17) (n 10) (n 11) 0) g b (crv (r 0) (r 1) (r 2) (r 3) (r 4) (r 5) (r 6) (r 7) (r 8) (r 9) (r 10) (r 11) (r 12) (fiI (k_pv (n 9) g (r 4) (r 7)) at_ (fiO (k_pv (n 9) g (r 4) (r 7)) (n 10) (r 13) at_) s) (k_nn (r 14) 5) (k_nn (r 15) 5) (r 16) (r 17) (r 18)) V ((r 4) s) ((r 7) at_) (h9)) gX5_places_X5_drawnBy rfl 2 (by decide +kernel) (by omega) (by decide) 0 rfl rfl rfl rfl rfl (Nat.le_of_ble_eq_true rfl) dX5_places_85 ?_
      rintro _ _ ⟨rfl, rfl⟩
      refine z_top (v' := .int (k_dB (n 9) g ((r 4) s) ((r 7) at_))) rfl ?_
      refine z_iast C (f := (fiI (k_pv (n 9) g (r 4) (r 7)) at_ (fiO (k_pv (n 9) g (r 4) (r 7)) (n 10) (r 13) at_) s)) 25 cav_25 (at_ * 6 + s) rfl (by omega) (by decide) _ csv_25 dX5_places_88 ?_
      refine z_iincN C [(3, .int (nI (s + 1))), (0, .ref (ad 0)), (1, .int (nI w)), (2, .int (nI at_))] dX5_places_89 rfl (by decide) rfl ?_
      refine z_goto C 42 dX5_places_92 (by decide) ?_
      exact z_to (ih42) ((cw_eq rfl rfl rfl rfl rfl rfl rfl rfl rfl rfl rfl rfl rfl rfl rfl rfl rfl rfl rfl rfl rfl rfl rfl rfl rfl rfl rfl rfl rfl rfl rfl rfl rfl rfl rfl rfl rfl rfl rfl rfl rfl rfl rfl rfl rfl rfl rfl rfl rfl rfl rfl)) (rfl)

