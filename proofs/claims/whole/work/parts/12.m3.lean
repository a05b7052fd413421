def scanF (c : Nat → Bool) (L : Nat) : Nat → Nat → Nat
  | 0, p => p
  | d + 1, p => if p < L ∧ c p = true then scanF c L d (p + 1) else p
def scan (c : Nat → Bool) (L p : Nat) : Nat := scanF c L (L - p) p
theorem scan_step {c : Nat → Bool} {L p : Nat} (h : p < L) (hc : c p = true) : scan c L p = scan c L (p + 1) := by
  unfold scan
  obtain ⟨d, hd⟩ : ∃ d, L - p = d + 1 := ⟨L - p - 1, by omega⟩
  rw [hd, show L - (p + 1) = d by omega]
  simp [scanF, h, hc]
theorem scan_stop {c : Nat → Bool} {L p : Nat} (h : ¬ (p < L ∧ c p = true)) : scan c L p = p := by
  unfold scan
  cases hd : L - p with
  | zero => rfl
  | succ d => simp only [scanF]; rw [if_neg h]
theorem scan_ind {c : Nat → Bool} {L : Nat} : ∀ (d p : Nat), L - p = d → p ≤ L → p ≤ scan c L p ∧ scan c L p ≤ L ∧ (scan c L p < L → c (scan c L p) = false) ∧ ∀ q, p ≤ q → q < scan c L p → c q = true := by
  intro d
  induction d with
  | zero =>
    intro p h hp
    have e : p = L := by omega
    rw [scan_stop (by omega)]
    exact ⟨Nat.le_refl _, hp, fun h => by omega, fun q h1 h2 => by omega⟩
  | succ d ih =>
    intro p h hp
    by_cases hc : c p = true
    · rw [scan_step (by omega) hc]
      obtain ⟨h1, h2, h3, h4⟩ := ih (p + 1) (by omega) (by omega)
      refine ⟨by omega, h2, h3, fun q q1 q2 => ?_⟩
      by_cases e : q = p
      · rw [e]; exact hc
      · exact h4 q (by omega) q2
    · rw [scan_stop (fun z => hc z.2)]
      exact ⟨Nat.le_refl _, hp, fun _ => by simpa using hc, fun q h1 h2 => by omega⟩
theorem scan_le {c : Nat → Bool} {L p : Nat} (h : p ≤ L) : p ≤ scan c L p ∧ scan c L p ≤ L := ⟨(scan_ind _ p rfl h).1, (scan_ind _ p rfl h).2.1⟩
def sk (f : Nat → Int32) (L p : Nat) : Nat := scan (fun q => decide (f q = nI 32)) L p
def dgt (c : Int32) : Bool := m_in (Int32.toInt64 c) 48 57
def dE (f : Nat → Int32) (L p : Nat) : Nat := scan (fun q => dgt (f q)) L p
def m_hr (f : Nat → Int32) (L p : Nat) : Int32 := if p < L then f p else (-1)
theorem sk_le {f : Nat → Int32} {L p : Nat} (h : p ≤ L) : p ≤ sk f L p ∧ sk f L p ≤ L := scan_le h
theorem dE_le {f : Nat → Int32} {L p : Nat} (h : p ≤ L) : p ≤ dE f L p ∧ dE f L p ≤ L := scan_le h
def dig (c : Int32) : Nat := (c.toInt - 48).toNat
theorem dgt_int {c : Int32} (h : dgt c = true) : 48 ≤ c.toInt ∧ c.toInt ≤ 57 := by
  unfold dgt m_in at h
  rw [Int32.toInt_toInt64] at h
  simp only [Bool.and_eq_true, decide_eq_true_eq] at h
  have e1 : Int64.toInt 48 = 48 := by decide
  have e2 : Int64.toInt 57 = 57 := by decide
  rw [e1, e2] at h
  exact h
theorem dig_nI {c : Int32} (h : dgt c = true) : c = nI (48 + dig c) ∧ dig c ≤ 9 := by
  obtain ⟨h1, h2⟩ := dgt_int h
  unfold dig
  refine ⟨?_, by omega⟩
  rw [zf_eq, nI_toInt (by omega)]
  omega
theorem dig_add {c : Int32} (a : Nat) (h : dgt c = true) : nI a + c - nI 48 = nI (a + dig c) := by
  have e := (dig_nI h).1
  rw [e, nI_add, pk_sub (by omega)]
  congr 1
  have : dig (nI (48 + dig c)) = dig c := by rw [← e]
  omega
def m_num (f : Nat → Int32) (p : Nat) : Nat → Nat
  | 0 => 0
  | k + 1 => if m_num f p k ≤ 10000 then 10 * m_num f p k + dig (f (p + k)) else m_num f p k
set_option maxHeartbeats 4000000 in
set_option maxRecDepth 100000 in
theorem c_X6_here (l : Launch) (θ : zH) (ad : Nat → Nat) (n : Nat → Nat) (g : Int32) (r : Nat → Nat → Int32)  (hp : n 12 ≤ n 10) (hL : n 10 ≤ 240) : cI l yX6_here wsX6_here 0 θ [.ref (ad 0)] (MW θ ad n g r) (fun r0 Y => ∃ p1, p1 = sk (r 9) (n 10) (n 12) ∧ r0 = m_hr (r 9) (n 10) p1 ∧ Y = MW θ ad (va_up n 12 p1) g r) := by
  refine z_cI (by decide) rfl rfl (Nat.le_of_ble_eq_true rfl) (lv := [(0, .ref (ad 0))]) rfl (fun κ C E => ?_)
  have hin : ∀ w ∈ wsX60, w ∈ wsX6_here := by decide +kernel
  refine z_lv (lv' := [(0, .ref (ad 0))]) rfl ?_
  refine z_X (Y := MW θ ad (nv (n 0) (n 1) (n 3) (n 5) (n 8) (n 10) (n 12) (n 13) (n 14) (n 15) (n 16) (n 18) (n 20) (n 22) (n 27)) g r) (mw_eq rfl rfl rfl rfl rfl rfl rfl rfl rfl rfl rfl rfl rfl rfl rfl rfl rfl rfl rfl rfl rfl rfl rfl rfl rfl rfl rfl rfl rfl rfl rfl rfl) ?_
  refine z_up (fun p => sk (r 9) (n 10) p = sk (r 9) (n 10) (n 12) → Z κ (MW θ ad (nv (n 0) (n 1) (n 3) (n 5) (n 8) (n 10) p (n 13) (n 14) (n 15) (n 16) (n 18) (n 20) (n 22) (n 27)) g r) 0 [(0, .ref (ad 0))] []) (n 10) ?_ ?_ (n 12) (by omega) (rfl)
  · intro hinv0
    refine z_aload_n C dX6_here_0 rfl (show zlk _ 0 = some (.ref (ad 0)) from rfl) ?_
    refine z_mg C hin 12 (by decide) (by decide +kernel) (v := .int (nI (n 10))) mfv_12 dX6_here_1 ?_
    refine z_aload_n C dX6_here_4 rfl (show zlk _ 0 = some (.ref (ad 0)) from rfl) ?_
    refine z_mg C hin 10 (by decide) (by decide +kernel) (v := .int (nI (n 10))) mfv_10 dX6_here_5 ?_
    refine z_icmp_geT C 38 dX6_here_8 (by decide) (by omega) (by omega) (by omega) ?_
    have hq := hinv0.symm.trans (scan_stop (c := fun q => decide (r 9 q = nI 32)) (L := n 10) (p := n 10) (by simp))
    refine z_aload_n C dX6_here_38 rfl (show zlk _ 0 = some (.ref (ad 0)) from rfl) ?_
    refine z_mg C hin 12 (by decide) (by decide +kernel) (v := .int (nI (n 10))) mfv_12 dX6_here_39 ?_
    refine z_aload_n C dX6_here_42 rfl (show zlk _ 0 = some (.ref (ad 0)) from rfl) ?_
    refine z_mg C hin 10 (by decide) (by decide +kernel) (v := .int (nI (n 10))) mfv_10 dX6_here_43 ?_
    refine z_icmp_geN C 61 dX6_here_46 (by decide) (by omega) (by omega) (fun h46t_1 => ?_) (fun h46n_1 => ?_)
    · refine z_iconst C (v := (-1)) dX6_here_61 (by decide) ?_
      exact E _ _ _ _ (⟨_, rfl, by rw [hq]; unfold m_hr; rw [if_neg (by omega)], by rw [hq]; exact (mw_eq rfl rfl rfl rfl rfl rfl rfl rfl rfl rfl rfl rfl rfl rfl rfl rfl rfl rfl rfl rfl rfl rfl rfl rfl rfl rfl rfl rfl rfl rfl rfl rfl)⟩) (rfl) dX6_here_62
    · refine z_aload_n C dX6_here_49 rfl (show zlk _ 0 = some (.ref (ad 0)) from rfl) ?_
      refine z_mg C hin 9 (by decide) (by decide +kernel) (v := .ref (ad 9)) mf_9 dX6_here_50 ?_
      refine z_aload_n C dX6_here_53 rfl (show zlk _ 0 = some (.ref (ad 0)) from rfl) ?_
      refine z_mg C hin 12 (by decide) (by decide +kernel) (v := .int (nI (n 10))) mfv_12 dX6_here_54 ?_
      refine z_iald C (f := (r 9)) 5 mr_9 (n 10) rfl (by omega) (by decide) dX6_here_57 ?_
      refine z_goto C 62 dX6_here_58 (by decide) ?_
      exact E _ _ _ _ (⟨_, rfl, by rw [hq]; unfold m_hr; rw [if_pos (by omega)], by rw [hq]; exact (mw_eq rfl rfl rfl rfl rfl rfl rfl rfl rfl rfl rfl rfl rfl rfl rfl rfl rfl rfl rfl rfl rfl rfl rfl rfl rfl rfl rfl rfl rfl rfl rfl rfl)⟩) (rfl) dX6_here_62
  · intro p hk0 ih0
    intro hinv0
    refine z_aload_n C dX6_here_0 rfl (show zlk _ 0 = some (.ref (ad 0)) from rfl) ?_
    refine z_mg C hin 12 (by decide) (by decide +kernel) (v := .int (nI p)) mfv_12 dX6_here_1 ?_
    refine z_aload_n C dX6_here_4 rfl (show zlk _ 0 = some (.ref (ad 0)) from rfl) ?_
    refine z_mg C hin 10 (by decide) (by decide +kernel) (v := .int (nI (n 10))) mfv_10 dX6_here_5 ?_
    refine z_icmp_geF C 38 dX6_here_8 (by decide) (by omega) (by omega) (by omega) ?_
    refine z_aload_n C dX6_here_11 rfl (show zlk _ 0 = some (.ref (ad 0)) from rfl) ?_
    refine z_mg C hin 9 (by decide) (by decide +kernel) (v := .ref (ad 9)) mf_9 dX6_here_12 ?_
    refine z_aload_n C dX6_here_15 rfl (show zlk _ 0 = some (.ref (ad 0)) from rfl) ?_
    refine z_mg C hin 12 (by decide) (by decide +kernel) (v := .int (nI p)) mfv_12 dX6_here_16 ?_
    refine z_iald C (f := (r 9)) 5 mr_9 p rfl (by omega) (by decide) dX6_here_19 ?_
    refine z_bipush C (v := nI 32) dX6_here_20 (by decide) ?_
    refine z_icmp_ne C 38 dX6_here_22 (by decide) (fun h22t_2 => ?_) (fun h22n_2 => ?_)
    · have hq := hinv0.symm.trans (scan_stop (c := fun q => decide (r 9 q = nI 32)) (L := n 10) (p := p) (by simp [h22t_2]))
      refine z_aload_n C dX6_here_38 rfl (show zlk _ 0 = some (.ref (ad 0)) from rfl) ?_
      refine z_mg C hin 12 (by decide) (by decide +kernel) (v := .int (nI p)) mfv_12 dX6_here_39 ?_
      refine z_aload_n C dX6_here_42 rfl (show zlk _ 0 = some (.ref (ad 0)) from rfl) ?_
      refine z_mg C hin 10 (by decide) (by decide +kernel) (v := .int (nI (n 10))) mfv_10 dX6_here_43 ?_
      refine z_icmp_geN C 61 dX6_here_46 (by decide) (by omega) (by omega) (fun h46t_3 => ?_) (fun h46n_3 => ?_)
      · refine z_iconst C (v := (-1)) dX6_here_61 (by decide) ?_
        exact E _ _ _ _ (⟨_, rfl, by rw [hq]; unfold m_hr; rw [if_neg (by omega)], by rw [hq]; exact (mw_eq rfl rfl rfl rfl rfl rfl rfl rfl rfl rfl rfl rfl rfl rfl rfl rfl rfl rfl rfl rfl rfl rfl rfl rfl rfl rfl rfl rfl rfl rfl rfl rfl)⟩) (rfl) dX6_here_62
      · refine z_aload_n C dX6_here_49 rfl (show zlk _ 0 = some (.ref (ad 0)) from rfl) ?_
        refine z_mg C hin 9 (by decide) (by decide +kernel) (v := .ref (ad 9)) mf_9 dX6_here_50 ?_
        refine z_aload_n C dX6_here_53 rfl (show zlk _ 0 = some (.ref (ad 0)) from rfl) ?_
        refine z_mg C hin 12 (by decide) (by decide +kernel) (v := .int (nI p)) mfv_12 dX6_here_54 ?_
        refine z_iald C (f := (r 9)) 5 mr_9 p rfl (by omega) (by decide) dX6_here_57 ?_
        refine z_goto C 62 dX6_here_58 (by decide) ?_
        exact E _ _ _ _ (⟨_, rfl, by rw [hq]; unfold m_hr; rw [if_pos (by omega)], by rw [hq]; exact (mw_eq rfl rfl rfl rfl rfl rfl rfl rfl rfl rfl rfl rfl rfl rfl rfl rfl rfl rfl rfl rfl rfl rfl rfl rfl rfl rfl rfl rfl rfl rfl rfl rfl)⟩) (rfl) dX6_here_62
    · refine z_aload_n C dX6_here_25 rfl (show zlk _ 0 = some (.ref (ad 0)) from rfl) ?_
      refine z_dup C dX6_here_26 rfl ?_
      refine z_mg C hin 12 (by decide) (by decide +kernel) (v := .int (nI p)) mfv_12 dX6_here_27 ?_
      refine z_iconst C (v := nI 1) dX6_here_30 (by decide) ?_
      refine z_iaddN C dX6_here_31 ?_
      refine z_mp C hin 12 (by decide) (by decide +kernel) rfl rfl mpv_12 dX6_here_32 ?_
      refine z_goto C 0 dX6_here_35 (by decide) ?_
      exact z_to (ih0 (by rw [← hinv0]; exact (scan_step (c := fun q => decide (r 9 q = nI 32)) (by omega) (by simp [hinv0, h22n_2])).symm)) ((mw_eq rfl rfl rfl rfl rfl rfl rfl rfl rfl rfl rfl rfl rfl rfl rfl rfl rfl rfl rfl rfl rfl rfl rfl rfl rfl rfl rfl rfl rfl rfl rfl rfl)) (rfl)

set_option maxHeartbeats 4000000 in
set_option maxRecDepth 100000 in
theorem c_X6_fails (l : Launch) (θ : zH) (ad : Nat → Nat) (n : Nat → Nat) (g : Int32) (r : Nat → Nat → Int32) (c p : Nat) : cI l yX6_fails wsX6_fails 0 θ [.ref (ad 0), .int (nI c), .int (nI p)] (MW θ ad n g r) (fun r0 Y => r0 = nI c ∧ Y = MW θ ad n (nI p) r) := by
  refine z_cI (by decide) rfl rfl (Nat.le_of_ble_eq_true rfl) (lv := [(0, .ref (ad 0)), (1, .int (nI c)), (2, .int (nI p))]) rfl (fun κ C E => ?_)
  have hin : ∀ w ∈ wsX60, w ∈ wsX6_fails := by decide +kernel
  refine z_aload_n C dX6_fails_0 rfl (show zlk _ 0 = some (.ref (ad 0)) from rfl) ?_
  refine z_iload_n C dX6_fails_1 rfl (show zlk _ 2 = some (.int (nI p)) from rfl) ?_
  refine z_mp C hin 11 (by decide) (by decide +kernel) rfl rfl mp_11 dX6_fails_2 ?_
  refine z_iload_n C dX6_fails_5 rfl (show zlk _ 1 = some (.int (nI c)) from rfl) ?_
  exact E _ _ _ _ (⟨rfl, rfl⟩) (rfl) dX6_fails_6

theorem dgt_m1 : dgt (-1) = false := by decide
theorem m_num_le (f : Nat → Int32) (p : Nat) : ∀ k, (∀ i, i < k → dgt (f (p + i)) = true) → m_num f p k ≤ 100009
  | 0, _ => by unfold m_num; omega
  | k + 1, h => by
    have h1 := m_num_le f p k (fun i hi => h i (by omega))
    have h2 := (dig_nI (h k (by omega))).2
    unfold m_num
    split <;> omega
/-- the end of a number at p, its value -/
def nE (f : Nat → Int32) (L p : Nat) : Nat := dE f L (sk f L p)
def nV (f : Nat → Int32) (L p : Nat) : Nat := m_num f (sk f L p) (nE f L p - sk f L p)
def nOk (f : Nat → Int32) (L p : Nat) : Bool := dgt (m_hr f L (sk f L p))
def nBad (f : Nat → Int32) (L p lo hi : Nat) : Prop := 3 < nE f L p - sk f L p ∨ nV f L p < lo ∨ hi < nV f L p
theorem m_in_nI {v lo hi : Nat} (h1 : v < 2 ^ 31) (h2 : lo < 2 ^ 31) (h3 : hi < 2 ^ 31) : m_in (Int32.toInt64 (nI v)) (Int32.toInt64 (nI lo)) (Int32.toInt64 (nI hi)) = (decide (lo ≤ v) && decide (v ≤ hi)) := by
  unfold m_in
  rw [Int32.toInt_toInt64, Int32.toInt_toInt64, Int32.toInt_toInt64, nI_toInt h1, nI_toInt h2, nI_toInt h3]
  simp
theorem nBad_of {a v lo hi : Nat} (_ : ¬ 3 < a) (h2 : lo < 2 ^ 31) (h3 : hi < 2 ^ 31) (h1 : v ≤ 100009) (h : m_in (Int32.toInt64 (nI v)) (Int32.toInt64 (nI lo)) (Int32.toInt64 (nI hi)) = false) : 3 < a ∨ v < lo ∨ hi < v := by
  rw [m_in_nI (by omega) h2 h3] at h
  simp only [Bool.and_eq_false_iff, decide_eq_false_iff_not] at h
  omega
theorem nGood_of {a v lo hi : Nat} (h0 : ¬ 3 < a) (h2 : lo < 2 ^ 31) (h3 : hi < 2 ^ 31) (h1 : v ≤ 100009) (h : m_in (Int32.toInt64 (nI v)) (Int32.toInt64 (nI lo)) (Int32.toInt64 (nI hi)) = true) : ¬ (3 < a ∨ v < lo ∨ hi < v) := by
  rw [m_in_nI (by omega) h2 h3] at h
  simp only [Bool.and_eq_true, decide_eq_true_eq] at h
  omega
set_option maxHeartbeats 4000000 in
set_option maxRecDepth 100000 in
theorem c_X6_takeNumber (l : Launch) (θ : zH) (ad : Nat → Nat) (n : Nat → Nat) (g : Int32) (r : Nat → Nat → Int32) (lo hi : Nat) (hp : n 12 ≤ n 10) (hL : n 10 ≤ 240) (hlo : lo < 2 ^ 31) (hhi : hi < 2 ^ 31) : cI l yX6_takeNumber wsX6_takeNumber 1 θ [.ref (ad 0), .int (nI lo), .int (nI hi)] (MW θ ad n g r) (fun r0 Y => ∃ p1 p2 v, p1 = sk (r 9) (n 10) (n 12) ∧ p2 = nE (r 9) (n 10) (n 12) ∧ v = nV (r 9) (n 10) (n 12) ∧ ((nOk (r 9) (n 10) (n 12) = false ∧ r0 = nI 1 ∧ Y = MW θ ad (va_up n 12 p1) (nI p1) r) ∨ (nOk (r 9) (n 10) (n 12) = true ∧ nBad (r 9) (n 10) (n 12) lo hi ∧ r0 = nI 2 ∧ Y = MW θ ad (va_up (va_up (va_up n 12 p2) 13 v) 14 p1) (nI p1) r) ∨ (nOk (r 9) (n 10) (n 12) = true ∧ ¬ nBad (r 9) (n 10) (n 12) lo hi ∧ r0 = nI 0 ∧ Y = MW θ ad (va_up (va_up (va_up n 12 p2) 13 v) 14 p1) g r))) := by
  refine z_cI (by decide) rfl rfl (Nat.le_of_ble_eq_true rfl) (lv := [(0, .ref (ad 0)), (1, .int (nI lo)), (2, .int (nI hi))]) rfl (fun κ C E => ?_)
  have hin : ∀ w ∈ wsX60, w ∈ wsX6_takeNumber := by decide +kernel
  refine z_aload_n C dX6_takeNumber_0 rfl (show zlk _ 0 = some (.ref (ad 0)) from rfl) ?_
  refine z_callVi C (As := []) (rest := []) (c_X6_here l θ ad n g r (show n 12 ≤ n 10 by omega) (hL)) gX6_takeNumber_X6_here rfl 0 (by decide +kernel) (by decide) (by decide) 0 rfl rfl rfl rfl rfl (Nat.le_of_ble_eq_true rfl) dX6_takeNumber_1 ?_
  rintro _ _ ⟨ph1, eh1, rfl, rfl⟩
  replace eh1 : ph1 = sk (r 9) (n 10) (n 12) := eh1
  have lh1 : ph1 ≤ n 10 := by rw [eh1]; exact (sk_le (by omega)).2
  refine z_X (Y := MW θ ad (nv (n 0) (n 1) (n 3) (n 5) (n 8) (n 10) ph1 (n 13) (n 14) (n 15) (n 16) (n 18) (n 20) (n 22) (n 27)) g r) (mw_eq rfl rfl rfl rfl rfl rfl rfl rfl rfl rfl rfl rfl rfl rfl rfl rfl rfl rfl rfl rfl rfl rfl rfl rfl rfl rfl rfl rfl rfl rfl rfl rfl) ?_
  refine z_istore_n C [(3, .int (m_hr (r 9) (n 10) ph1)), (0, .ref (ad 0)), (1, .int (nI lo)), (2, .int (nI hi))] dX6_takeNumber_4 rfl (by decide) rfl ?_
  refine z_iload_n C dX6_takeNumber_5 rfl (show zlk _ 3 = some (.int (m_hr (r 9) (n 10) ph1)) from rfl) ?_
  refine z_i2l C dX6_takeNumber_6 ?_
  refine z_ldc2 C (v := 48) (by decide +kernel) dX6_takeNumber_7 ?_
  refine z_ldc2 C (v := 57) (by decide +kernel) dX6_takeNumber_10 ?_
  refine z_callSi C (As := [.long (Int32.toInt64 (m_hr (r 9) (n 10) ph1)), .long (48), .long (57)]) (rest := []) (c_X6_in l θ _ (Int32.toInt64 (m_hr (r 9) (n 10) ph1)) (48) (57)) gX6_takeNumber_X6_in rfl 3 (by decide +kernel) (by decide) (by decide) rfl rfl (Nat.le_of_ble_eq_true rfl) dX6_takeNumber_13 ?_
  rintro _ _ ⟨rfl, rfl⟩
  refine z_top (v' := .int (bI (m_in (Int32.toInt64 (m_hr (r 9) (n 10) ph1)) (48) (57)))) rfl ?_
  refine z_if_neB C 29 dX6_takeNumber_16 (by decide) (fun h16t_1 => ?_) (fun h16n_1 => ?_)
  · have hsk := sk_le (f := r 9) (L := n 10) hp
    rw [← eh1] at hsk
    have hok : nOk (r 9) (n 10) (n 12) = true := by unfold nOk; rw [← eh1]; exact h16t_1
    refine z_aload_n C dX6_takeNumber_29 rfl (show zlk _ 0 = some (.ref (ad 0)) from rfl) ?_
    refine z_aload_n C dX6_takeNumber_30 rfl (show zlk _ 0 = some (.ref (ad 0)) from rfl) ?_
    refine z_mg C hin 12 (by decide) (by decide +kernel) (v := .int (nI ph1)) mfv_12 dX6_takeNumber_31 ?_
    refine z_mp C hin 14 (by decide) (by decide +kernel) rfl rfl mpv_14 dX6_takeNumber_34 ?_
    refine z_aload_n C dX6_takeNumber_37 rfl (show zlk _ 0 = some (.ref (ad 0)) from rfl) ?_
    refine z_iconst C (v := nI 0) dX6_takeNumber_38 (by decide) ?_
    refine z_mp C hin 13 (by decide) (by decide +kernel) rfl rfl mpv_13 dX6_takeNumber_39 ?_
    refine z_lv (lv' := [(0, .ref (ad 0)), (1, .int (nI lo)), (2, .int (nI hi))]) rfl ?_
    refine z_X (Y := MW θ ad (nv (n 0) (n 1) (n 3) (n 5) (n 8) (n 10) ph1 (m_num (r 9) (ph1) (ph1 - ph1)) ph1 (n 15) (n 16) (n 18) (n 20) (n 22) (n 27)) g r) (by rw [Nat.sub_self]; exact (mw_eq rfl rfl rfl rfl rfl rfl rfl rfl rfl rfl rfl rfl rfl rfl rfl rfl rfl rfl rfl rfl rfl rfl rfl rfl rfl rfl rfl rfl rfl rfl rfl rfl)) ?_
    refine z_up (fun p => dE (r 9) (n 10) p = nE (r 9) (n 10) (n 12) ∧ ph1 ≤ p ∧ (∀ q, ph1 ≤ q → q < p → dgt (r 9 q) = true) → Z κ (MW θ ad (nv (n 0) (n 1) (n 3) (n 5) (n 8) (n 10) p (m_num (r 9) (ph1) (p - ph1)) ph1 (n 15) (n 16) (n 18) (n 20) (n 22) (n 27)) g r) 42 [(0, .ref (ad 0)), (1, .int (nI lo)), (2, .int (nI hi))] []) (n 10) ?_ ?_ ph1 (by omega) (⟨by rw [eh1]; rfl, Nat.le_refl _, fun q q1 q2 => by omega⟩)
    · intro hinv42
      refine z_aload_n C dX6_takeNumber_42 rfl (show zlk _ 0 = some (.ref (ad 0)) from rfl) ?_
      refine z_mg C hin 12 (by decide) (by decide +kernel) (v := .int (nI (n 10))) mfv_12 dX6_takeNumber_43 ?_
      refine z_aload_n C dX6_takeNumber_46 rfl (show zlk _ 0 = some (.ref (ad 0)) from rfl) ?_
      refine z_mg C hin 10 (by decide) (by decide +kernel) (v := .int (nI (n 10))) mfv_10 dX6_takeNumber_47 ?_
      refine z_icmp_geT C 129 dX6_takeNumber_50 (by decide) (by omega) (by omega) (by omega) ?_
      have hq : nE (r 9) (n 10) (n 12) = n 10 := hinv42.1.symm.trans (scan_stop (c := fun q => dgt (r 9 q)) (L := n 10) (p := n 10) (by simp))
      have hnl : m_num (r 9) (ph1) (n 10 - ph1) ≤ 100009 := m_num_le _ _ _ (fun i hi => hinv42.2.2 _ (by omega) (by omega))
      refine z_aload_n C dX6_takeNumber_129 rfl (show zlk _ 0 = some (.ref (ad 0)) from rfl) ?_
      refine z_mg C hin 12 (by decide) (by decide +kernel) (v := .int (nI (n 10))) mfv_12 dX6_takeNumber_130 ?_
      refine z_aload_n C dX6_takeNumber_133 rfl (show zlk _ 0 = some (.ref (ad 0)) from rfl) ?_
      refine z_mg C hin 14 (by decide) (by decide +kernel) (v := .int (nI ph1)) mfv_14 dX6_takeNumber_134 ?_
      refine z_isubN C dX6_takeNumber_137 (by omega) ?_
      refine z_iconst C (v := nI 3) dX6_takeNumber_138 (by decide) ?_
      refine z_icmp_gtN C 157 dX6_takeNumber_139 (by decide) (by omega) (by omega) (fun h139t_2 => ?_) (fun h139n_2 => ?_)
      · refine z_aload_n C dX6_takeNumber_157 rfl (show zlk _ 0 = some (.ref (ad 0)) from rfl) ?_
        refine z_iconst C (v := nI 2) dX6_takeNumber_158 (by decide) ?_
        refine z_aload_n C dX6_takeNumber_159 rfl (show zlk _ 0 = some (.ref (ad 0)) from rfl) ?_
        refine z_mg C hin 14 (by decide) (by decide +kernel) (v := .int (nI ph1)) mfv_14 dX6_takeNumber_160 ?_
        refine z_callVi C (As := [.int (nI 2), .int (nI ph1)]) (rest := []) (c_X6_fails l θ ad (nv (n 0) (n 1) (n 3) (n 5) (n 8) (n 10) (n 10) (m_num (r 9) (ph1) (n 10 - ph1)) ph1 (n 15) (n 16) (n 18) (n 20) (n 22) (n 27)) g r 2 ph1) gX6_takeNumber_X6_fails rfl 2 (by decide +kernel) (by decide) (by decide) 0 rfl rfl rfl rfl rfl (Nat.le_of_ble_eq_true rfl) dX6_takeNumber_163 ?_
        rintro _ _ ⟨rfl, rfl⟩
        refine z_top (v' := .int (nI 2)) rfl ?_
        refine z_X (Y := MW θ ad (nv (n 0) (n 1) (n 3) (n 5) (n 8) (n 10) (n 10) (m_num (r 9) (ph1) (n 10 - ph1)) ph1 (n 15) (n 16) (n 18) (n 20) (n 22) (n 27)) (nI ph1) r) (mw_eq rfl rfl rfl rfl rfl rfl rfl rfl rfl rfl rfl rfl rfl rfl rfl rfl rfl rfl rfl rfl rfl rfl rfl rfl rfl rfl rfl rfl rfl rfl rfl rfl) ?_
        refine z_goto C 170 dX6_takeNumber_166 (by decide) ?_
        exact E _ _ _ _ (⟨_, _, _, eh1, rfl, by rw [nV, hq, ← eh1], Or.inr (Or.inl ⟨hok, by unfold nBad nV; rw [hq, ← eh1]; exact Or.inl h139t_2, rfl, by rw [hq]; exact (mw_eq rfl rfl rfl rfl rfl rfl rfl rfl rfl rfl rfl rfl rfl rfl rfl rfl rfl rfl rfl rfl rfl rfl rfl rfl rfl rfl rfl rfl rfl rfl rfl rfl)⟩)⟩) (rfl) dX6_takeNumber_170
      · refine z_aload_n C dX6_takeNumber_142 rfl (show zlk _ 0 = some (.ref (ad 0)) from rfl) ?_
        refine z_mg C hin 13 (by decide) (by decide +kernel) (v := .int (nI (m_num (r 9) (ph1) (n 10 - ph1)))) mfv_13 dX6_takeNumber_143 ?_
        refine z_i2l C dX6_takeNumber_146 ?_
        refine z_iload_n C dX6_takeNumber_147 rfl (show zlk _ 1 = some (.int (nI lo)) from rfl) ?_
        refine z_i2l C dX6_takeNumber_148 ?_
        refine z_iload_n C dX6_takeNumber_149 rfl (show zlk _ 2 = some (.int (nI hi)) from rfl) ?_
        refine z_i2l C dX6_takeNumber_150 ?_
        refine z_callSi C (As := [.long (Int32.toInt64 (nI (m_num (r 9) (ph1) (n 10 - ph1)))), .long (Int32.toInt64 (nI lo)), .long (Int32.toInt64 (nI hi))]) (rest := []) (c_X6_in l θ _ (Int32.toInt64 (nI (m_num (r 9) (ph1) (n 10 - ph1)))) (Int32.toInt64 (nI lo)) (Int32.toInt64 (nI hi))) gX6_takeNumber_X6_in rfl 3 (by decide +kernel) (by decide) (by decide) rfl rfl (Nat.le_of_ble_eq_true rfl) dX6_takeNumber_151 ?_
        rintro _ _ ⟨rfl, rfl⟩
        refine z_top (v' := .int (bI (m_in (Int32.toInt64 (nI (m_num (r 9) (ph1) (n 10 - ph1)))) (Int32.toInt64 (nI lo)) (Int32.toInt64 (nI hi))))) rfl ?_
        refine z_if_neB C 169 dX6_takeNumber_154 (by decide) (fun h154t_3 => ?_) (fun h154n_3 => ?_)
        · refine z_iconst C (v := nI 0) dX6_takeNumber_169 (by decide) ?_
          exact E _ _ _ _ (⟨_, _, _, eh1, rfl, by rw [nV, hq, ← eh1], Or.inr (Or.inr ⟨hok, by unfold nBad nV; rw [hq, ← eh1]; exact nGood_of (by omega) hlo hhi hnl h154t_3, rfl, by rw [hq]; exact (mw_eq rfl rfl rfl rfl rfl rfl rfl rfl rfl rfl rfl rfl rfl rfl rfl rfl rfl rfl rfl rfl rfl rfl rfl rfl rfl rfl rfl rfl rfl rfl rfl rfl)⟩)⟩) (rfl) dX6_takeNumber_170
        · refine z_aload_n C dX6_takeNumber_157 rfl (show zlk _ 0 = some (.ref (ad 0)) from rfl) ?_
          refine z_iconst C (v := nI 2) dX6_takeNumber_158 (by decide) ?_
          refine z_aload_n C dX6_takeNumber_159 rfl (show zlk _ 0 = some (.ref (ad 0)) from rfl) ?_
          refine z_mg C hin 14 (by decide) (by decide +kernel) (v := .int (nI ph1)) mfv_14 dX6_takeNumber_160 ?_
          refine z_callVi C (As := [.int (nI 2), .int (nI ph1)]) (rest := []) (c_X6_fails l θ ad (nv (n 0) (n 1) (n 3) (n 5) (n 8) (n 10) (n 10) (m_num (r 9) (ph1) (n 10 - ph1)) ph1 (n 15) (n 16) (n 18) (n 20) (n 22) (n 27)) g r 2 ph1) gX6_takeNumber_X6_fails rfl 2 (by decide +kernel) (by decide) (by decide) 0 rfl rfl rfl rfl rfl (Nat.le_of_ble_eq_true rfl) dX6_takeNumber_163 ?_
          rintro _ _ ⟨rfl, rfl⟩
          refine z_top (v' := .int (nI 2)) rfl ?_
          refine z_X (Y := MW θ ad (nv (n 0) (n 1) (n 3) (n 5) (n 8) (n 10) (n 10) (m_num (r 9) (ph1) (n 10 - ph1)) ph1 (n 15) (n 16) (n 18) (n 20) (n 22) (n 27)) (nI ph1) r) (mw_eq rfl rfl rfl rfl rfl rfl rfl rfl rfl rfl rfl rfl rfl rfl rfl rfl rfl rfl rfl rfl rfl rfl rfl rfl rfl rfl rfl rfl rfl rfl rfl rfl) ?_
          refine z_goto C 170 dX6_takeNumber_166 (by decide) ?_
          exact E _ _ _ _ (⟨_, _, _, eh1, rfl, by rw [nV, hq, ← eh1], Or.inr (Or.inl ⟨hok, by unfold nBad nV; rw [hq, ← eh1]; exact nBad_of (by omega) hlo hhi hnl h154n_3, rfl, by rw [hq]; exact (mw_eq rfl rfl rfl rfl rfl rfl rfl rfl rfl rfl rfl rfl rfl rfl rfl rfl rfl rfl rfl rfl rfl rfl rfl rfl rfl rfl rfl rfl rfl rfl rfl rfl)⟩)⟩) (rfl) dX6_takeNumber_170
    · intro p hk42 ih42
      intro hinv42
      refine z_aload_n C dX6_takeNumber_42 rfl (show zlk _ 0 = some (.ref (ad 0)) from rfl) ?_
      refine z_mg C hin 12 (by decide) (by decide +kernel) (v := .int (nI p)) mfv_12 dX6_takeNumber_43 ?_
      refine z_aload_n C dX6_takeNumber_46 rfl (show zlk _ 0 = some (.ref (ad 0)) from rfl) ?_
      refine z_mg C hin 10 (by decide) (by decide +kernel) (v := .int (nI (n 10))) mfv_10 dX6_takeNumber_47 ?_
      refine z_icmp_geF C 129 dX6_takeNumber_50 (by decide) (by omega) (by omega) (by omega) ?_
      refine z_aload_n C dX6_takeNumber_53 rfl (show zlk _ 0 = some (.ref (ad 0)) from rfl) ?_
      refine z_mg C hin 9 (by decide) (by decide +kernel) (v := .ref (ad 9)) mf_9 dX6_takeNumber_54 ?_
      refine z_aload_n C dX6_takeNumber_57 rfl (show zlk _ 0 = some (.ref (ad 0)) from rfl) ?_
      refine z_mg C hin 12 (by decide) (by decide +kernel) (v := .int (nI p)) mfv_12 dX6_takeNumber_58 ?_
      refine z_iald C (f := (r 9)) 5 mr_9 p rfl (by omega) (by decide) dX6_takeNumber_61 ?_
      refine z_i2l C dX6_takeNumber_62 ?_
      refine z_ldc2 C (v := 48) (by decide +kernel) dX6_takeNumber_63 ?_
      refine z_ldc2 C (v := 57) (by decide +kernel) dX6_takeNumber_66 ?_
      refine z_callSi C (As := [.long (Int32.toInt64 ((r 9) p)), .long (48), .long (57)]) (rest := []) (c_X6_in l θ _ (Int32.toInt64 ((r 9) p)) (48) (57)) gX6_takeNumber_X6_in rfl 3 (by decide +kernel) (by decide) (by decide) rfl rfl (Nat.le_of_ble_eq_true rfl) dX6_takeNumber_69 ?_
      rintro _ _ ⟨rfl, rfl⟩
      refine z_top (v' := .int (bI (m_in (Int32.toInt64 ((r 9) p)) (48) (57)))) rfl ?_
      refine z_if_eqB C 129 dX6_takeNumber_72 (by decide) (fun h72t_4 => ?_) (fun h72n_4 => ?_)
      · have hq : nE (r 9) (n 10) (n 12) = p := hinv42.1.symm.trans (scan_stop (c := fun q => dgt (r 9 q)) (L := n 10) (p := p) (by simp [dgt, h72t_4]))
        have hnl : m_num (r 9) (ph1) (p - ph1) ≤ 100009 := m_num_le _ _ _ (fun i hi => hinv42.2.2 _ (by omega) (by omega))
        refine z_aload_n C dX6_takeNumber_129 rfl (show zlk _ 0 = some (.ref (ad 0)) from rfl) ?_
        refine z_mg C hin 12 (by decide) (by decide +kernel) (v := .int (nI p)) mfv_12 dX6_takeNumber_130 ?_
        refine z_aload_n C dX6_takeNumber_133 rfl (show zlk _ 0 = some (.ref (ad 0)) from rfl) ?_
        refine z_mg C hin 14 (by decide) (by decide +kernel) (v := .int (nI ph1)) mfv_14 dX6_takeNumber_134 ?_
        refine z_isubN C dX6_takeNumber_137 (by omega) ?_
        refine z_iconst C (v := nI 3) dX6_takeNumber_138 (by decide) ?_
        refine z_icmp_gtN C 157 dX6_takeNumber_139 (by decide) (by omega) (by omega) (fun h139t_5 => ?_) (fun h139n_5 => ?_)
        · refine z_aload_n C dX6_takeNumber_157 rfl (show zlk _ 0 = some (.ref (ad 0)) from rfl) ?_
          refine z_iconst C (v := nI 2) dX6_takeNumber_158 (by decide) ?_
          refine z_aload_n C dX6_takeNumber_159 rfl (show zlk _ 0 = some (.ref (ad 0)) from rfl) ?_
          refine z_mg C hin 14 (by decide) (by decide +kernel) (v := .int (nI ph1)) mfv_14 dX6_takeNumber_160 ?_
          refine z_callVi C (As := [.int (nI 2), .int (nI ph1)]) (rest := []) (c_X6_fails l θ ad (nv (n 0) (n 1) (n 3) (n 5) (n 8) (n 10) p (m_num (r 9) (ph1) (p - ph1)) ph1 (n 15) (n 16) (n 18) (n 20) (n 22) (n 27)) g r 2 ph1) gX6_takeNumber_X6_fails rfl 2 (by decide +kernel) (by decide) (by decide) 0 rfl rfl rfl rfl rfl (Nat.le_of_ble_eq_true rfl) dX6_takeNumber_163 ?_
          rintro _ _ ⟨rfl, rfl⟩
          refine z_top (v' := .int (nI 2)) rfl ?_
          refine z_X (Y := MW θ ad (nv (n 0) (n 1) (n 3) (n 5) (n 8) (n 10) p (m_num (r 9) (ph1) (p - ph1)) ph1 (n 15) (n 16) (n 18) (n 20) (n 22) (n 27)) (nI ph1) r) (mw_eq rfl rfl rfl rfl rfl rfl rfl rfl rfl rfl rfl rfl rfl rfl rfl rfl rfl rfl rfl rfl rfl rfl rfl rfl rfl rfl rfl rfl rfl rfl rfl rfl) ?_
          refine z_goto C 170 dX6_takeNumber_166 (by decide) ?_
          exact E _ _ _ _ (⟨_, _, _, eh1, rfl, by rw [nV, hq, ← eh1], Or.inr (Or.inl ⟨hok, by unfold nBad nV; rw [hq, ← eh1]; exact Or.inl h139t_5, rfl, by rw [hq]; exact (mw_eq rfl rfl rfl rfl rfl rfl rfl rfl rfl rfl rfl rfl rfl rfl rfl rfl rfl rfl rfl rfl rfl rfl rfl rfl rfl rfl rfl rfl rfl rfl rfl rfl)⟩)⟩) (rfl) dX6_takeNumber_170
        · refine z_aload_n C dX6_takeNumber_142 rfl (show zlk _ 0 = some (.ref (ad 0)) from rfl) ?_
          refine z_mg C hin 13 (by decide) (by decide +kernel) (v := .int (nI (m_num (r 9) (ph1) (p - ph1)))) mfv_13 dX6_takeNumber_143 ?_
          refine z_i2l C dX6_takeNumber_146 ?_
          refine z_iload_n C dX6_takeNumber_147 rfl (show zlk _ 1 = some (.int (nI lo)) from rfl) ?_
          refine z_i2l C dX6_takeNumber_148 ?_
          refine z_iload_n C dX6_takeNumber_149 rfl (show zlk _ 2 = some (.int (nI hi)) from rfl) ?_
          refine z_i2l C dX6_takeNumber_150 ?_
          refine z_callSi C (As := [.long (Int32.toInt64 (nI (m_num (r 9) (ph1) (p - ph1)))), .long (Int32.toInt64 (nI lo)), .long (Int32.toInt64 (nI hi))]) (rest := []) (c_X6_in l θ _ (Int32.toInt64 (nI (m_num (r 9) (ph1) (p - ph1)))) (Int32.toInt64 (nI lo)) (Int32.toInt64 (nI hi))) gX6_takeNumber_X6_in rfl 3 (by decide +kernel) (by decide) (by decide) rfl rfl (Nat.le_of_ble_eq_true rfl) dX6_takeNumber_151 ?_
          rintro _ _ ⟨rfl, rfl⟩
          refine z_top (v' := .int (bI (m_in (Int32.toInt64 (nI (m_num (r 9) (ph1) (p - ph1)))) (Int32.toInt64 (nI lo)) (Int32.toInt64 (nI hi))))) rfl ?_
          refine z_if_neB C 169 dX6_takeNumber_154 (by decide) (fun h154t_6 => ?_) (fun h154n_6 => ?_)
          · refine z_iconst C (v := nI 0) dX6_takeNumber_169 (by decide) ?_
            exact E _ _ _ _ (⟨_, _, _, eh1, rfl, by rw [nV, hq, ← eh1], Or.inr (Or.inr ⟨hok, by unfold nBad nV; rw [hq, ← eh1]; exact nGood_of (by omega) hlo hhi hnl h154t_6, rfl, by rw [hq]; exact (mw_eq rfl rfl rfl rfl rfl rfl rfl rfl rfl rfl rfl rfl rfl rfl rfl rfl rfl rfl rfl rfl rfl rfl rfl rfl rfl rfl rfl rfl rfl rfl rfl rfl)⟩)⟩) (rfl) dX6_takeNumber_170
          · refine z_aload_n C dX6_takeNumber_157 rfl (show zlk _ 0 = some (.ref (ad 0)) from rfl) ?_
            refine z_iconst C (v := nI 2) dX6_takeNumber_158 (by decide) ?_
            refine z_aload_n C dX6_takeNumber_159 rfl (show zlk _ 0 = some (.ref (ad 0)) from rfl) ?_
            refine z_mg C hin 14 (by decide) (by decide +kernel) (v := .int (nI ph1)) mfv_14 dX6_takeNumber_160 ?_
            refine z_callVi C (As := [.int (nI 2), .int (nI ph1)]) (rest := []) (c_X6_fails l θ ad (nv (n 0) (n 1) (n 3) (n 5) (n 8) (n 10) p (m_num (r 9) (ph1) (p - ph1)) ph1 (n 15) (n 16) (n 18) (n 20) (n 22) (n 27)) g r 2 ph1) gX6_takeNumber_X6_fails rfl 2 (by decide +kernel) (by decide) (by decide) 0 rfl rfl rfl rfl rfl (Nat.le_of_ble_eq_true rfl) dX6_takeNumber_163 ?_
            rintro _ _ ⟨rfl, rfl⟩
            refine z_top (v' := .int (nI 2)) rfl ?_
            refine z_X (Y := MW θ ad (nv (n 0) (n 1) (n 3) (n 5) (n 8) (n 10) p (m_num (r 9) (ph1) (p - ph1)) ph1 (n 15) (n 16) (n 18) (n 20) (n 22) (n 27)) (nI ph1) r) (mw_eq rfl rfl rfl rfl rfl rfl rfl rfl rfl rfl rfl rfl rfl rfl rfl rfl rfl rfl rfl rfl rfl rfl rfl rfl rfl rfl rfl rfl rfl rfl rfl rfl) ?_
            refine z_goto C 170 dX6_takeNumber_166 (by decide) ?_
            exact E _ _ _ _ (⟨_, _, _, eh1, rfl, by rw [nV, hq, ← eh1], Or.inr (Or.inl ⟨hok, by unfold nBad nV; rw [hq, ← eh1]; exact nBad_of (by omega) hlo hhi hnl h154n_6, rfl, by rw [hq]; exact (mw_eq rfl rfl rfl rfl rfl rfl rfl rfl rfl rfl rfl rfl rfl rfl rfl rfl rfl rfl rfl rfl rfl rfl rfl rfl rfl rfl rfl rfl rfl rfl rfl rfl)⟩)⟩) (rfl) dX6_takeNumber_170
      · refine z_aload_n C dX6_takeNumber_75 rfl (show zlk _ 0 = some (.ref (ad 0)) from rfl) ?_
        refine z_aload_n C dX6_takeNumber_76 rfl (show zlk _ 0 = some (.ref (ad 0)) from rfl) ?_
        refine z_mg C hin 13 (by decide) (by decide +kernel) (v := .int (nI (m_num (r 9) (ph1) (p - ph1)))) mfv_13 dX6_takeNumber_77 ?_
        refine z_sipush C (v := nI 10000) dX6_takeNumber_80 (by decide) ?_
        refine z_icmp_leN C 93 dX6_takeNumber_83 (by decide) (by have : m_num (r 9) (ph1) (p - ph1) ≤ 100009 := m_num_le _ _ _ (fun i hi => hinv42.2.2 _ (by omega) (by omega)); omega) (by omega) (fun h83t_7 => ?_) (fun h83n_7 => ?_)
        · refine z_bipush C (v := nI 10) dX6_takeNumber_93 (by decide) ?_
          refine z_aload_n C dX6_takeNumber_95 rfl (show zlk _ 0 = some (.ref (ad 0)) from rfl) ?_
          refine z_mg C hin 13 (by decide) (by decide +kernel) (v := .int (nI (m_num (r 9) (ph1) (p - ph1)))) mfv_13 dX6_takeNumber_96 ?_
          refine z_imulN C dX6_takeNumber_99 ?_
          refine z_aload_n C dX6_takeNumber_100 rfl (show zlk _ 0 = some (.ref (ad 0)) from rfl) ?_
          refine z_mg C hin 9 (by decide) (by decide +kernel) (v := .ref (ad 9)) mf_9 dX6_takeNumber_101 ?_
          refine z_aload_n C dX6_takeNumber_104 rfl (show zlk _ 0 = some (.ref (ad 0)) from rfl) ?_
          refine z_mg C hin 12 (by decide) (by decide +kernel) (v := .int (nI p)) mfv_12 dX6_takeNumber_105 ?_
          refine z_iald C (f := (r 9)) 5 mr_9 p rfl (by omega) (by decide) dX6_takeNumber_108 ?_
          refine z_iadd C dX6_takeNumber_109 ?_
          refine z_bipush C (v := nI 48) dX6_takeNumber_110 (by decide) ?_
          refine z_isub C dX6_takeNumber_112 ?_
          refine z_top (v' := .int (nI (m_num (r 9) (ph1) (p + 1 - ph1)))) (by rw [show p + 1 - ph1 = (p - ph1) + 1 by omega]; simp only [m_num]; rw [if_pos h83t_7, show ph1 + (p - ph1) = p by omega]; exact congrArg Value.int (dig_add _ h72n_4)) ?_
          refine z_mp C hin 13 (by decide) (by decide +kernel) rfl rfl mpv_13 dX6_takeNumber_113 ?_
          refine z_aload_n C dX6_takeNumber_116 rfl (show zlk _ 0 = some (.ref (ad 0)) from rfl) ?_
          refine z_dup C dX6_takeNumber_117 rfl ?_
          refine z_mg C hin 12 (by decide) (by decide +kernel) (v := .int (nI p)) mfv_12 dX6_takeNumber_118 ?_
          refine z_iconst C (v := nI 1) dX6_takeNumber_121 (by decide) ?_
          refine z_iaddN C dX6_takeNumber_122 ?_
          refine z_mp C hin 12 (by decide) (by decide +kernel) rfl rfl mpv_12 dX6_takeNumber_123 ?_
          refine z_goto C 42 dX6_takeNumber_126 (by decide) ?_
          exact z_to (ih42 (⟨by rw [← hinv42.1]; exact (scan_step (c := fun q => dgt (r 9 q)) (by omega) h72n_4).symm, by omega, fun q q1 q2 => by by_cases e : q = p; exact e ▸ h72n_4; exact hinv42.2.2 q q1 (by omega)⟩)) ((mw_eq rfl rfl rfl rfl rfl rfl rfl rfl rfl rfl rfl rfl rfl rfl rfl rfl rfl rfl rfl rfl rfl rfl rfl rfl rfl rfl rfl rfl rfl rfl rfl rfl)) (rfl)
        · refine z_aload_n C dX6_takeNumber_86 rfl (show zlk _ 0 = some (.ref (ad 0)) from rfl) ?_
          refine z_mg C hin 13 (by decide) (by decide +kernel) (v := .int (nI (m_num (r 9) (ph1) (p - ph1)))) mfv_13 dX6_takeNumber_87 ?_
          refine z_goto C 113 dX6_takeNumber_90 (by decide) ?_
          refine z_top (v' := .int (nI (m_num (r 9) (ph1) (p + 1 - ph1)))) (by rw [show p + 1 - ph1 = (p - ph1) + 1 by omega]; simp only [m_num]; rw [if_neg h83n_7]) ?_
          refine z_mp C hin 13 (by decide) (by decide +kernel) rfl rfl mpv_13 dX6_takeNumber_113 ?_
          refine z_aload_n C dX6_takeNumber_116 rfl (show zlk _ 0 = some (.ref (ad 0)) from rfl) ?_
          refine z_dup C dX6_takeNumber_117 rfl ?_
          refine z_mg C hin 12 (by decide) (by decide +kernel) (v := .int (nI p)) mfv_12 dX6_takeNumber_118 ?_
          refine z_iconst C (v := nI 1) dX6_takeNumber_121 (by decide) ?_
          refine z_iaddN C dX6_takeNumber_122 ?_
          refine z_mp C hin 12 (by decide) (by decide +kernel) rfl rfl mpv_12 dX6_takeNumber_123 ?_
          refine z_goto C 42 dX6_takeNumber_126 (by decide) ?_
          exact z_to (ih42 (⟨by rw [← hinv42.1]; exact (scan_step (c := fun q => dgt (r 9 q)) (by omega) h72n_4).symm, by omega, fun q q1 q2 => by by_cases e : q = p; exact e ▸ h72n_4; exact hinv42.2.2 q q1 (by omega)⟩)) ((mw_eq rfl rfl rfl rfl rfl rfl rfl rfl rfl rfl rfl rfl rfl rfl rfl rfl rfl rfl rfl rfl rfl rfl rfl rfl rfl rfl rfl rfl rfl rfl rfl rfl)) (rfl)
  · refine z_aload_n C dX6_takeNumber_19 rfl (show zlk _ 0 = some (.ref (ad 0)) from rfl) ?_
    refine z_iconst C (v := nI 1) dX6_takeNumber_20 (by decide) ?_
    refine z_aload_n C dX6_takeNumber_21 rfl (show zlk _ 0 = some (.ref (ad 0)) from rfl) ?_
    refine z_mg C hin 12 (by decide) (by decide +kernel) (v := .int (nI ph1)) mfv_12 dX6_takeNumber_22 ?_
    refine z_callVi C (As := [.int (nI 1), .int (nI ph1)]) (rest := []) (c_X6_fails l θ ad (nv (n 0) (n 1) (n 3) (n 5) (n 8) (n 10) ph1 (n 13) (n 14) (n 15) (n 16) (n 18) (n 20) (n 22) (n 27)) g r 1 ph1) gX6_takeNumber_X6_fails rfl 2 (by decide +kernel) (by decide) (by decide) 0 rfl rfl rfl rfl rfl (Nat.le_of_ble_eq_true rfl) dX6_takeNumber_25 ?_
    rintro _ _ ⟨rfl, rfl⟩
    refine z_top (v' := .int (nI 1)) rfl ?_
    refine z_X (Y := MW θ ad (nv (n 0) (n 1) (n 3) (n 5) (n 8) (n 10) ph1 (n 13) (n 14) (n 15) (n 16) (n 18) (n 20) (n 22) (n 27)) (nI ph1) r) (mw_eq rfl rfl rfl rfl rfl rfl rfl rfl rfl rfl rfl rfl rfl rfl rfl rfl rfl rfl rfl rfl rfl rfl rfl rfl rfl rfl rfl rfl rfl rfl rfl rfl) ?_
    exact E _ _ _ _ (⟨_, _, _, eh1, rfl, rfl, Or.inl ⟨by unfold nOk; rw [← eh1]; exact h16n_1, rfl, (mw_eq rfl rfl rfl rfl rfl rfl rfl rfl rfl rfl rfl rfl rfl rfl rfl rfl rfl rfl rfl rfl rfl rfl rfl rfl rfl rfl rfl rfl rfl rfl rfl rfl)⟩⟩) (rfl) dX6_takeNumber_28

