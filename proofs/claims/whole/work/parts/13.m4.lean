/-- what a reading of a text leaves behind that nobody sees -/
def mJ (n n1 : Nat → Nat) (r r1 : Nat → Nat → Int32) : Prop := n1 0 = n 0 ∧ n1 1 = n 1 ∧ n1 3 = n 3 ∧ n1 5 = n 5 ∧ n1 8 = n 8 ∧ n1 10 = n 10 ∧ n1 22 = n 22 ∧ n1 27 = n 27 ∧ r1 2 = r 2 ∧ r1 4 = r 4 ∧ r1 6 = r 6 ∧ r1 7 = r 7 ∧ r1 9 = r 9 ∧ r1 23 = r 23 ∧ r1 24 = r 24 ∧ r1 25 = r 25 ∧ r1 26 = r 26 ∧ r1 28 = r 28 ∧ r1 29 = r 29 ∧ r1 30 = r 30 ∧ r1 31 = r 31 ∧ r1 32 = r 32
theorem mJ_of {θ : zH} {ad : Nat → Nat} {n n1 : Nat → Nat} {r r1 : Nat → Nat → Int32} {g : Int32} (h0 : n1 0 = n 0) (h1 : n1 1 = n 1) (h3 : n1 3 = n 3) (h5 : n1 5 = n 5) (h8 : n1 8 = n 8) (h10 : n1 10 = n 10) (h22 : n1 22 = n 22) (h27 : n1 27 = n 27) (k2 : r1 2 = r 2) (k4 : r1 4 = r 4) (k6 : r1 6 = r 6) (k7 : r1 7 = r 7) (k9 : r1 9 = r 9) (k23 : r1 23 = r 23) (k24 : r1 24 = r 24) (k25 : r1 25 = r 25) (k26 : r1 26 = r 26) (k28 : r1 28 = r 28) (k29 : r1 29 = r 29) (k30 : r1 30 = r 30) (k31 : r1 31 = r 31) (k32 : r1 32 = r 32) : ∃ n2 r2, mJ n n2 r r2 ∧ MW θ ad n1 g r1 = MW θ ad n2 g r2 := ⟨n1, r1, ⟨h0, h1, h3, h5, h8, h10, h22, h27, k2, k4, k6, k7, k9, k23, k24, k25, k26, k28, k29, k30, k31, k32⟩, rfl⟩
/-- the fault of a number at p, and of a sign: its kind (0: none), its place -/
def nF (f : Nat → Int32) (L p lo hi : Nat) : Nat × Nat := if nOk f L p = false then (1, sk f L p) else if 3 < nE f L p - sk f L p ∨ nV f L p < lo ∨ hi < nV f L p then (2, sk f L p) else (0, 0)
def sF (f : Nat → Int32) (L p : Nat) (c : Int32) : Nat × Nat := if m_hr f L (sk f L p) = c then (0, 0) else (1, sk f L p)
/-- where row i's number begins; the rows' fault; the rows' dots -/
def rwq (f : Nat → Int32) (L p : Nat) : Nat → Nat
  | 0 => p
  | i + 1 => sk f L (nE f L (rwq f L p i)) + 1
def rF (f : Nat → Int32) (L p : Nat) : Nat → Nat × Nat
  | 0 => (0, 0)
  | 1 => nF f L p 0 63
  | i + 2 => if (rF f L p (i + 1)).1 = 0 then (if (sF f L (nE f L (rwq f L p i)) (nI 44)).1 = 0 then nF f L (rwq f L p (i + 1)) 0 63 else sF f L (nE f L (rwq f L p i)) (nI 44)) else rF f L p (i + 1)
def rS (f : Nat → Int32) (L p : Nat) : Nat → Int32
  | 0 => nI 0
  | i + 1 => rS f L p i ||| (nI (nV f L (rwq f L p i)) <<< (nI (6 * i) &&& 31))
theorem nE_le {f : Nat → Int32} {L p : Nat} (h : p ≤ L) : p ≤ nE f L p ∧ nE f L p ≤ L := by
  have h1 := sk_le (f := f) h
  have h2 := dE_le (f := f) h1.2
  unfold nE
  omega
theorem hr_lt {f : Nat → Int32} {L p : Nat} {c : Int32} (h : m_hr f L p = c) (hc : ¬ c = (-1)) : p < L := by
  unfold m_hr at h
  by_cases e : p < L
  · exact e
  · rw [if_neg e] at h; exact absurd h.symm hc
theorem nF_le (f : Nat → Int32) (L p lo hi : Nat) : (nF f L p lo hi).1 ≤ 2 := by
  unfold nF; split <;> (try split) <;> simp
theorem rF_le (f : Nat → Int32) (L p : Nat) : ∀ i, (rF f L p i).1 ≤ 2
  | 0 => by simp [rF]
  | 1 => nF_le _ _ _ _ _
  | i + 2 => by
    have h1 := rF_le f L p (i + 1)
    unfold rF
    split
    · split
      · exact nF_le _ _ _ _ _
      · unfold sF; split <;> simp
    · exact h1
theorem nF_A {f : Nat → Int32} {L p lo hi : Nat} (h : nOk f L p = false) : nF f L p lo hi = (1, sk f L p) := by unfold nF; rw [if_pos h]
theorem nF_B {f : Nat → Int32} {L p lo hi : Nat} (h : nOk f L p = true) (hb : nBad f L p lo hi) : nF f L p lo hi = (2, sk f L p) := by unfold nF; rw [if_neg (by rw [h]; decide)]; exact if_pos hb
theorem nF_C {f : Nat → Int32} {L p lo hi : Nat} (h : nOk f L p = true) (hb : ¬ nBad f L p lo hi) : nF f L p lo hi = (0, 0) := by unfold nF; rw [if_neg (by rw [h]; decide)]; exact if_neg hb
set_option maxHeartbeats 4000000 in
set_option maxRecDepth 100000 in
theorem c_X6_takeGnats (l : Launch) (θ : zH) (ad : Nat → Nat) (n : Nat → Nat) (g : Int32) (r : Nat → Nat → Int32)  (hp : n 12 ≤ n 10) (hL : n 10 ≤ 240)  : cI l yX6_takeGnats wsX6_takeGnats 2 θ [.ref (ad 0)] (MW θ ad n g r) (fun r0 Y => (¬ (nF (r 9) (n 10) (n 12) 1 30).1 = 0 ∧ r0 = nI (nF (r 9) (n 10) (n 12) 1 30).1 ∧ ∃ n1 r1, mJ n n1 r r1 ∧ Y = MW θ ad n1 (nI (nF (r 9) (n 10) (n 12) 1 30).2) r1) ∨ ((nF (r 9) (n 10) (n 12) 1 30).1 = 0 ∧ r0 = nI 0 ∧ ∃ p1 p2 v, p2 = nE (r 9) (n 10) (n 12) ∧ v = nV (r 9) (n 10) (n 12) ∧ Y = MW θ ad (nv (n 0) (n 1) (n 3) (n 5) (n 8) (n 10) p2 v p1 v (n 16) (n 18) (n 20) (n 22) (n 27)) g r)) := by
  refine z_cI (by decide) rfl rfl (Nat.le_of_ble_eq_true rfl) (lv := [(0, .ref (ad 0))]) rfl (fun κ C E => ?_)
  have hin : ∀ w ∈ wsX60, w ∈ wsX6_takeGnats := by decide +kernel
  refine z_aload_n C dX6_takeGnats_0 rfl (show zlk _ 0 = some (.ref (ad 0)) from rfl) ?_
  refine z_iconst C (v := nI 1) dX6_takeGnats_1 (by decide) ?_
  refine z_bipush C (v := nI 30) dX6_takeGnats_2 (by decide) ?_
  refine z_callVi C (As := [.int (nI 1), .int (nI 30)]) (rest := []) (c_X6_takeNumber l θ ad n g r 1 30 (show n 12 ≤ n 10 by omega) (hL) (by decide) (by decide)) gX6_takeGnats_X6_takeNumber rfl 2 (by decide +kernel) (by decide) (by decide) 0 rfl rfl rfl rfl rfl (Nat.le_of_ble_eq_true rfl) dX6_takeGnats_4 ?_
  rintro _ _ ⟨pa1, pb1, vv1, ea1, eb1, ev1, (⟨hA1, rfl, rfl⟩ | ⟨hA1, hB1, rfl, rfl⟩ | ⟨hA1, hB1, rfl, rfl⟩)⟩
  · replace ea1 : pa1 = sk (r 9) (n 10) (n 12) := ea1
    replace eb1 : pb1 = nE (r 9) (n 10) (n 12) := eb1
    replace ev1 : vv1 = nV (r 9) (n 10) (n 12) := ev1
    replace hA1 : nOk (r 9) (n 10) (n 12) = false := hA1
    refine z_X (Y := MW θ ad (nv (n 0) (n 1) (n 3) (n 5) (n 8) (n 10) pa1 (n 13) (n 14) (n 15) (n 16) (n 18) (n 20) (n 22) (n 27)) (nI pa1) r) (mw_eq rfl rfl rfl rfl rfl rfl rfl rfl rfl rfl rfl rfl rfl rfl rfl rfl rfl rfl rfl rfl rfl rfl rfl rfl rfl rfl rfl rfl rfl rfl rfl rfl) ?_
    refine z_istore_n C [(1, .int (nI 1)), (0, .ref (ad 0))] dX6_takeGnats_7 rfl (by decide) rfl ?_
    refine z_aload_n C dX6_takeGnats_8 rfl (show zlk _ 0 = some (.ref (ad 0)) from rfl) ?_
    refine z_aload_n C dX6_takeGnats_9 rfl (show zlk _ 0 = some (.ref (ad 0)) from rfl) ?_
    refine z_mg C hin 13 (by decide) (by decide +kernel) (v := .int (nI (n 13))) mfv_13 dX6_takeGnats_10 ?_
    refine z_mp C hin 15 (by decide) (by decide +kernel) rfl rfl mpv_15 dX6_takeGnats_13 ?_
    refine z_iload_n C dX6_takeGnats_16 rfl (show zlk _ 1 = some (.int (nI 1)) from rfl) ?_
    exact E _ _ _ _ (Or.inl (by rw [nF_A (lo := 1) (hi := 30) hA1, ← ea1]; exact ⟨by simp, rfl, mJ_of rfl rfl rfl rfl rfl rfl rfl rfl rfl rfl rfl rfl rfl rfl rfl rfl rfl rfl rfl rfl rfl rfl⟩)) (rfl) dX6_takeGnats_17
  · replace ea1 : pa1 = sk (r 9) (n 10) (n 12) := ea1
    replace eb1 : pb1 = nE (r 9) (n 10) (n 12) := eb1
    replace ev1 : vv1 = nV (r 9) (n 10) (n 12) := ev1
    replace hA1 : nOk (r 9) (n 10) (n 12) = true := hA1
    replace hB1 : nBad (r 9) (n 10) (n 12) 1 30 := hB1
    refine z_X (Y := MW θ ad (nv (n 0) (n 1) (n 3) (n 5) (n 8) (n 10) pb1 vv1 pa1 (n 15) (n 16) (n 18) (n 20) (n 22) (n 27)) (nI pa1) r) (mw_eq rfl rfl rfl rfl rfl rfl rfl rfl rfl rfl rfl rfl rfl rfl rfl rfl rfl rfl rfl rfl rfl rfl rfl rfl rfl rfl rfl rfl rfl rfl rfl rfl) ?_
    refine z_istore_n C [(1, .int (nI 2)), (0, .ref (ad 0))] dX6_takeGnats_7 rfl (by decide) rfl ?_
    refine z_aload_n C dX6_takeGnats_8 rfl (show zlk _ 0 = some (.ref (ad 0)) from rfl) ?_
    refine z_aload_n C dX6_takeGnats_9 rfl (show zlk _ 0 = some (.ref (ad 0)) from rfl) ?_
    refine z_mg C hin 13 (by decide) (by decide +kernel) (v := .int (nI vv1)) mfv_13 dX6_takeGnats_10 ?_
    refine z_mp C hin 15 (by decide) (by decide +kernel) rfl rfl mpv_15 dX6_takeGnats_13 ?_
    refine z_iload_n C dX6_takeGnats_16 rfl (show zlk _ 1 = some (.int (nI 2)) from rfl) ?_
    exact E _ _ _ _ (Or.inl (by rw [nF_B (lo := 1) (hi := 30) hA1 hB1, ← ea1]; exact ⟨by simp, rfl, mJ_of rfl rfl rfl rfl rfl rfl rfl rfl rfl rfl rfl rfl rfl rfl rfl rfl rfl rfl rfl rfl rfl rfl⟩)) (rfl) dX6_takeGnats_17
  · replace ea1 : pa1 = sk (r 9) (n 10) (n 12) := ea1
    replace eb1 : pb1 = nE (r 9) (n 10) (n 12) := eb1
    replace ev1 : vv1 = nV (r 9) (n 10) (n 12) := ev1
    replace hA1 : nOk (r 9) (n 10) (n 12) = true := hA1
    replace hB1 : ¬ nBad (r 9) (n 10) (n 12) 1 30 := hB1
    have lb1 : pb1 ≤ n 10 := by rw [eb1]; exact (nE_le (show n 12 ≤ n 10 by omega)).2
    refine z_X (Y := MW θ ad (nv (n 0) (n 1) (n 3) (n 5) (n 8) (n 10) pb1 vv1 pa1 (n 15) (n 16) (n 18) (n 20) (n 22) (n 27)) g r) (mw_eq rfl rfl rfl rfl rfl rfl rfl rfl rfl rfl rfl rfl rfl rfl rfl rfl rfl rfl rfl rfl rfl rfl rfl rfl rfl rfl rfl rfl rfl rfl rfl rfl) ?_
    refine z_istore_n C [(1, .int (nI 0)), (0, .ref (ad 0))] dX6_takeGnats_7 rfl (by decide) rfl ?_
    refine z_aload_n C dX6_takeGnats_8 rfl (show zlk _ 0 = some (.ref (ad 0)) from rfl) ?_
    refine z_aload_n C dX6_takeGnats_9 rfl (show zlk _ 0 = some (.ref (ad 0)) from rfl) ?_
    refine z_mg C hin 13 (by decide) (by decide +kernel) (v := .int (nI vv1)) mfv_13 dX6_takeGnats_10 ?_
    refine z_mp C hin 15 (by decide) (by decide +kernel) rfl rfl mpv_15 dX6_takeGnats_13 ?_
    refine z_iload_n C dX6_takeGnats_16 rfl (show zlk _ 1 = some (.int (nI 0)) from rfl) ?_
    exact E _ _ _ _ (Or.inr ⟨by rw [nF_C (lo := 1) (hi := 30) hA1 hB1], rfl, _, _, _, eb1, ev1, (mw_eq rfl rfl rfl rfl rfl rfl rfl rfl rfl rfl rfl rfl rfl rfl rfl rfl rfl rfl rfl rfl rfl rfl rfl rfl rfl rfl rfl rfl rfl rfl rfl rfl)⟩) (rfl) dX6_takeGnats_17

set_option maxHeartbeats 4000000 in
set_option maxRecDepth 100000 in
theorem c_X6_takeWindow (l : Launch) (θ : zH) (ad : Nat → Nat) (n : Nat → Nat) (g : Int32) (r : Nat → Nat → Int32)  (hp : n 12 ≤ n 10) (hL : n 10 ≤ 240) (hc : n 18 < 5) : cI l yX6_takeWindow wsX6_takeWindow 2 θ [.ref (ad 0)] (MW θ ad n g r) (fun r0 Y => (¬ (nF (r 9) (n 10) (n 12) 0 5).1 = 0 ∧ r0 = nI (nF (r 9) (n 10) (n 12) 0 5).1 ∧ ∃ n1 r1, mJ n n1 r r1 ∧ Y = MW θ ad n1 (nI (nF (r 9) (n 10) (n 12) 0 5).2) r1) ∨ ((nF (r 9) (n 10) (n 12) 0 5).1 = 0 ∧ r0 = nI 0 ∧ ∃ p1 p2 v, p2 = nE (r 9) (n 10) (n 12) ∧ v = nV (r 9) (n 10) (n 12) ∧ Y = MW θ ad (nv (n 0) (n 1) (n 3) (n 5) (n 8) (n 10) p2 v p1 (n 15) (n 16) (n 18 + 1) (n 20) (n 22) (n 27)) g (rv (r 2) (r 4) (r 6) (r 7) (r 9) (r 17) (upd (r 19) (n 18) (nI v)) (r 21) (r 23) (r 24) (r 25) (r 26) (r 28) (r 29) (r 30) (r 31) (r 32)))) := by
  refine z_cI (by decide) rfl rfl (Nat.le_of_ble_eq_true rfl) (lv := [(0, .ref (ad 0))]) rfl (fun κ C E => ?_)
  have hin : ∀ w ∈ wsX60, w ∈ wsX6_takeWindow := by decide +kernel
  refine z_aload_n C dX6_takeWindow_0 rfl (show zlk _ 0 = some (.ref (ad 0)) from rfl) ?_
  refine z_iconst C (v := nI 0) dX6_takeWindow_1 (by decide) ?_
  refine z_iconst C (v := nI 5) dX6_takeWindow_2 (by decide) ?_
  refine z_callVi C (As := [.int (nI 0), .int (nI 5)]) (rest := []) (c_X6_takeNumber l θ ad n g r 0 5 (show n 12 ≤ n 10 by omega) (hL) (by decide) (by decide)) gX6_takeWindow_X6_takeNumber rfl 2 (by decide +kernel) (by decide) (by decide) 0 rfl rfl rfl rfl rfl (Nat.le_of_ble_eq_true rfl) dX6_takeWindow_3 ?_
  rintro _ _ ⟨pa2, pb2, vv2, ea2, eb2, ev2, (⟨hA2, rfl, rfl⟩ | ⟨hA2, hB2, rfl, rfl⟩ | ⟨hA2, hB2, rfl, rfl⟩)⟩
  · replace ea2 : pa2 = sk (r 9) (n 10) (n 12) := ea2
    replace eb2 : pb2 = nE (r 9) (n 10) (n 12) := eb2
    replace ev2 : vv2 = nV (r 9) (n 10) (n 12) := ev2
    replace hA2 : nOk (r 9) (n 10) (n 12) = false := hA2
    refine z_X (Y := MW θ ad (nv (n 0) (n 1) (n 3) (n 5) (n 8) (n 10) pa2 (n 13) (n 14) (n 15) (n 16) (n 18) (n 20) (n 22) (n 27)) (nI pa2) r) (mw_eq rfl rfl rfl rfl rfl rfl rfl rfl rfl rfl rfl rfl rfl rfl rfl rfl rfl rfl rfl rfl rfl rfl rfl rfl rfl rfl rfl rfl rfl rfl rfl rfl) ?_
    refine z_istore_n C [(1, .int (nI 1)), (0, .ref (ad 0))] dX6_takeWindow_6 rfl (by decide) rfl ?_
    refine z_aload_n C dX6_takeWindow_7 rfl (show zlk _ 0 = some (.ref (ad 0)) from rfl) ?_
    refine z_mg C hin 19 (by decide) (by decide +kernel) (v := .ref (ad 19)) mf_19 dX6_takeWindow_8 ?_
    refine z_aload_n C dX6_takeWindow_11 rfl (show zlk _ 0 = some (.ref (ad 0)) from rfl) ?_
    refine z_mg C hin 18 (by decide) (by decide +kernel) (v := .int (nI (n 18))) mfv_18 dX6_takeWindow_12 ?_
    refine z_aload_n C dX6_takeWindow_15 rfl (show zlk _ 0 = some (.ref (ad 0)) from rfl) ?_
    refine z_mg C hin 13 (by decide) (by decide +kernel) (v := .int (nI (n 13))) mfv_13 dX6_takeWindow_16 ?_
    refine z_iast C (f := (r 19)) 7 mr_19 (n 18) rfl (by omega) (by decide) _ msn_19 dX6_takeWindow_19 ?_
    refine z_aload_n C dX6_takeWindow_20 rfl (show zlk _ 0 = some (.ref (ad 0)) from rfl) ?_
    refine z_dup C dX6_takeWindow_21 rfl ?_
    refine z_mg C hin 18 (by decide) (by decide +kernel) (v := .int (nI (n 18))) mfv_18 dX6_takeWindow_22 ?_
    refine z_iconst C (v := nI 1) dX6_takeWindow_25 (by decide) ?_
    refine z_iaddN C dX6_takeWindow_26 ?_
    refine z_mp C hin 18 (by decide) (by decide +kernel) rfl rfl mpv_18 dX6_takeWindow_27 ?_
    refine z_iload_n C dX6_takeWindow_30 rfl (show zlk _ 1 = some (.int (nI 1)) from rfl) ?_
    exact E _ _ _ _ (Or.inl (by rw [nF_A (lo := 0) (hi := 5) hA2, ← ea2]; exact ⟨by simp, rfl, mJ_of rfl rfl rfl rfl rfl rfl rfl rfl rfl rfl rfl rfl rfl rfl rfl rfl rfl rfl rfl rfl rfl rfl⟩)) (rfl) dX6_takeWindow_31
  · replace ea2 : pa2 = sk (r 9) (n 10) (n 12) := ea2
    replace eb2 : pb2 = nE (r 9) (n 10) (n 12) := eb2
    replace ev2 : vv2 = nV (r 9) (n 10) (n 12) := ev2
    replace hA2 : nOk (r 9) (n 10) (n 12) = true := hA2
    replace hB2 : nBad (r 9) (n 10) (n 12) 0 5 := hB2
    refine z_X (Y := MW θ ad (nv (n 0) (n 1) (n 3) (n 5) (n 8) (n 10) pb2 vv2 pa2 (n 15) (n 16) (n 18) (n 20) (n 22) (n 27)) (nI pa2) r) (mw_eq rfl rfl rfl rfl rfl rfl rfl rfl rfl rfl rfl rfl rfl rfl rfl rfl rfl rfl rfl rfl rfl rfl rfl rfl rfl rfl rfl rfl rfl rfl rfl rfl) ?_
    refine z_istore_n C [(1, .int (nI 2)), (0, .ref (ad 0))] dX6_takeWindow_6 rfl (by decide) rfl ?_
    refine z_aload_n C dX6_takeWindow_7 rfl (show zlk _ 0 = some (.ref (ad 0)) from rfl) ?_
    refine z_mg C hin 19 (by decide) (by decide +kernel) (v := .ref (ad 19)) mf_19 dX6_takeWindow_8 ?_
    refine z_aload_n C dX6_takeWindow_11 rfl (show zlk _ 0 = some (.ref (ad 0)) from rfl) ?_
    refine z_mg C hin 18 (by decide) (by decide +kernel) (v := .int (nI (n 18))) mfv_18 dX6_takeWindow_12 ?_
    refine z_aload_n C dX6_takeWindow_15 rfl (show zlk _ 0 = some (.ref (ad 0)) from rfl) ?_
    refine z_mg C hin 13 (by decide) (by decide +kernel) (v := .int (nI vv2)) mfv_13 dX6_takeWindow_16 ?_
    refine z_iast C (f := (r 19)) 7 mr_19 (n 18) rfl (by omega) (by decide) _ msn_19 dX6_takeWindow_19 ?_
    refine z_aload_n C dX6_takeWindow_20 rfl (show zlk _ 0 = some (.ref (ad 0)) from rfl) ?_
    refine z_dup C dX6_takeWindow_21 rfl ?_
    refine z_mg C hin 18 (by decide) (by decide +kernel) (v := .int (nI (n 18))) mfv_18 dX6_takeWindow_22 ?_
    refine z_iconst C (v := nI 1) dX6_takeWindow_25 (by decide) ?_
    refine z_iaddN C dX6_takeWindow_26 ?_
    refine z_mp C hin 18 (by decide) (by decide +kernel) rfl rfl mpv_18 dX6_takeWindow_27 ?_
    refine z_iload_n C dX6_takeWindow_30 rfl (show zlk _ 1 = some (.int (nI 2)) from rfl) ?_
    exact E _ _ _ _ (Or.inl (by rw [nF_B (lo := 0) (hi := 5) hA2 hB2, ← ea2]; exact ⟨by simp, rfl, mJ_of rfl rfl rfl rfl rfl rfl rfl rfl rfl rfl rfl rfl rfl rfl rfl rfl rfl rfl rfl rfl rfl rfl⟩)) (rfl) dX6_takeWindow_31
  · replace ea2 : pa2 = sk (r 9) (n 10) (n 12) := ea2
    replace eb2 : pb2 = nE (r 9) (n 10) (n 12) := eb2
    replace ev2 : vv2 = nV (r 9) (n 10) (n 12) := ev2
    replace hA2 : nOk (r 9) (n 10) (n 12) = true := hA2
    replace hB2 : ¬ nBad (r 9) (n 10) (n 12) 0 5 := hB2
    have lb2 : pb2 ≤ n 10 := by rw [eb2]; exact (nE_le (show n 12 ≤ n 10 by omega)).2
    refine z_X (Y := MW θ ad (nv (n 0) (n 1) (n 3) (n 5) (n 8) (n 10) pb2 vv2 pa2 (n 15) (n 16) (n 18) (n 20) (n 22) (n 27)) g r) (mw_eq rfl rfl rfl rfl rfl rfl rfl rfl rfl rfl rfl rfl rfl rfl rfl rfl rfl rfl rfl rfl rfl rfl rfl rfl rfl rfl rfl rfl rfl rfl rfl rfl) ?_
    refine z_istore_n C [(1, .int (nI 0)), (0, .ref (ad 0))] dX6_takeWindow_6 rfl (by decide) rfl ?_
    refine z_aload_n C dX6_takeWindow_7 rfl (show zlk _ 0 = some (.ref (ad 0)) from rfl) ?_
    refine z_mg C hin 19 (by decide) (by decide +kernel) (v := .ref (ad 19)) mf_19 dX6_takeWindow_8 ?_
    refine z_aload_n C dX6_takeWindow_11 rfl (show zlk _ 0 = some (.ref (ad 0)) from rfl) ?_
    refine z_mg C hin 18 (by decide) (by decide +kernel) (v := .int (nI (n 18))) mfv_18 dX6_takeWindow_12 ?_
    refine z_aload_n C dX6_takeWindow_15 rfl (show zlk _ 0 = some (.ref (ad 0)) from rfl) ?_
    refine z_mg C hin 13 (by decide) (by decide +kernel) (v := .int (nI vv2)) mfv_13 dX6_takeWindow_16 ?_
    refine z_iast C (f := (r 19)) 7 mr_19 (n 18) rfl (by omega) (by decide) _ msn_19 dX6_takeWindow_19 ?_
    refine z_aload_n C dX6_takeWindow_20 rfl (show zlk _ 0 = some (.ref (ad 0)) from rfl) ?_
    refine z_dup C dX6_takeWindow_21 rfl ?_
    refine z_mg C hin 18 (by decide) (by decide +kernel) (v := .int (nI (n 18))) mfv_18 dX6_takeWindow_22 ?_
    refine z_iconst C (v := nI 1) dX6_takeWindow_25 (by decide) ?_
    refine z_iaddN C dX6_takeWindow_26 ?_
    refine z_mp C hin 18 (by decide) (by decide +kernel) rfl rfl mpv_18 dX6_takeWindow_27 ?_
    refine z_iload_n C dX6_takeWindow_30 rfl (show zlk _ 1 = some (.int (nI 0)) from rfl) ?_
    exact E _ _ _ _ (Or.inr ⟨by rw [nF_C (lo := 0) (hi := 5) hA2 hB2], rfl, _, _, _, eb2, ev2, (mw_eq rfl rfl rfl rfl rfl rfl rfl rfl rfl rfl rfl rfl rfl rfl rfl rfl rfl rfl rfl rfl rfl rfl rfl rfl rfl rfl rfl rfl rfl rfl rfl rfl)⟩) (rfl) dX6_takeWindow_31

set_option maxHeartbeats 4000000 in
set_option maxRecDepth 100000 in
theorem c_X6_takeCritic (l : Launch) (θ : zH) (ad : Nat → Nat) (n : Nat → Nat) (g : Int32) (r : Nat → Nat → Int32)  (hp : n 12 ≤ n 10) (hL : n 10 ≤ 240) (hc : n 20 < 6) : cI l yX6_takeCritic wsX6_takeCritic 2 θ [.ref (ad 0)] (MW θ ad n g r) (fun r0 Y => (¬ (nF (r 9) (n 10) (n 12) 1 63).1 = 0 ∧ r0 = nI (nF (r 9) (n 10) (n 12) 1 63).1 ∧ ∃ n1 r1, mJ n n1 r r1 ∧ Y = MW θ ad n1 (nI (nF (r 9) (n 10) (n 12) 1 63).2) r1) ∨ ((nF (r 9) (n 10) (n 12) 1 63).1 = 0 ∧ r0 = nI 0 ∧ ∃ p1 p2 v, p2 = nE (r 9) (n 10) (n 12) ∧ v = nV (r 9) (n 10) (n 12) ∧ Y = MW θ ad (nv (n 0) (n 1) (n 3) (n 5) (n 8) (n 10) p2 v p1 (n 15) (n 16) (n 18) (n 20 + 1) (n 22) (n 27)) g (rv (r 2) (r 4) (r 6) (r 7) (r 9) (r 17) (r 19) (upd (r 21) (n 20) (nI v)) (r 23) (r 24) (r 25) (r 26) (r 28) (r 29) (r 30) (r 31) (r 32)))) := by
  refine z_cI (by decide) rfl rfl (Nat.le_of_ble_eq_true rfl) (lv := [(0, .ref (ad 0))]) rfl (fun κ C E => ?_)
  have hin : ∀ w ∈ wsX60, w ∈ wsX6_takeCritic := by decide +kernel
  refine z_aload_n C dX6_takeCritic_0 rfl (show zlk _ 0 = some (.ref (ad 0)) from rfl) ?_
  refine z_iconst C (v := nI 1) dX6_takeCritic_1 (by decide) ?_
  refine z_bipush C (v := nI 63) dX6_takeCritic_2 (by decide) ?_
  refine z_callVi C (As := [.int (nI 1), .int (nI 63)]) (rest := []) (c_X6_takeNumber l θ ad n g r 1 63 (show n 12 ≤ n 10 by omega) (hL) (by decide) (by decide)) gX6_takeCritic_X6_takeNumber rfl 2 (by decide +kernel) (by decide) (by decide) 0 rfl rfl rfl rfl rfl (Nat.le_of_ble_eq_true rfl) dX6_takeCritic_4 ?_
  rintro _ _ ⟨pa3, pb3, vv3, ea3, eb3, ev3, (⟨hA3, rfl, rfl⟩ | ⟨hA3, hB3, rfl, rfl⟩ | ⟨hA3, hB3, rfl, rfl⟩)⟩
  · replace ea3 : pa3 = sk (r 9) (n 10) (n 12) := ea3
    replace eb3 : pb3 = nE (r 9) (n 10) (n 12) := eb3
    replace ev3 : vv3 = nV (r 9) (n 10) (n 12) := ev3
    replace hA3 : nOk (r 9) (n 10) (n 12) = false := hA3
    refine z_X (Y := MW θ ad (nv (n 0) (n 1) (n 3) (n 5) (n 8) (n 10) pa3 (n 13) (n 14) (n 15) (n 16) (n 18) (n 20) (n 22) (n 27)) (nI pa3) r) (mw_eq rfl rfl rfl rfl rfl rfl rfl rfl rfl rfl rfl rfl rfl rfl rfl rfl rfl rfl rfl rfl rfl rfl rfl rfl rfl rfl rfl rfl rfl rfl rfl rfl) ?_
    refine z_istore_n C [(1, .int (nI 1)), (0, .ref (ad 0))] dX6_takeCritic_7 rfl (by decide) rfl ?_
    refine z_aload_n C dX6_takeCritic_8 rfl (show zlk _ 0 = some (.ref (ad 0)) from rfl) ?_
    refine z_mg C hin 21 (by decide) (by decide +kernel) (v := .ref (ad 21)) mf_21 dX6_takeCritic_9 ?_
    refine z_aload_n C dX6_takeCritic_12 rfl (show zlk _ 0 = some (.ref (ad 0)) from rfl) ?_
    refine z_mg C hin 20 (by decide) (by decide +kernel) (v := .int (nI (n 20))) mfv_20 dX6_takeCritic_13 ?_
    refine z_aload_n C dX6_takeCritic_16 rfl (show zlk _ 0 = some (.ref (ad 0)) from rfl) ?_
    refine z_mg C hin 13 (by decide) (by decide +kernel) (v := .int (nI (n 13))) mfv_13 dX6_takeCritic_17 ?_
    refine z_iast C (f := (r 21)) 8 mr_21 (n 20) rfl (by omega) (by decide) _ msn_21 dX6_takeCritic_20 ?_
    refine z_aload_n C dX6_takeCritic_21 rfl (show zlk _ 0 = some (.ref (ad 0)) from rfl) ?_
    refine z_dup C dX6_takeCritic_22 rfl ?_
    refine z_mg C hin 20 (by decide) (by decide +kernel) (v := .int (nI (n 20))) mfv_20 dX6_takeCritic_23 ?_
    refine z_iconst C (v := nI 1) dX6_takeCritic_26 (by decide) ?_
    refine z_iaddN C dX6_takeCritic_27 ?_
    refine z_mp C hin 20 (by decide) (by decide +kernel) rfl rfl mpv_20 dX6_takeCritic_28 ?_
    refine z_iload_n C dX6_takeCritic_31 rfl (show zlk _ 1 = some (.int (nI 1)) from rfl) ?_
    exact E _ _ _ _ (Or.inl (by rw [nF_A (lo := 1) (hi := 63) hA3, ← ea3]; exact ⟨by simp, rfl, mJ_of rfl rfl rfl rfl rfl rfl rfl rfl rfl rfl rfl rfl rfl rfl rfl rfl rfl rfl rfl rfl rfl rfl⟩)) (rfl) dX6_takeCritic_32
  · replace ea3 : pa3 = sk (r 9) (n 10) (n 12) := ea3
    replace eb3 : pb3 = nE (r 9) (n 10) (n 12) := eb3
    replace ev3 : vv3 = nV (r 9) (n 10) (n 12) := ev3
    replace hA3 : nOk (r 9) (n 10) (n 12) = true := hA3
    replace hB3 : nBad (r 9) (n 10) (n 12) 1 63 := hB3
    refine z_X (Y := MW θ ad (nv (n 0) (n 1) (n 3) (n 5) (n 8) (n 10) pb3 vv3 pa3 (n 15) (n 16) (n 18) (n 20) (n 22) (n 27)) (nI pa3) r) (mw_eq rfl rfl rfl rfl rfl rfl rfl rfl rfl rfl rfl rfl rfl rfl rfl rfl rfl rfl rfl rfl rfl rfl rfl rfl rfl rfl rfl rfl rfl rfl rfl rfl) ?_
    refine z_istore_n C [(1, .int (nI 2)), (0, .ref (ad 0))] dX6_takeCritic_7 rfl (by decide) rfl ?_
    refine z_aload_n C dX6_takeCritic_8 rfl (show zlk _ 0 = some (.ref (ad 0)) from rfl) ?_
    refine z_mg C hin 21 (by decide) (by decide +kernel) (v := .ref (ad 21)) mf_21 dX6_takeCritic_9 ?_
    refine z_aload_n C dX6_takeCritic_12 rfl (show zlk _ 0 = some (.ref (ad 0)) from rfl) ?_
    refine z_mg C hin 20 (by decide) (by decide +kernel) (v := .int (nI (n 20))) mfv_20 dX6_takeCritic_13 ?_
    refine z_aload_n C dX6_takeCritic_16 rfl (show zlk _ 0 = some (.ref (ad 0)) from rfl) ?_
    refine z_mg C hin 13 (by decide) (by decide +kernel) (v := .int (nI vv3)) mfv_13 dX6_takeCritic_17 ?_
    refine z_iast C (f := (r 21)) 8 mr_21 (n 20) rfl (by omega) (by decide) _ msn_21 dX6_takeCritic_20 ?_
    refine z_aload_n C dX6_takeCritic_21 rfl (show zlk _ 0 = some (.ref (ad 0)) from rfl) ?_
    refine z_dup C dX6_takeCritic_22 rfl ?_
    refine z_mg C hin 20 (by decide) (by decide +kernel) (v := .int (nI (n 20))) mfv_20 dX6_takeCritic_23 ?_
    refine z_iconst C (v := nI 1) dX6_takeCritic_26 (by decide) ?_
    refine z_iaddN C dX6_takeCritic_27 ?_
    refine z_mp C hin 20 (by decide) (by decide +kernel) rfl rfl mpv_20 dX6_takeCritic_28 ?_
    refine z_iload_n C dX6_takeCritic_31 rfl (show zlk _ 1 = some (.int (nI 2)) from rfl) ?_
    exact E _ _ _ _ (Or.inl (by rw [nF_B (lo := 1) (hi := 63) hA3 hB3, ← ea3]; exact ⟨by simp, rfl, mJ_of rfl rfl rfl rfl rfl rfl rfl rfl rfl rfl rfl rfl rfl rfl rfl rfl rfl rfl rfl rfl rfl rfl⟩)) (rfl) dX6_takeCritic_32
  · replace ea3 : pa3 = sk (r 9) (n 10) (n 12) := ea3
    replace eb3 : pb3 = nE (r 9) (n 10) (n 12) := eb3
    replace ev3 : vv3 = nV (r 9) (n 10) (n 12) := ev3
    replace hA3 : nOk (r 9) (n 10) (n 12) = true := hA3
    replace hB3 : ¬ nBad (r 9) (n 10) (n 12) 1 63 := hB3
    have lb3 : pb3 ≤ n 10 := by rw [eb3]; exact (nE_le (show n 12 ≤ n 10 by omega)).2
    refine z_X (Y := MW θ ad (nv (n 0) (n 1) (n 3) (n 5) (n 8) (n 10) pb3 vv3 pa3 (n 15) (n 16) (n 18) (n 20) (n 22) (n 27)) g r) (mw_eq rfl rfl rfl rfl rfl rfl rfl rfl rfl rfl rfl rfl rfl rfl rfl rfl rfl rfl rfl rfl rfl rfl rfl rfl rfl rfl rfl rfl rfl rfl rfl rfl) ?_
    refine z_istore_n C [(1, .int (nI 0)), (0, .ref (ad 0))] dX6_takeCritic_7 rfl (by decide) rfl ?_
    refine z_aload_n C dX6_takeCritic_8 rfl (show zlk _ 0 = some (.ref (ad 0)) from rfl) ?_
    refine z_mg C hin 21 (by decide) (by decide +kernel) (v := .ref (ad 21)) mf_21 dX6_takeCritic_9 ?_
    refine z_aload_n C dX6_takeCritic_12 rfl (show zlk _ 0 = some (.ref (ad 0)) from rfl) ?_
    refine z_mg C hin 20 (by decide) (by decide +kernel) (v := .int (nI (n 20))) mfv_20 dX6_takeCritic_13 ?_
    refine z_aload_n C dX6_takeCritic_16 rfl (show zlk _ 0 = some (.ref (ad 0)) from rfl) ?_
    refine z_mg C hin 13 (by decide) (by decide +kernel) (v := .int (nI vv3)) mfv_13 dX6_takeCritic_17 ?_
    refine z_iast C (f := (r 21)) 8 mr_21 (n 20) rfl (by omega) (by decide) _ msn_21 dX6_takeCritic_20 ?_
    refine z_aload_n C dX6_takeCritic_21 rfl (show zlk _ 0 = some (.ref (ad 0)) from rfl) ?_
    refine z_dup C dX6_takeCritic_22 rfl ?_
    refine z_mg C hin 20 (by decide) (by decide +kernel) (v := .int (nI (n 20))) mfv_20 dX6_takeCritic_23 ?_
    refine z_iconst C (v := nI 1) dX6_takeCritic_26 (by decide) ?_
    refine z_iaddN C dX6_takeCritic_27 ?_
    refine z_mp C hin 20 (by decide) (by decide +kernel) rfl rfl mpv_20 dX6_takeCritic_28 ?_
    refine z_iload_n C dX6_takeCritic_31 rfl (show zlk _ 1 = some (.int (nI 0)) from rfl) ?_
    exact E _ _ _ _ (Or.inr ⟨by rw [nF_C (lo := 1) (hi := 63) hA3 hB3], rfl, _, _, _, eb3, ev3, (mw_eq rfl rfl rfl rfl rfl rfl rfl rfl rfl rfl rfl rfl rfl rfl rfl rfl rfl rfl rfl rfl rfl rfl rfl rfl rfl rfl rfl rfl rfl rfl rfl rfl)⟩) (rfl) dX6_takeCritic_32

def rE (f : Nat → Int32) (L p : Nat) : Nat → Nat
  | 0 => p
  | i + 1 => nE f L (rwq f L p i)
theorem rF_step {f : Nat → Int32} {L p i : Nat} (h : (rF f L p (i + 1)).1 = 0) (hs : m_hr f L (sk f L (rE f L p (i + 1))) = nI 44) : rF f L p (i + 2) = nF f L (rwq f L p (i + 1)) 0 63 := by
  have e : sF f L (nE f L (rwq f L p i)) (nI 44) = (0, 0) := by unfold sF; exact if_pos hs
  show (if _ then _ else _) = _
  rw [if_pos h, e]
  rfl
theorem rF_sign {f : Nat → Int32} {L p i : Nat} (h : (rF f L p (i + 1)).1 = 0) (hs : ¬ m_hr f L (sk f L (rE f L p (i + 1))) = nI 44) : rF f L p (i + 2) = (1, sk f L (rE f L p (i + 1))) := by
  have e : sF f L (nE f L (rwq f L p i)) (nI 44) = (1, sk f L (rE f L p (i + 1))) := by unfold sF; exact if_neg hs
  show (if _ then _ else _) = _
  rw [if_pos h, e]
  rfl
theorem rF_up {f : Nat → Int32} {L p : Nat} : ∀ {i j : Nat}, i ≤ j → ¬ (rF f L p i).1 = 0 → rF f L p j = rF f L p i := by
  intro i j hij h
  induction j with
  | zero => have : i = 0 := by omega
            subst this; rfl
  | succ j ih =>
    by_cases e : i = j + 1
    · rw [e]
    · have hj := ih (by omega)
      cases j with
      | zero => have : i = 0 := by omega
                subst this; exact absurd rfl h
      | succ j =>
        show (if _ then _ else _) = _
        rw [if_neg (by rw [hj]; exact h), hj]
theorem z_nmN {κ : zX} {X : va_W} {pc : Nat} {lv : List (Nat × Value)} {st : List Value} {e : Nat} (k : ∀ a : Nat, a = e → Z κ X pc lv (.int (nI a) :: st)) : Z κ X pc lv (.int (nI e) :: st) := k e rfl
set_option maxHeartbeats 4000000 in
set_option maxRecDepth 100000 in
theorem c_X6_takeSitter (l : Launch) (θ : zH) (ad : Nat → Nat) (n : Nat → Nat) (g : Int32) (r : Nat → Nat → Int32)  (hp : n 12 ≤ n 10) (hL : n 10 ≤ 240) (hc : n 16 < 6) : cI l yX6_takeSitter wsX6_takeSitter 2 θ [.ref (ad 0)] (MW θ ad n g r) (fun r0 Y => (¬ (rF (r 9) (n 10) (n 12) 5).1 = 0 ∧ r0 = nI (rF (r 9) (n 10) (n 12) 5).1 ∧ ∃ n1 r1, mJ n n1 r r1 ∧ Y = MW θ ad n1 (nI (rF (r 9) (n 10) (n 12) 5).2) r1) ∨ ((rF (r 9) (n 10) (n 12) 5).1 = 0 ∧ r0 = nI 0 ∧ ∃ p1 p2 v s, p2 = nE (r 9) (n 10) (rwq (r 9) (n 10) (n 12) 4) ∧ s = rS (r 9) (n 10) (n 12) 5 ∧ Y = MW θ ad (nv (n 0) (n 1) (n 3) (n 5) (n 8) (n 10) p2 v p1 (n 15) (n 16 + 1) (n 18) (n 20) (n 22) (n 27)) g (rv (r 2) (r 4) (r 6) (r 7) (r 9) (upd (r 17) (n 16) s) (r 19) (r 21) (r 23) (r 24) (r 25) (r 26) (r 28) (r 29) (r 30) (r 31) (r 32)))) := by
  refine z_cI (by decide) rfl rfl (Nat.le_of_ble_eq_true rfl) (lv := [(0, .ref (ad 0))]) rfl (fun κ C E => ?_)
  have hin : ∀ w ∈ wsX60, w ∈ wsX6_takeSitter := by decide +kernel
  refine z_iconst C (v := nI 0) dX6_takeSitter_0 (by decide) ?_
  refine z_istore_n C [(1, .int (nI 0)), (0, .ref (ad 0))] dX6_takeSitter_1 rfl (by decide) rfl ?_
  refine z_iconst C (v := nI 0) dX6_takeSitter_2 (by decide) ?_
  refine z_istore_n C [(2, .int (nI 0)), (1, .int (nI 0)), (0, .ref (ad 0))] dX6_takeSitter_3 rfl (by decide) rfl ?_
  refine z_iload_n C dX6_takeSitter_4 rfl (show zlk _ 2 = some (.int (nI 0)) from rfl) ?_
  refine z_iconst C (v := nI 5) dX6_takeSitter_5 (by decide) ?_
  refine z_icmp_geF C 74 dX6_takeSitter_6 (by decide) (by omega) (by omega) (by decide) ?_
  have hq0 : n 12 = rwq (r 9) (n 10) (n 12) 0 := rfl
  have lq0 := hp
  refine z_iload_n C dX6_takeSitter_9 rfl (show zlk _ 2 = some (.int (nI 0)) from rfl) ?_
  refine z_if_leN C 42 dX6_takeSitter_10 (by decide) (by decide) (fun _ => ?_) (fun h => absurd h (by decide))
  refine z_aload_n C dX6_takeSitter_42 rfl (show zlk _ 0 = some (.ref (ad 0)) from rfl) ?_
  refine z_iconst C (v := nI 0) dX6_takeSitter_43 (by decide) ?_
  refine z_bipush C (v := nI 63) dX6_takeSitter_44 (by decide) ?_
  refine z_callVi C (As := [.int (nI 0), .int (nI 63)]) (rest := []) (c_X6_takeNumber l θ ad n g r 0 63 (lq0) (hL) (by decide) (by decide)) gX6_takeSitter_X6_takeNumber rfl 2 (by decide +kernel) (by decide) (by decide) 0 rfl rfl rfl rfl rfl (Nat.le_of_ble_eq_true rfl) dX6_takeSitter_46 ?_
  rintro _ _ ⟨pa4, pb4, vv4, ea4, eb4, ev4, (⟨hA4, rfl, rfl⟩ | ⟨hA4, hB4, rfl, rfl⟩ | ⟨hA4, hB4, rfl, rfl⟩)⟩
  · replace ea4 : pa4 = sk (r 9) (n 10) (n 12) := ea4
    replace eb4 : pb4 = nE (r 9) (n 10) (n 12) := eb4
    replace ev4 : vv4 = nV (r 9) (n 10) (n 12) := ev4
    replace hA4 : nOk (r 9) (n 10) (n 12) = false := hA4
    refine z_X (Y := MW θ ad (nv (n 0) (n 1) (n 3) (n 5) (n 8) (n 10) pa4 (n 13) (n 14) (n 15) (n 16) (n 18) (n 20) (n 22) (n 27)) (nI pa4) r) (mw_eq rfl rfl rfl rfl rfl rfl rfl rfl rfl rfl rfl rfl rfl rfl rfl rfl rfl rfl rfl rfl rfl rfl rfl rfl rfl rfl rfl rfl rfl rfl rfl rfl) ?_
    refine z_istore_n C [(3, .int (nI 1)), (2, .int (nI 0)), (1, .int (nI 0)), (0, .ref (ad 0))] dX6_takeSitter_49 rfl (by decide) rfl ?_
    refine z_iload_n C dX6_takeSitter_50 rfl (show zlk _ 3 = some (.int (nI 1)) from rfl) ?_
    refine z_if_leN C 56 dX6_takeSitter_51 (by decide) (by decide) (fun h => absurd h (by decide)) (fun _ => ?_)
    refine z_iload_n C dX6_takeSitter_54 rfl (show zlk _ 3 = some (.int (nI 1)) from rfl) ?_
    exact E _ _ _ _ (Or.inl (by have hFn : rF (r 9) (n 10) (n 12) 1 = (1, pa4) := (show nF (r 9) (n 10) (n 12) 0 63 = (1, pa4) by rw [ea4]; exact nF_A hA4); rw [rF_up (i := 1) (by decide) (by rw [hFn]; simp), hFn]; exact ⟨by simp, rfl, mJ_of rfl rfl rfl rfl rfl rfl rfl rfl rfl rfl rfl rfl rfl rfl rfl rfl rfl rfl rfl rfl rfl rfl⟩)) (rfl) dX6_takeSitter_55
  · replace ea4 : pa4 = sk (r 9) (n 10) (n 12) := ea4
    replace eb4 : pb4 = nE (r 9) (n 10) (n 12) := eb4
    replace ev4 : vv4 = nV (r 9) (n 10) (n 12) := ev4
    replace hA4 : nOk (r 9) (n 10) (n 12) = true := hA4
    replace hB4 : nBad (r 9) (n 10) (n 12) 0 63 := hB4
    refine z_X (Y := MW θ ad (nv (n 0) (n 1) (n 3) (n 5) (n 8) (n 10) pb4 vv4 pa4 (n 15) (n 16) (n 18) (n 20) (n 22) (n 27)) (nI pa4) r) (mw_eq rfl rfl rfl rfl rfl rfl rfl rfl rfl rfl rfl rfl rfl rfl rfl rfl rfl rfl rfl rfl rfl rfl rfl rfl rfl rfl rfl rfl rfl rfl rfl rfl) ?_
    refine z_istore_n C [(3, .int (nI 2)), (2, .int (nI 0)), (1, .int (nI 0)), (0, .ref (ad 0))] dX6_takeSitter_49 rfl (by decide) rfl ?_
    refine z_iload_n C dX6_takeSitter_50 rfl (show zlk _ 3 = some (.int (nI 2)) from rfl) ?_
    refine z_if_leN C 56 dX6_takeSitter_51 (by decide) (by decide) (fun h => absurd h (by decide)) (fun _ => ?_)
    refine z_iload_n C dX6_takeSitter_54 rfl (show zlk _ 3 = some (.int (nI 2)) from rfl) ?_
    exact E _ _ _ _ (Or.inl (by have hFn : rF (r 9) (n 10) (n 12) 1 = (2, pa4) := (show nF (r 9) (n 10) (n 12) 0 63 = (2, pa4) by rw [ea4]; exact nF_B hA4 hB4); rw [rF_up (i := 1) (by decide) (by rw [hFn]; simp), hFn]; exact ⟨by simp, rfl, mJ_of rfl rfl rfl rfl rfl rfl rfl rfl rfl rfl rfl rfl rfl rfl rfl rfl rfl rfl rfl rfl rfl rfl⟩)) (rfl) dX6_takeSitter_55
  · replace ea4 : pa4 = sk (r 9) (n 10) (n 12) := ea4
    replace eb4 : pb4 = nE (r 9) (n 10) (n 12) := eb4
    replace ev4 : vv4 = nV (r 9) (n 10) (n 12) := ev4
    replace hA4 : nOk (r 9) (n 10) (n 12) = true := hA4
    replace hB4 : ¬ nBad (r 9) (n 10) (n 12) 0 63 := hB4
    have lb4 : pb4 ≤ n 10 := by rw [eb4]; exact (nE_le (lq0)).2
    refine z_X (Y := MW θ ad (nv (n 0) (n 1) (n 3) (n 5) (n 8) (n 10) pb4 vv4 pa4 (n 15) (n 16) (n 18) (n 20) (n 22) (n 27)) g r) (mw_eq rfl rfl rfl rfl rfl rfl rfl rfl rfl rfl rfl rfl rfl rfl rfl rfl rfl rfl rfl rfl rfl rfl rfl rfl rfl rfl rfl rfl rfl rfl rfl rfl) ?_
    refine z_istore_n C [(3, .int (nI 0)), (2, .int (nI 0)), (1, .int (nI 0)), (0, .ref (ad 0))] dX6_takeSitter_49 rfl (by decide) rfl ?_
    refine z_iload_n C dX6_takeSitter_50 rfl (show zlk _ 3 = some (.int (nI 0)) from rfl) ?_
    refine z_if_leN C 56 dX6_takeSitter_51 (by decide) (by decide) (fun _ => ?_) (fun h => absurd h (by decide))
    have hF1 : rF (r 9) (n 10) (n 12) 1 = (0, 0) := nF_C hA4 hB4
    refine z_iload_n C dX6_takeSitter_56 rfl (show zlk _ 1 = some (.int (nI 0)) from rfl) ?_
    refine z_aload_n C dX6_takeSitter_57 rfl (show zlk _ 0 = some (.ref (ad 0)) from rfl) ?_
    refine z_mg C hin 13 (by decide) (by decide +kernel) (v := .int (nI vv4)) mfv_13 dX6_takeSitter_58 ?_
    refine z_bipush C (v := nI 6) dX6_takeSitter_61 (by decide) ?_
    refine z_iload_n C dX6_takeSitter_63 rfl (show zlk _ 2 = some (.int (nI 0)) from rfl) ?_
    refine z_imulN C dX6_takeSitter_64 ?_
    refine z_top (v' := .int (nI 0)) rfl ?_
    refine z_ishl C dX6_takeSitter_65 ?_
    refine z_ior C dX6_takeSitter_66 ?_
    refine z_top (v' := .int (rS (r 9) (n 10) (n 12) 1)) (by rw [show vv4 = nV (r 9) (n 10) (rwq (r 9) (n 10) (n 12) 0) by rw [← hq0]; exact ev4]; rfl) ?_
    refine z_istore_n C [(1, .int (rS (r 9) (n 10) (n 12) 1)), (3, .int (nI 0)), (2, .int (nI 0)), (0, .ref (ad 0))] dX6_takeSitter_67 rfl (by decide) rfl ?_
    refine z_iincN C [(2, .int (nI 1)), (1, .int (rS (r 9) (n 10) (n 12) 1)), (3, .int (nI 0)), (0, .ref (ad 0))] dX6_takeSitter_68 rfl (by decide) rfl ?_
    refine z_goto C 4 dX6_takeSitter_71 (by decide) ?_
    refine z_iload_n C dX6_takeSitter_4 rfl (show zlk _ 2 = some (.int (nI 1)) from rfl) ?_
    refine z_iconst C (v := nI 5) dX6_takeSitter_5 (by decide) ?_
    refine z_icmp_geF C 74 dX6_takeSitter_6 (by decide) (by omega) (by omega) (by decide) ?_
    refine z_iload_n C dX6_takeSitter_9 rfl (show zlk _ 2 = some (.int (nI 1)) from rfl) ?_
    refine z_if_leN C 42 dX6_takeSitter_10 (by decide) (by decide) (fun h => absurd h (by decide)) (fun _ => ?_)
    refine z_aload_n C dX6_takeSitter_13 rfl (show zlk _ 0 = some (.ref (ad 0)) from rfl) ?_
    refine z_callVi C (As := []) (rest := []) (c_X6_here l θ ad (nv (n 0) (n 1) (n 3) (n 5) (n 8) (n 10) pb4 vv4 pa4 (n 15) (n 16) (n 18) (n 20) (n 22) (n 27)) g r (show pb4 ≤ n 10 by omega) (hL)) gX6_takeSitter_X6_here rfl 0 (by decide +kernel) (by decide) (by decide) 0 rfl rfl rfl rfl rfl (Nat.le_of_ble_eq_true rfl) dX6_takeSitter_14 ?_
    rintro _ _ ⟨ph2, eh2, rfl, rfl⟩
    replace eh2 : ph2 = sk (r 9) (n 10) (pb4) := eh2
    have lh2 : ph2 ≤ n 10 := by rw [eh2]; exact (sk_le (by omega)).2
    refine z_top (v' := .int (m_hr (r 9) (n 10) ph2)) rfl ?_
    refine z_X (Y := MW θ ad (nv (n 0) (n 1) (n 3) (n 5) (n 8) (n 10) ph2 vv4 pa4 (n 15) (n 16) (n 18) (n 20) (n 22) (n 27)) g r) (mw_eq rfl rfl rfl rfl rfl rfl rfl rfl rfl rfl rfl rfl rfl rfl rfl rfl rfl rfl rfl rfl rfl rfl rfl rfl rfl rfl rfl rfl rfl rfl rfl rfl) ?_
    refine z_bipush C (v := nI 44) dX6_takeSitter_17 (by decide) ?_
    refine z_icmp_eq C 32 dX6_takeSitter_19 (by decide) (fun h19t_1 => ?_) (fun h19n_1 => ?_)
    · refine z_aload_n C dX6_takeSitter_32 rfl (show zlk _ 0 = some (.ref (ad 0)) from rfl) ?_
      refine z_dup C dX6_takeSitter_33 rfl ?_
      refine z_mg C hin 12 (by decide) (by decide +kernel) (v := .int (nI ph2)) mfv_12 dX6_takeSitter_34 ?_
      refine z_iconst C (v := nI 1) dX6_takeSitter_37 (by decide) ?_
      refine z_iaddN C dX6_takeSitter_38 ?_
      refine z_nmN (fun q1 eq1 => ?_)
      have E1 : ph2 = sk (r 9) (n 10) (nE (r 9) (n 10) (n 12)) := by rw [← eb4]; exact eh2
      have hq1 : q1 = rwq (r 9) (n 10) (n 12) 1 := by rw [eq1, E1, hq0]; rfl
      have lq1 : q1 ≤ n 10 := by rw [eq1]; exact hr_lt h19t_1 (by decide)
      refine z_mp C hin 12 (by decide) (by decide +kernel) rfl rfl mpv_12 dX6_takeSitter_39 ?_
      refine z_aload_n C dX6_takeSitter_42 rfl (show zlk _ 0 = some (.ref (ad 0)) from rfl) ?_
      refine z_iconst C (v := nI 0) dX6_takeSitter_43 (by decide) ?_
      refine z_bipush C (v := nI 63) dX6_takeSitter_44 (by decide) ?_
      refine z_callVi C (As := [.int (nI 0), .int (nI 63)]) (rest := []) (c_X6_takeNumber l θ ad (nv (n 0) (n 1) (n 3) (n 5) (n 8) (n 10) q1 vv4 pa4 (n 15) (n 16) (n 18) (n 20) (n 22) (n 27)) g r 0 63 (lq1) (hL) (by decide) (by decide)) gX6_takeSitter_X6_takeNumber rfl 2 (by decide +kernel) (by decide) (by decide) 0 rfl rfl rfl rfl rfl (Nat.le_of_ble_eq_true rfl) dX6_takeSitter_46 ?_
      rintro _ _ ⟨pa5, pb5, vv5, ea5, eb5, ev5, (⟨hA5, rfl, rfl⟩ | ⟨hA5, hB5, rfl, rfl⟩ | ⟨hA5, hB5, rfl, rfl⟩)⟩
      · replace ea5 : pa5 = sk (r 9) (n 10) (q1) := ea5
        replace eb5 : pb5 = nE (r 9) (n 10) (q1) := eb5
        replace ev5 : vv5 = nV (r 9) (n 10) (q1) := ev5
        replace hA5 : nOk (r 9) (n 10) (q1) = false := hA5
        refine z_X (Y := MW θ ad (nv (n 0) (n 1) (n 3) (n 5) (n 8) (n 10) pa5 vv4 pa4 (n 15) (n 16) (n 18) (n 20) (n 22) (n 27)) (nI pa5) r) (mw_eq rfl rfl rfl rfl rfl rfl rfl rfl rfl rfl rfl rfl rfl rfl rfl rfl rfl rfl rfl rfl rfl rfl rfl rfl rfl rfl rfl rfl rfl rfl rfl rfl) ?_
        refine z_istore_n C [(3, .int (nI 1)), (2, .int (nI 1)), (1, .int (rS (r 9) (n 10) (n 12) 1)), (0, .ref (ad 0))] dX6_takeSitter_49 rfl (by decide) rfl ?_
        refine z_iload_n C dX6_takeSitter_50 rfl (show zlk _ 3 = some (.int (nI 1)) from rfl) ?_
        refine z_if_leN C 56 dX6_takeSitter_51 (by decide) (by decide) (fun h => absurd h (by decide)) (fun _ => ?_)
        refine z_iload_n C dX6_takeSitter_54 rfl (show zlk _ 3 = some (.int (nI 1)) from rfl) ?_
        exact E _ _ _ _ (Or.inl (by have hFn : rF (r 9) (n 10) (n 12) 2 = (1, pa5) := (rF_step (by rw [hF1]) (by show m_hr (r 9) (n 10) (sk (r 9) (n 10) (nE (r 9) (n 10) (rwq (r 9) (n 10) (n 12) 0))) = nI 44; rw [← hq0, ← E1]; exact h19t_1)).trans (show nF (r 9) (n 10) (rwq (r 9) (n 10) (n 12) 1) 0 63 = (1, pa5) by rw [← hq1, ea5]; exact nF_A hA5); rw [rF_up (i := 2) (by decide) (by rw [hFn]; simp), hFn]; exact ⟨by simp, rfl, mJ_of rfl rfl rfl rfl rfl rfl rfl rfl rfl rfl rfl rfl rfl rfl rfl rfl rfl rfl rfl rfl rfl rfl⟩)) (rfl) dX6_takeSitter_55
      · replace ea5 : pa5 = sk (r 9) (n 10) (q1) := ea5
        replace eb5 : pb5 = nE (r 9) (n 10) (q1) := eb5
        replace ev5 : vv5 = nV (r 9) (n 10) (q1) := ev5
        replace hA5 : nOk (r 9) (n 10) (q1) = true := hA5
        replace hB5 : nBad (r 9) (n 10) (q1) 0 63 := hB5
        refine z_X (Y := MW θ ad (nv (n 0) (n 1) (n 3) (n 5) (n 8) (n 10) pb5 vv5 pa5 (n 15) (n 16) (n 18) (n 20) (n 22) (n 27)) (nI pa5) r) (mw_eq rfl rfl rfl rfl rfl rfl rfl rfl rfl rfl rfl rfl rfl rfl rfl rfl rfl rfl rfl rfl rfl rfl rfl rfl rfl rfl rfl rfl rfl rfl rfl rfl) ?_
        refine z_istore_n C [(3, .int (nI 2)), (2, .int (nI 1)), (1, .int (rS (r 9) (n 10) (n 12) 1)), (0, .ref (ad 0))] dX6_takeSitter_49 rfl (by decide) rfl ?_
        refine z_iload_n C dX6_takeSitter_50 rfl (show zlk _ 3 = some (.int (nI 2)) from rfl) ?_
        refine z_if_leN C 56 dX6_takeSitter_51 (by decide) (by decide) (fun h => absurd h (by decide)) (fun _ => ?_)
        refine z_iload_n C dX6_takeSitter_54 rfl (show zlk _ 3 = some (.int (nI 2)) from rfl) ?_
        exact E _ _ _ _ (Or.inl (by have hFn : rF (r 9) (n 10) (n 12) 2 = (2, pa5) := (rF_step (by rw [hF1]) (by show m_hr (r 9) (n 10) (sk (r 9) (n 10) (nE (r 9) (n 10) (rwq (r 9) (n 10) (n 12) 0))) = nI 44; rw [← hq0, ← E1]; exact h19t_1)).trans (show nF (r 9) (n 10) (rwq (r 9) (n 10) (n 12) 1) 0 63 = (2, pa5) by rw [← hq1, ea5]; exact nF_B hA5 hB5); rw [rF_up (i := 2) (by decide) (by rw [hFn]; simp), hFn]; exact ⟨by simp, rfl, mJ_of rfl rfl rfl rfl rfl rfl rfl rfl rfl rfl rfl rfl rfl rfl rfl rfl rfl rfl rfl rfl rfl rfl⟩)) (rfl) dX6_takeSitter_55
      · replace ea5 : pa5 = sk (r 9) (n 10) (q1) := ea5
        replace eb5 : pb5 = nE (r 9) (n 10) (q1) := eb5
        replace ev5 : vv5 = nV (r 9) (n 10) (q1) := ev5
        replace hA5 : nOk (r 9) (n 10) (q1) = true := hA5
        replace hB5 : ¬ nBad (r 9) (n 10) (q1) 0 63 := hB5
        have lb5 : pb5 ≤ n 10 := by rw [eb5]; exact (nE_le (lq1)).2
        refine z_X (Y := MW θ ad (nv (n 0) (n 1) (n 3) (n 5) (n 8) (n 10) pb5 vv5 pa5 (n 15) (n 16) (n 18) (n 20) (n 22) (n 27)) g r) (mw_eq rfl rfl rfl rfl rfl rfl rfl rfl rfl rfl rfl rfl rfl rfl rfl rfl rfl rfl rfl rfl rfl rfl rfl rfl rfl rfl rfl rfl rfl rfl rfl rfl) ?_
        refine z_istore_n C [(3, .int (nI 0)), (2, .int (nI 1)), (1, .int (rS (r 9) (n 10) (n 12) 1)), (0, .ref (ad 0))] dX6_takeSitter_49 rfl (by decide) rfl ?_
        refine z_iload_n C dX6_takeSitter_50 rfl (show zlk _ 3 = some (.int (nI 0)) from rfl) ?_
        refine z_if_leN C 56 dX6_takeSitter_51 (by decide) (by decide) (fun _ => ?_) (fun h => absurd h (by decide))
        have hF2 : rF (r 9) (n 10) (n 12) 2 = (0, 0) := (rF_step (by rw [hF1]) (by show m_hr (r 9) (n 10) (sk (r 9) (n 10) (nE (r 9) (n 10) (rwq (r 9) (n 10) (n 12) 0))) = nI 44; rw [← hq0, ← E1]; exact h19t_1)).trans (by rw [← hq1]; exact nF_C hA5 hB5)
        refine z_iload_n C dX6_takeSitter_56 rfl (show zlk _ 1 = some (.int (rS (r 9) (n 10) (n 12) 1)) from rfl) ?_
        refine z_aload_n C dX6_takeSitter_57 rfl (show zlk _ 0 = some (.ref (ad 0)) from rfl) ?_
        refine z_mg C hin 13 (by decide) (by decide +kernel) (v := .int (nI vv5)) mfv_13 dX6_takeSitter_58 ?_
        refine z_bipush C (v := nI 6) dX6_takeSitter_61 (by decide) ?_
        refine z_iload_n C dX6_takeSitter_63 rfl (show zlk _ 2 = some (.int (nI 1)) from rfl) ?_
        refine z_imulN C dX6_takeSitter_64 ?_
        refine z_top (v' := .int (nI 6)) rfl ?_
        refine z_ishl C dX6_takeSitter_65 ?_
        refine z_ior C dX6_takeSitter_66 ?_
        refine z_top (v' := .int (rS (r 9) (n 10) (n 12) 2)) (by rw [show vv5 = nV (r 9) (n 10) (rwq (r 9) (n 10) (n 12) 1) by rw [← hq1]; exact ev5]; rfl) ?_
        refine z_istore_n C [(1, .int (rS (r 9) (n 10) (n 12) 2)), (3, .int (nI 0)), (2, .int (nI 1)), (0, .ref (ad 0))] dX6_takeSitter_67 rfl (by decide) rfl ?_
        refine z_iincN C [(2, .int (nI 2)), (1, .int (rS (r 9) (n 10) (n 12) 2)), (3, .int (nI 0)), (0, .ref (ad 0))] dX6_takeSitter_68 rfl (by decide) rfl ?_
        refine z_goto C 4 dX6_takeSitter_71 (by decide) ?_
        refine z_iload_n C dX6_takeSitter_4 rfl (show zlk _ 2 = some (.int (nI 2)) from rfl) ?_
        refine z_iconst C (v := nI 5) dX6_takeSitter_5 (by decide) ?_
        refine z_icmp_geF C 74 dX6_takeSitter_6 (by decide) (by omega) (by omega) (by decide) ?_
        refine z_iload_n C dX6_takeSitter_9 rfl (show zlk _ 2 = some (.int (nI 2)) from rfl) ?_
        refine z_if_leN C 42 dX6_takeSitter_10 (by decide) (by decide) (fun h => absurd h (by decide)) (fun _ => ?_)
        refine z_aload_n C dX6_takeSitter_13 rfl (show zlk _ 0 = some (.ref (ad 0)) from rfl) ?_
        refine z_callVi C (As := []) (rest := []) (c_X6_here l θ ad (nv (n 0) (n 1) (n 3) (n 5) (n 8) (n 10) pb5 vv5 pa5 (n 15) (n 16) (n 18) (n 20) (n 22) (n 27)) g r (show pb5 ≤ n 10 by omega) (hL)) gX6_takeSitter_X6_here rfl 0 (by decide +kernel) (by decide) (by decide) 0 rfl rfl rfl rfl rfl (Nat.le_of_ble_eq_true rfl) dX6_takeSitter_14 ?_
        rintro _ _ ⟨ph3, eh3, rfl, rfl⟩
        replace eh3 : ph3 = sk (r 9) (n 10) (pb5) := eh3
        have lh3 : ph3 ≤ n 10 := by rw [eh3]; exact (sk_le (by omega)).2
        refine z_top (v' := .int (m_hr (r 9) (n 10) ph3)) rfl ?_
        refine z_X (Y := MW θ ad (nv (n 0) (n 1) (n 3) (n 5) (n 8) (n 10) ph3 vv5 pa5 (n 15) (n 16) (n 18) (n 20) (n 22) (n 27)) g r) (mw_eq rfl rfl rfl rfl rfl rfl rfl rfl rfl rfl rfl rfl rfl rfl rfl rfl rfl rfl rfl rfl rfl rfl rfl rfl rfl rfl rfl rfl rfl rfl rfl rfl) ?_
        refine z_bipush C (v := nI 44) dX6_takeSitter_17 (by decide) ?_
        refine z_icmp_eq C 32 dX6_takeSitter_19 (by decide) (fun h19t_2 => ?_) (fun h19n_2 => ?_)
        · refine z_aload_n C dX6_takeSitter_32 rfl (show zlk _ 0 = some (.ref (ad 0)) from rfl) ?_
          refine z_dup C dX6_takeSitter_33 rfl ?_
          refine z_mg C hin 12 (by decide) (by decide +kernel) (v := .int (nI ph3)) mfv_12 dX6_takeSitter_34 ?_
          refine z_iconst C (v := nI 1) dX6_takeSitter_37 (by decide) ?_
          refine z_iaddN C dX6_takeSitter_38 ?_
          refine z_nmN (fun q2 eq2 => ?_)
          have E2 : ph3 = sk (r 9) (n 10) (nE (r 9) (n 10) (q1)) := by rw [← eb5]; exact eh3
          have hq2 : q2 = rwq (r 9) (n 10) (n 12) 2 := by rw [eq2, E2, hq1]; rfl
          have lq2 : q2 ≤ n 10 := by rw [eq2]; exact hr_lt h19t_2 (by decide)
          refine z_mp C hin 12 (by decide) (by decide +kernel) rfl rfl mpv_12 dX6_takeSitter_39 ?_
          refine z_aload_n C dX6_takeSitter_42 rfl (show zlk _ 0 = some (.ref (ad 0)) from rfl) ?_
          refine z_iconst C (v := nI 0) dX6_takeSitter_43 (by decide) ?_
          refine z_bipush C (v := nI 63) dX6_takeSitter_44 (by decide) ?_
          refine z_callVi C (As := [.int (nI 0), .int (nI 63)]) (rest := []) (c_X6_takeNumber l θ ad (nv (n 0) (n 1) (n 3) (n 5) (n 8) (n 10) q2 vv5 pa5 (n 15) (n 16) (n 18) (n 20) (n 22) (n 27)) g r 0 63 (lq2) (hL) (by decide) (by decide)) gX6_takeSitter_X6_takeNumber rfl 2 (by decide +kernel) (by decide) (by decide) 0 rfl rfl rfl rfl rfl (Nat.le_of_ble_eq_true rfl) dX6_takeSitter_46 ?_
          rintro _ _ ⟨pa6, pb6, vv6, ea6, eb6, ev6, (⟨hA6, rfl, rfl⟩ | ⟨hA6, hB6, rfl, rfl⟩ | ⟨hA6, hB6, rfl, rfl⟩)⟩
          · replace ea6 : pa6 = sk (r 9) (n 10) (q2) := ea6
            replace eb6 : pb6 = nE (r 9) (n 10) (q2) := eb6
            replace ev6 : vv6 = nV (r 9) (n 10) (q2) := ev6
            replace hA6 : nOk (r 9) (n 10) (q2) = false := hA6
            refine z_X (Y := MW θ ad (nv (n 0) (n 1) (n 3) (n 5) (n 8) (n 10) pa6 vv5 pa5 (n 15) (n 16) (n 18) (n 20) (n 22) (n 27)) (nI pa6) r) (mw_eq rfl rfl rfl rfl rfl rfl rfl rfl rfl rfl rfl rfl rfl rfl rfl rfl rfl rfl rfl rfl rfl rfl rfl rfl rfl rfl rfl rfl rfl rfl rfl rfl) ?_
            refine z_istore_n C [(3, .int (nI 1)), (2, .int (nI 2)), (1, .int (rS (r 9) (n 10) (n 12) 2)), (0, .ref (ad 0))] dX6_takeSitter_49 rfl (by decide) rfl ?_
            refine z_iload_n C dX6_takeSitter_50 rfl (show zlk _ 3 = some (.int (nI 1)) from rfl) ?_
            refine z_if_leN C 56 dX6_takeSitter_51 (by decide) (by decide) (fun h => absurd h (by decide)) (fun _ => ?_)
            refine z_iload_n C dX6_takeSitter_54 rfl (show zlk _ 3 = some (.int (nI 1)) from rfl) ?_
            exact E _ _ _ _ (Or.inl (by have hFn : rF (r 9) (n 10) (n 12) 3 = (1, pa6) := (rF_step (by rw [hF2]) (by show m_hr (r 9) (n 10) (sk (r 9) (n 10) (nE (r 9) (n 10) (rwq (r 9) (n 10) (n 12) 1))) = nI 44; rw [← hq1, ← E2]; exact h19t_2)).trans (show nF (r 9) (n 10) (rwq (r 9) (n 10) (n 12) 2) 0 63 = (1, pa6) by rw [← hq2, ea6]; exact nF_A hA6); rw [rF_up (i := 3) (by decide) (by rw [hFn]; simp), hFn]; exact ⟨by simp, rfl, mJ_of rfl rfl rfl rfl rfl rfl rfl rfl rfl rfl rfl rfl rfl rfl rfl rfl rfl rfl rfl rfl rfl rfl⟩)) (rfl) dX6_takeSitter_55
          · replace ea6 : pa6 = sk (r 9) (n 10) (q2) := ea6
            replace eb6 : pb6 = nE (r 9) (n 10) (q2) := eb6
            replace ev6 : vv6 = nV (r 9) (n 10) (q2) := ev6
            replace hA6 : nOk (r 9) (n 10) (q2) = true := hA6
            replace hB6 : nBad (r 9) (n 10) (q2) 0 63 := hB6
            refine z_X (Y := MW θ ad (nv (n 0) (n 1) (n 3) (n 5) (n 8) (n 10) pb6 vv6 pa6 (n 15) (n 16) (n 18) (n 20) (n 22) (n 27)) (nI pa6) r) (mw_eq rfl rfl rfl rfl rfl rfl rfl rfl rfl rfl rfl rfl rfl rfl rfl rfl rfl rfl rfl rfl rfl rfl rfl rfl rfl rfl rfl rfl rfl rfl rfl rfl) ?_
            refine z_istore_n C [(3, .int (nI 2)), (2, .int (nI 2)), (1, .int (rS (r 9) (n 10) (n 12) 2)), (0, .ref (ad 0))] dX6_takeSitter_49 rfl (by decide) rfl ?_
            refine z_iload_n C dX6_takeSitter_50 rfl (show zlk _ 3 = some (.int (nI 2)) from rfl) ?_
            refine z_if_leN C 56 dX6_takeSitter_51 (by decide) (by decide) (fun h => absurd h (by decide)) (fun _ => ?_)
            refine z_iload_n C dX6_takeSitter_54 rfl (show zlk _ 3 = some (.int (nI 2)) from rfl) ?_
            exact E _ _ _ _ (Or.inl (by have hFn : rF (r 9) (n 10) (n 12) 3 = (2, pa6) := (rF_step (by rw [hF2]) (by show m_hr (r 9) (n 10) (sk (r 9) (n 10) (nE (r 9) (n 10) (rwq (r 9) (n 10) (n 12) 1))) = nI 44; rw [← hq1, ← E2]; exact h19t_2)).trans (show nF (r 9) (n 10) (rwq (r 9) (n 10) (n 12) 2) 0 63 = (2, pa6) by rw [← hq2, ea6]; exact nF_B hA6 hB6); rw [rF_up (i := 3) (by decide) (by rw [hFn]; simp), hFn]; exact ⟨by simp, rfl, mJ_of rfl rfl rfl rfl rfl rfl rfl rfl rfl rfl rfl rfl rfl rfl rfl rfl rfl rfl rfl rfl rfl rfl⟩)) (rfl) dX6_takeSitter_55
          · replace ea6 : pa6 = sk (r 9) (n 10) (q2) := ea6
            replace eb6 : pb6 = nE (r 9) (n 10) (q2) := eb6
            replace ev6 : vv6 = nV (r 9) (n 10) (q2) := ev6
            replace hA6 : nOk (r 9) (n 10) (q2) = true := hA6
            replace hB6 : ¬ nBad (r 9) (n 10) (q2) 0 63 := hB6
            have lb6 : pb6 ≤ n 10 := by rw [eb6]; exact (nE_le (lq2)).2
            refine z_X (Y := MW θ ad (nv (n 0) (n 1) (n 3) (n 5) (n 8) (n 10) pb6 vv6 pa6 (n 15) (n 16) (n 18) (n 20) (n 22) (n 27)) g r) (mw_eq rfl rfl rfl rfl rfl rfl rfl rfl rfl rfl rfl rfl rfl rfl rfl rfl rfl rfl rfl rfl rfl rfl rfl rfl rfl rfl rfl rfl rfl rfl rfl rfl) ?_
            refine z_istore_n C [(3, .int (nI 0)), (2, .int (nI 2)), (1, .int (rS (r 9) (n 10) (n 12) 2)), (0, .ref (ad 0))] dX6_takeSitter_49 rfl (by decide) rfl ?_
            refine z_iload_n C dX6_takeSitter_50 rfl (show zlk _ 3 = some (.int (nI 0)) from rfl) ?_
            refine z_if_leN C 56 dX6_takeSitter_51 (by decide) (by decide) (fun _ => ?_) (fun h => absurd h (by decide))
            have hF3 : rF (r 9) (n 10) (n 12) 3 = (0, 0) := (rF_step (by rw [hF2]) (by show m_hr (r 9) (n 10) (sk (r 9) (n 10) (nE (r 9) (n 10) (rwq (r 9) (n 10) (n 12) 1))) = nI 44; rw [← hq1, ← E2]; exact h19t_2)).trans (by rw [← hq2]; exact nF_C hA6 hB6)
            refine z_iload_n C dX6_takeSitter_56 rfl (show zlk _ 1 = some (.int (rS (r 9) (n 10) (n 12) 2)) from rfl) ?_
            refine z_aload_n C dX6_takeSitter_57 rfl (show zlk _ 0 = some (.ref (ad 0)) from rfl) ?_
            refine z_mg C hin 13 (by decide) (by decide +kernel) (v := .int (nI vv6)) mfv_13 dX6_takeSitter_58 ?_
            refine z_bipush C (v := nI 6) dX6_takeSitter_61 (by decide) ?_
            refine z_iload_n C dX6_takeSitter_63 rfl (show zlk _ 2 = some (.int (nI 2)) from rfl) ?_
            refine z_imulN C dX6_takeSitter_64 ?_
            refine z_top (v' := .int (nI 12)) rfl ?_
            refine z_ishl C dX6_takeSitter_65 ?_
            refine z_ior C dX6_takeSitter_66 ?_
            refine z_top (v' := .int (rS (r 9) (n 10) (n 12) 3)) (by rw [show vv6 = nV (r 9) (n 10) (rwq (r 9) (n 10) (n 12) 2) by rw [← hq2]; exact ev6]; rfl) ?_
            refine z_istore_n C [(1, .int (rS (r 9) (n 10) (n 12) 3)), (3, .int (nI 0)), (2, .int (nI 2)), (0, .ref (ad 0))] dX6_takeSitter_67 rfl (by decide) rfl ?_
            refine z_iincN C [(2, .int (nI 3)), (1, .int (rS (r 9) (n 10) (n 12) 3)), (3, .int (nI 0)), (0, .ref (ad 0))] dX6_takeSitter_68 rfl (by decide) rfl ?_
            refine z_goto C 4 dX6_takeSitter_71 (by decide) ?_
            refine z_iload_n C dX6_takeSitter_4 rfl (show zlk _ 2 = some (.int (nI 3)) from rfl) ?_
            refine z_iconst C (v := nI 5) dX6_takeSitter_5 (by decide) ?_
            refine z_icmp_geF C 74 dX6_takeSitter_6 (by decide) (by omega) (by omega) (by decide) ?_
            refine z_iload_n C dX6_takeSitter_9 rfl (show zlk _ 2 = some (.int (nI 3)) from rfl) ?_
            refine z_if_leN C 42 dX6_takeSitter_10 (by decide) (by decide) (fun h => absurd h (by decide)) (fun _ => ?_)
            refine z_aload_n C dX6_takeSitter_13 rfl (show zlk _ 0 = some (.ref (ad 0)) from rfl) ?_
            refine z_callVi C (As := []) (rest := []) (c_X6_here l θ ad (nv (n 0) (n 1) (n 3) (n 5) (n 8) (n 10) pb6 vv6 pa6 (n 15) (n 16) (n 18) (n 20) (n 22) (n 27)) g r (show pb6 ≤ n 10 by omega) (hL)) gX6_takeSitter_X6_here rfl 0 (by decide +kernel) (by decide) (by decide) 0 rfl rfl rfl rfl rfl (Nat.le_of_ble_eq_true rfl) dX6_takeSitter_14 ?_
            rintro _ _ ⟨ph4, eh4, rfl, rfl⟩
            replace eh4 : ph4 = sk (r 9) (n 10) (pb6) := eh4
            have lh4 : ph4 ≤ n 10 := by rw [eh4]; exact (sk_le (by omega)).2
            refine z_top (v' := .int (m_hr (r 9) (n 10) ph4)) rfl ?_
            refine z_X (Y := MW θ ad (nv (n 0) (n 1) (n 3) (n 5) (n 8) (n 10) ph4 vv6 pa6 (n 15) (n 16) (n 18) (n 20) (n 22) (n 27)) g r) (mw_eq rfl rfl rfl rfl rfl rfl rfl rfl rfl rfl rfl rfl rfl rfl rfl rfl rfl rfl rfl rfl rfl rfl rfl rfl rfl rfl rfl rfl rfl rfl rfl rfl) ?_
            refine z_bipush C (v := nI 44) dX6_takeSitter_17 (by decide) ?_
            refine z_icmp_eq C 32 dX6_takeSitter_19 (by decide) (fun h19t_3 => ?_) (fun h19n_3 => ?_)
            · refine z_aload_n C dX6_takeSitter_32 rfl (show zlk _ 0 = some (.ref (ad 0)) from rfl) ?_
              refine z_dup C dX6_takeSitter_33 rfl ?_
              refine z_mg C hin 12 (by decide) (by decide +kernel) (v := .int (nI ph4)) mfv_12 dX6_takeSitter_34 ?_
              refine z_iconst C (v := nI 1) dX6_takeSitter_37 (by decide) ?_
              refine z_iaddN C dX6_takeSitter_38 ?_
              refine z_nmN (fun q3 eq3 => ?_)
              have E3 : ph4 = sk (r 9) (n 10) (nE (r 9) (n 10) (q2)) := by rw [← eb6]; exact eh4
              have hq3 : q3 = rwq (r 9) (n 10) (n 12) 3 := by rw [eq3, E3, hq2]; rfl
              have lq3 : q3 ≤ n 10 := by rw [eq3]; exact hr_lt h19t_3 (by decide)
              refine z_mp C hin 12 (by decide) (by decide +kernel) rfl rfl mpv_12 dX6_takeSitter_39 ?_
              refine z_aload_n C dX6_takeSitter_42 rfl (show zlk _ 0 = some (.ref (ad 0)) from rfl) ?_
              refine z_iconst C (v := nI 0) dX6_takeSitter_43 (by decide) ?_
              refine z_bipush C (v := nI 63) dX6_takeSitter_44 (by decide) ?_
              refine z_callVi C (As := [.int (nI 0), .int (nI 63)]) (rest := []) (c_X6_takeNumber l θ ad (nv (n 0) (n 1) (n 3) (n 5) (n 8) (n 10) q3 vv6 pa6 (n 15) (n 16) (n 18) (n 20) (n 22) (n 27)) g r 0 63 (lq3) (hL) (by decide) (by decide)) gX6_takeSitter_X6_takeNumber rfl 2 (by decide +kernel) (by decide) (by decide) 0 rfl rfl rfl rfl rfl (Nat.le_of_ble_eq_true rfl) dX6_takeSitter_46 ?_
              rintro _ _ ⟨pa7, pb7, vv7, ea7, eb7, ev7, (⟨hA7, rfl, rfl⟩ | ⟨hA7, hB7, rfl, rfl⟩ | ⟨hA7, hB7, rfl, rfl⟩)⟩
              · replace ea7 : pa7 = sk (r 9) (n 10) (q3) := ea7
                replace eb7 : pb7 = nE (r 9) (n 10) (q3) := eb7
                replace ev7 : vv7 = nV (r 9) (n 10) (q3) := ev7
                replace hA7 : nOk (r 9) (n 10) (q3) = false := hA7
                refine z_X (Y := MW θ ad (nv (n 0) (n 1) (n 3) (n 5) (n 8) (n 10) pa7 vv6 pa6 (n 15) (n 16) (n 18) (n 20) (n 22) (n 27)) (nI pa7) r) (mw_eq rfl rfl rfl rfl rfl rfl rfl rfl rfl rfl rfl rfl rfl rfl rfl rfl rfl rfl rfl rfl rfl rfl rfl rfl rfl rfl rfl rfl rfl rfl rfl rfl) ?_
                refine z_istore_n C [(3, .int (nI 1)), (2, .int (nI 3)), (1, .int (rS (r 9) (n 10) (n 12) 3)), (0, .ref (ad 0))] dX6_takeSitter_49 rfl (by decide) rfl ?_
                refine z_iload_n C dX6_takeSitter_50 rfl (show zlk _ 3 = some (.int (nI 1)) from rfl) ?_
                refine z_if_leN C 56 dX6_takeSitter_51 (by decide) (by decide) (fun h => absurd h (by decide)) (fun _ => ?_)
                refine z_iload_n C dX6_takeSitter_54 rfl (show zlk _ 3 = some (.int (nI 1)) from rfl) ?_
                exact E _ _ _ _ (Or.inl (by have hFn : rF (r 9) (n 10) (n 12) 4 = (1, pa7) := (rF_step (by rw [hF3]) (by show m_hr (r 9) (n 10) (sk (r 9) (n 10) (nE (r 9) (n 10) (rwq (r 9) (n 10) (n 12) 2))) = nI 44; rw [← hq2, ← E3]; exact h19t_3)).trans (show nF (r 9) (n 10) (rwq (r 9) (n 10) (n 12) 3) 0 63 = (1, pa7) by rw [← hq3, ea7]; exact nF_A hA7); rw [rF_up (i := 4) (by decide) (by rw [hFn]; simp), hFn]; exact ⟨by simp, rfl, mJ_of rfl rfl rfl rfl rfl rfl rfl rfl rfl rfl rfl rfl rfl rfl rfl rfl rfl rfl rfl rfl rfl rfl⟩)) (rfl) dX6_takeSitter_55
              · replace ea7 : pa7 = sk (r 9) (n 10) (q3) := ea7
                replace eb7 : pb7 = nE (r 9) (n 10) (q3) := eb7
                replace ev7 : vv7 = nV (r 9) (n 10) (q3) := ev7
                replace hA7 : nOk (r 9) (n 10) (q3) = true := hA7
                replace hB7 : nBad (r 9) (n 10) (q3) 0 63 := hB7
                refine z_X (Y := MW θ ad (nv (n 0) (n 1) (n 3) (n 5) (n 8) (n 10) pb7 vv7 pa7 (n 15) (n 16) (n 18) (n 20) (n 22) (n 27)) (nI pa7) r) (mw_eq rfl rfl rfl rfl rfl rfl rfl rfl rfl rfl rfl rfl rfl rfl rfl rfl rfl rfl rfl rfl rfl rfl rfl rfl rfl rfl rfl rfl rfl rfl rfl rfl) ?_
                refine z_istore_n C [(3, .int (nI 2)), (2, .int (nI 3)), (1, .int (rS (r 9) (n 10) (n 12) 3)), (0, .ref (ad 0))] dX6_takeSitter_49 rfl (by decide) rfl ?_
                refine z_iload_n C dX6_takeSitter_50 rfl (show zlk _ 3 = some (.int (nI 2)) from rfl) ?_
                refine z_if_leN C 56 dX6_takeSitter_51 (by decide) (by decide) (fun h => absurd h (by decide)) (fun _ => ?_)
                refine z_iload_n C dX6_takeSitter_54 rfl (show zlk _ 3 = some (.int (nI 2)) from rfl) ?_
                exact E _ _ _ _ (Or.inl (by have hFn : rF (r 9) (n 10) (n 12) 4 = (2, pa7) := (rF_step (by rw [hF3]) (by show m_hr (r 9) (n 10) (sk (r 9) (n 10) (nE (r 9) (n 10) (rwq (r 9) (n 10) (n 12) 2))) = nI 44; rw [← hq2, ← E3]; exact h19t_3)).trans (show nF (r 9) (n 10) (rwq (r 9) (n 10) (n 12) 3) 0 63 = (2, pa7) by rw [← hq3, ea7]; exact nF_B hA7 hB7); rw [rF_up (i := 4) (by decide) (by rw [hFn]; simp), hFn]; exact ⟨by simp, rfl, mJ_of rfl rfl rfl rfl rfl rfl rfl rfl rfl rfl rfl rfl rfl rfl rfl rfl rfl rfl rfl rfl rfl rfl⟩)) (rfl) dX6_takeSitter_55
              · replace ea7 : pa7 = sk (r 9) (n 10) (q3) := ea7
                replace eb7 : pb7 = nE (r 9) (n 10) (q3) := eb7
                replace ev7 : vv7 = nV (r 9) (n 10) (q3) := ev7
                replace hA7 : nOk (r 9) (n 10) (q3) = true := hA7
                replace hB7 : ¬ nBad (r 9) (n 10) (q3) 0 63 := hB7
                have lb7 : pb7 ≤ n 10 := by rw [eb7]; exact (nE_le (lq3)).2
                refine z_X (Y := MW θ ad (nv (n 0) (n 1) (n 3) (n 5) (n 8) (n 10) pb7 vv7 pa7 (n 15) (n 16) (n 18) (n 20) (n 22) (n 27)) g r) (mw_eq rfl rfl rfl rfl rfl rfl rfl rfl rfl rfl rfl rfl rfl rfl rfl rfl rfl rfl rfl rfl rfl rfl rfl rfl rfl rfl rfl rfl rfl rfl rfl rfl) ?_
                refine z_istore_n C [(3, .int (nI 0)), (2, .int (nI 3)), (1, .int (rS (r 9) (n 10) (n 12) 3)), (0, .ref (ad 0))] dX6_takeSitter_49 rfl (by decide) rfl ?_
                refine z_iload_n C dX6_takeSitter_50 rfl (show zlk _ 3 = some (.int (nI 0)) from rfl) ?_
                refine z_if_leN C 56 dX6_takeSitter_51 (by decide) (by decide) (fun _ => ?_) (fun h => absurd h (by decide))
                have hF4 : rF (r 9) (n 10) (n 12) 4 = (0, 0) := (rF_step (by rw [hF3]) (by show m_hr (r 9) (n 10) (sk (r 9) (n 10) (nE (r 9) (n 10) (rwq (r 9) (n 10) (n 12) 2))) = nI 44; rw [← hq2, ← E3]; exact h19t_3)).trans (by rw [← hq3]; exact nF_C hA7 hB7)
                refine z_iload_n C dX6_takeSitter_56 rfl (show zlk _ 1 = some (.int (rS (r 9) (n 10) (n 12) 3)) from rfl) ?_
                refine z_aload_n C dX6_takeSitter_57 rfl (show zlk _ 0 = some (.ref (ad 0)) from rfl) ?_
                refine z_mg C hin 13 (by decide) (by decide +kernel) (v := .int (nI vv7)) mfv_13 dX6_takeSitter_58 ?_
                refine z_bipush C (v := nI 6) dX6_takeSitter_61 (by decide) ?_
                refine z_iload_n C dX6_takeSitter_63 rfl (show zlk _ 2 = some (.int (nI 3)) from rfl) ?_
                refine z_imulN C dX6_takeSitter_64 ?_
                refine z_top (v' := .int (nI 18)) rfl ?_
                refine z_ishl C dX6_takeSitter_65 ?_
                refine z_ior C dX6_takeSitter_66 ?_
                refine z_top (v' := .int (rS (r 9) (n 10) (n 12) 4)) (by rw [show vv7 = nV (r 9) (n 10) (rwq (r 9) (n 10) (n 12) 3) by rw [← hq3]; exact ev7]; rfl) ?_
                refine z_istore_n C [(1, .int (rS (r 9) (n 10) (n 12) 4)), (3, .int (nI 0)), (2, .int (nI 3)), (0, .ref (ad 0))] dX6_takeSitter_67 rfl (by decide) rfl ?_
                refine z_iincN C [(2, .int (nI 4)), (1, .int (rS (r 9) (n 10) (n 12) 4)), (3, .int (nI 0)), (0, .ref (ad 0))] dX6_takeSitter_68 rfl (by decide) rfl ?_
                refine z_goto C 4 dX6_takeSitter_71 (by decide) ?_
                refine z_iload_n C dX6_takeSitter_4 rfl (show zlk _ 2 = some (.int (nI 4)) from rfl) ?_
                refine z_iconst C (v := nI 5) dX6_takeSitter_5 (by decide) ?_
                refine z_icmp_geF C 74 dX6_takeSitter_6 (by decide) (by omega) (by omega) (by decide) ?_
                refine z_iload_n C dX6_takeSitter_9 rfl (show zlk _ 2 = some (.int (nI 4)) from rfl) ?_
                refine z_if_leN C 42 dX6_takeSitter_10 (by decide) (by decide) (fun h => absurd h (by decide)) (fun _ => ?_)
                refine z_aload_n C dX6_takeSitter_13 rfl (show zlk _ 0 = some (.ref (ad 0)) from rfl) ?_
                refine z_callVi C (As := []) (rest := []) (c_X6_here l θ ad (nv (n 0) (n 1) (n 3) (n 5) (n 8) (n 10) pb7 vv7 pa7 (n 15) (n 16) (n 18) (n 20) (n 22) (n 27)) g r (show pb7 ≤ n 10 by omega) (hL)) gX6_takeSitter_X6_here rfl 0 (by decide +kernel) (by decide) (by decide) 0 rfl rfl rfl rfl rfl (Nat.le_of_ble_eq_true rfl) dX6_takeSitter_14 ?_
                rintro _ _ ⟨ph5, eh5, rfl, rfl⟩
                replace eh5 : ph5 = sk (r 9) (n 10) (pb7) := eh5
                have lh5 : ph5 ≤ n 10 := by rw [eh5]; exact (sk_le (by omega)).2
                refine z_top (v' := .int (m_hr (r 9) (n 10) ph5)) rfl ?_
                refine z_X (Y := MW θ ad (nv (n 0) (n 1) (n 3) (n 5) (n 8) (n 10) ph5 vv7 pa7 (n 15) (n 16) (n 18) (n 20) (n 22) (n 27)) g r) (mw_eq rfl rfl rfl rfl rfl rfl rfl rfl rfl rfl rfl rfl rfl rfl rfl rfl rfl rfl rfl rfl rfl rfl rfl rfl rfl rfl rfl rfl rfl rfl rfl rfl) ?_
                refine z_bipush C (v := nI 44) dX6_takeSitter_17 (by decide) ?_
                refine z_icmp_eq C 32 dX6_takeSitter_19 (by decide) (fun h19t_4 => ?_) (fun h19n_4 => ?_)
                · refine z_aload_n C dX6_takeSitter_32 rfl (show zlk _ 0 = some (.ref (ad 0)) from rfl) ?_
                  refine z_dup C dX6_takeSitter_33 rfl ?_
                  refine z_mg C hin 12 (by decide) (by decide +kernel) (v := .int (nI ph5)) mfv_12 dX6_takeSitter_34 ?_
                  refine z_iconst C (v := nI 1) dX6_takeSitter_37 (by decide) ?_
                  refine z_iaddN C dX6_takeSitter_38 ?_
                  refine z_nmN (fun q4 eq4 => ?_)
                  have E4 : ph5 = sk (r 9) (n 10) (nE (r 9) (n 10) (q3)) := by rw [← eb7]; exact eh5
                  have hq4 : q4 = rwq (r 9) (n 10) (n 12) 4 := by rw [eq4, E4, hq3]; rfl
                  have lq4 : q4 ≤ n 10 := by rw [eq4]; exact hr_lt h19t_4 (by decide)
                  refine z_mp C hin 12 (by decide) (by decide +kernel) rfl rfl mpv_12 dX6_takeSitter_39 ?_
                  refine z_aload_n C dX6_takeSitter_42 rfl (show zlk _ 0 = some (.ref (ad 0)) from rfl) ?_
                  refine z_iconst C (v := nI 0) dX6_takeSitter_43 (by decide) ?_
                  refine z_bipush C (v := nI 63) dX6_takeSitter_44 (by decide) ?_
                  refine z_callVi C (As := [.int (nI 0), .int (nI 63)]) (rest := []) (c_X6_takeNumber l θ ad (nv (n 0) (n 1) (n 3) (n 5) (n 8) (n 10) q4 vv7 pa7 (n 15) (n 16) (n 18) (n 20) (n 22) (n 27)) g r 0 63 (lq4) (hL) (by decide) (by decide)) gX6_takeSitter_X6_takeNumber rfl 2 (by decide +kernel) (by decide) (by decide) 0 rfl rfl rfl rfl rfl (Nat.le_of_ble_eq_true rfl) dX6_takeSitter_46 ?_
                  rintro _ _ ⟨pa8, pb8, vv8, ea8, eb8, ev8, (⟨hA8, rfl, rfl⟩ | ⟨hA8, hB8, rfl, rfl⟩ | ⟨hA8, hB8, rfl, rfl⟩)⟩
                  · replace ea8 : pa8 = sk (r 9) (n 10) (q4) := ea8
                    replace eb8 : pb8 = nE (r 9) (n 10) (q4) := eb8
                    replace ev8 : vv8 = nV (r 9) (n 10) (q4) := ev8
                    replace hA8 : nOk (r 9) (n 10) (q4) = false := hA8
                    refine z_X (Y := MW θ ad (nv (n 0) (n 1) (n 3) (n 5) (n 8) (n 10) pa8 vv7 pa7 (n 15) (n 16) (n 18) (n 20) (n 22) (n 27)) (nI pa8) r) (mw_eq rfl rfl rfl rfl rfl rfl rfl rfl rfl rfl rfl rfl rfl rfl rfl rfl rfl rfl rfl rfl rfl rfl rfl rfl rfl rfl rfl rfl rfl rfl rfl rfl) ?_
                    refine z_istore_n C [(3, .int (nI 1)), (2, .int (nI 4)), (1, .int (rS (r 9) (n 10) (n 12) 4)), (0, .ref (ad 0))] dX6_takeSitter_49 rfl (by decide) rfl ?_
                    refine z_iload_n C dX6_takeSitter_50 rfl (show zlk _ 3 = some (.int (nI 1)) from rfl) ?_
                    refine z_if_leN C 56 dX6_takeSitter_51 (by decide) (by decide) (fun h => absurd h (by decide)) (fun _ => ?_)
                    refine z_iload_n C dX6_takeSitter_54 rfl (show zlk _ 3 = some (.int (nI 1)) from rfl) ?_
                    exact E _ _ _ _ (Or.inl (by have hFn : rF (r 9) (n 10) (n 12) 5 = (1, pa8) := (rF_step (by rw [hF4]) (by show m_hr (r 9) (n 10) (sk (r 9) (n 10) (nE (r 9) (n 10) (rwq (r 9) (n 10) (n 12) 3))) = nI 44; rw [← hq3, ← E4]; exact h19t_4)).trans (show nF (r 9) (n 10) (rwq (r 9) (n 10) (n 12) 4) 0 63 = (1, pa8) by rw [← hq4, ea8]; exact nF_A hA8); rw [rF_up (i := 5) (by decide) (by rw [hFn]; simp), hFn]; exact ⟨by simp, rfl, mJ_of rfl rfl rfl rfl rfl rfl rfl rfl rfl rfl rfl rfl rfl rfl rfl rfl rfl rfl rfl rfl rfl rfl⟩)) (rfl) dX6_takeSitter_55
                  · replace ea8 : pa8 = sk (r 9) (n 10) (q4) := ea8
                    replace eb8 : pb8 = nE (r 9) (n 10) (q4) := eb8
                    replace ev8 : vv8 = nV (r 9) (n 10) (q4) := ev8
                    replace hA8 : nOk (r 9) (n 10) (q4) = true := hA8
                    replace hB8 : nBad (r 9) (n 10) (q4) 0 63 := hB8
                    refine z_X (Y := MW θ ad (nv (n 0) (n 1) (n 3) (n 5) (n 8) (n 10) pb8 vv8 pa8 (n 15) (n 16) (n 18) (n 20) (n 22) (n 27)) (nI pa8) r) (mw_eq rfl rfl rfl rfl rfl rfl rfl rfl rfl rfl rfl rfl rfl rfl rfl rfl rfl rfl rfl rfl rfl rfl rfl rfl rfl rfl rfl rfl rfl rfl rfl rfl) ?_
                    refine z_istore_n C [(3, .int (nI 2)), (2, .int (nI 4)), (1, .int (rS (r 9) (n 10) (n 12) 4)), (0, .ref (ad 0))] dX6_takeSitter_49 rfl (by decide) rfl ?_
                    refine z_iload_n C dX6_takeSitter_50 rfl (show zlk _ 3 = some (.int (nI 2)) from rfl) ?_
                    refine z_if_leN C 56 dX6_takeSitter_51 (by decide) (by decide) (fun h => absurd h (by decide)) (fun _ => ?_)
                    refine z_iload_n C dX6_takeSitter_54 rfl (show zlk _ 3 = some (.int (nI 2)) from rfl) ?_
                    exact E _ _ _ _ (Or.inl (by have hFn : rF (r 9) (n 10) (n 12) 5 = (2, pa8) := (rF_step (by rw [hF4]) (by show m_hr (r 9) (n 10) (sk (r 9) (n 10) (nE (r 9) (n 10) (rwq (r 9) (n 10) (n 12) 3))) = nI 44; rw [← hq3, ← E4]; exact h19t_4)).trans (show nF (r 9) (n 10) (rwq (r 9) (n 10) (n 12) 4) 0 63 = (2, pa8) by rw [← hq4, ea8]; exact nF_B hA8 hB8); rw [rF_up (i := 5) (by decide) (by rw [hFn]; simp), hFn]; exact ⟨by simp, rfl, mJ_of rfl rfl rfl rfl rfl rfl rfl rfl rfl rfl rfl rfl rfl rfl rfl rfl rfl rfl rfl rfl rfl rfl⟩)) (rfl) dX6_takeSitter_55
                  · replace ea8 : pa8 = sk (r 9) (n 10) (q4) := ea8
                    replace eb8 : pb8 = nE (r 9) (n 10) (q4) := eb8
                    replace ev8 : vv8 = nV (r 9) (n 10) (q4) := ev8
                    replace hA8 : nOk (r 9) (n 10) (q4) = true := hA8
                    replace hB8 : ¬ nBad (r 9) (n 10) (q4) 0 63 := hB8
                    have lb8 : pb8 ≤ n 10 := by rw [eb8]; exact (nE_le (lq4)).2
                    refine z_X (Y := MW θ ad (nv (n 0) (n 1) (n 3) (n 5) (n 8) (n 10) pb8 vv8 pa8 (n 15) (n 16) (n 18) (n 20) (n 22) (n 27)) g r) (mw_eq rfl rfl rfl rfl rfl rfl rfl rfl rfl rfl rfl rfl rfl rfl rfl rfl rfl rfl rfl rfl rfl rfl rfl rfl rfl rfl rfl rfl rfl rfl rfl rfl) ?_
                    refine z_istore_n C [(3, .int (nI 0)), (2, .int (nI 4)), (1, .int (rS (r 9) (n 10) (n 12) 4)), (0, .ref (ad 0))] dX6_takeSitter_49 rfl (by decide) rfl ?_
                    refine z_iload_n C dX6_takeSitter_50 rfl (show zlk _ 3 = some (.int (nI 0)) from rfl) ?_
                    refine z_if_leN C 56 dX6_takeSitter_51 (by decide) (by decide) (fun _ => ?_) (fun h => absurd h (by decide))
                    have hF5 : rF (r 9) (n 10) (n 12) 5 = (0, 0) := (rF_step (by rw [hF4]) (by show m_hr (r 9) (n 10) (sk (r 9) (n 10) (nE (r 9) (n 10) (rwq (r 9) (n 10) (n 12) 3))) = nI 44; rw [← hq3, ← E4]; exact h19t_4)).trans (by rw [← hq4]; exact nF_C hA8 hB8)
                    refine z_iload_n C dX6_takeSitter_56 rfl (show zlk _ 1 = some (.int (rS (r 9) (n 10) (n 12) 4)) from rfl) ?_
                    refine z_aload_n C dX6_takeSitter_57 rfl (show zlk _ 0 = some (.ref (ad 0)) from rfl) ?_
                    refine z_mg C hin 13 (by decide) (by decide +kernel) (v := .int (nI vv8)) mfv_13 dX6_takeSitter_58 ?_
                    refine z_bipush C (v := nI 6) dX6_takeSitter_61 (by decide) ?_
                    refine z_iload_n C dX6_takeSitter_63 rfl (show zlk _ 2 = some (.int (nI 4)) from rfl) ?_
                    refine z_imulN C dX6_takeSitter_64 ?_
                    refine z_top (v' := .int (nI 24)) rfl ?_
                    refine z_ishl C dX6_takeSitter_65 ?_
                    refine z_ior C dX6_takeSitter_66 ?_
                    refine z_top (v' := .int (rS (r 9) (n 10) (n 12) 5)) (by rw [show vv8 = nV (r 9) (n 10) (rwq (r 9) (n 10) (n 12) 4) by rw [← hq4]; exact ev8]; rfl) ?_
                    refine z_istore_n C [(1, .int (rS (r 9) (n 10) (n 12) 5)), (3, .int (nI 0)), (2, .int (nI 4)), (0, .ref (ad 0))] dX6_takeSitter_67 rfl (by decide) rfl ?_
                    refine z_iincN C [(2, .int (nI 5)), (1, .int (rS (r 9) (n 10) (n 12) 5)), (3, .int (nI 0)), (0, .ref (ad 0))] dX6_takeSitter_68 rfl (by decide) rfl ?_
                    refine z_goto C 4 dX6_takeSitter_71 (by decide) ?_
                    refine z_iload_n C dX6_takeSitter_4 rfl (show zlk _ 2 = some (.int (nI 5)) from rfl) ?_
                    refine z_iconst C (v := nI 5) dX6_takeSitter_5 (by decide) ?_
                    refine z_icmp_geT C 74 dX6_takeSitter_6 (by decide) (by omega) (by omega) (by decide) ?_
                    refine z_aload_n C dX6_takeSitter_74 rfl (show zlk _ 0 = some (.ref (ad 0)) from rfl) ?_
                    refine z_mg C hin 17 (by decide) (by decide +kernel) (v := .ref (ad 17)) mf_17 dX6_takeSitter_75 ?_
                    refine z_aload_n C dX6_takeSitter_78 rfl (show zlk _ 0 = some (.ref (ad 0)) from rfl) ?_
                    refine z_mg C hin 16 (by decide) (by decide +kernel) (v := .int (nI (n 16))) mfv_16 dX6_takeSitter_79 ?_
                    refine z_iload_n C dX6_takeSitter_82 rfl (show zlk _ 1 = some (.int (rS (r 9) (n 10) (n 12) 5)) from rfl) ?_
                    refine z_iast C (f := (r 17)) 6 mr_17 (n 16) rfl (by omega) (by decide) _ msn_17 dX6_takeSitter_83 ?_
                    refine z_aload_n C dX6_takeSitter_84 rfl (show zlk _ 0 = some (.ref (ad 0)) from rfl) ?_
                    refine z_dup C dX6_takeSitter_85 rfl ?_
                    refine z_mg C hin 16 (by decide) (by decide +kernel) (v := .int (nI (n 16))) mfv_16 dX6_takeSitter_86 ?_
                    refine z_iconst C (v := nI 1) dX6_takeSitter_89 (by decide) ?_
                    refine z_iaddN C dX6_takeSitter_90 ?_
                    refine z_mp C hin 16 (by decide) (by decide +kernel) rfl rfl mpv_16 dX6_takeSitter_91 ?_
                    refine z_iconst C (v := nI 0) dX6_takeSitter_94 (by decide) ?_
                    exact E _ _ _ _ (Or.inr ⟨by rw [hF5], rfl, _, _, _, _, by rw [← hq4]; exact eb8, rfl, (mw_eq rfl rfl rfl rfl rfl rfl rfl rfl rfl rfl rfl rfl rfl rfl rfl rfl rfl rfl rfl rfl rfl rfl rfl rfl rfl rfl rfl rfl rfl rfl rfl rfl)⟩) (rfl) dX6_takeSitter_95
                · refine z_aload_n C dX6_takeSitter_22 rfl (show zlk _ 0 = some (.ref (ad 0)) from rfl) ?_
                  refine z_iconst C (v := nI 1) dX6_takeSitter_23 (by decide) ?_
                  refine z_aload_n C dX6_takeSitter_24 rfl (show zlk _ 0 = some (.ref (ad 0)) from rfl) ?_
                  refine z_mg C hin 12 (by decide) (by decide +kernel) (v := .int (nI ph5)) mfv_12 dX6_takeSitter_25 ?_
                  refine z_callVi C (As := [.int (nI 1), .int (nI ph5)]) (rest := []) (c_X6_fails l θ ad (nv (n 0) (n 1) (n 3) (n 5) (n 8) (n 10) ph5 vv7 pa7 (n 15) (n 16) (n 18) (n 20) (n 22) (n 27)) g r 1 ph5) gX6_takeSitter_X6_fails rfl 2 (by decide +kernel) (by decide) (by decide) 0 rfl rfl rfl rfl rfl (Nat.le_of_ble_eq_true rfl) dX6_takeSitter_28 ?_
                  rintro _ _ ⟨rfl, rfl⟩
                  refine z_top (v' := .int (nI 1)) rfl ?_
                  refine z_X (Y := MW θ ad (nv (n 0) (n 1) (n 3) (n 5) (n 8) (n 10) ph5 vv7 pa7 (n 15) (n 16) (n 18) (n 20) (n 22) (n 27)) (nI ph5) r) (mw_eq rfl rfl rfl rfl rfl rfl rfl rfl rfl rfl rfl rfl rfl rfl rfl rfl rfl rfl rfl rfl rfl rfl rfl rfl rfl rfl rfl rfl rfl rfl rfl rfl) ?_
                  exact E _ _ _ _ (Or.inl (by have hFn : rF (r 9) (n 10) (n 12) 5 = _ := rF_sign (by rw [hF4]) (by show ¬ m_hr (r 9) (n 10) (sk (r 9) (n 10) (nE (r 9) (n 10) (rwq (r 9) (n 10) (n 12) 3))) = nI 44; rw [← hq3, ← eb7, ← eh5]; exact h19n_4); have EE : sk (r 9) (n 10) (rE (r 9) (n 10) (n 12) 4) = ph5 := (by show sk (r 9) (n 10) (nE (r 9) (n 10) (rwq (r 9) (n 10) (n 12) 3)) = _; rw [← hq3, ← eb7, ← eh5]); rw [EE] at hFn; rw [rF_up (i := 5) (by decide) (by rw [hFn]; simp), hFn]; exact ⟨by simp, rfl, mJ_of rfl rfl rfl rfl rfl rfl rfl rfl rfl rfl rfl rfl rfl rfl rfl rfl rfl rfl rfl rfl rfl rfl⟩)) (rfl) dX6_takeSitter_31
            · refine z_aload_n C dX6_takeSitter_22 rfl (show zlk _ 0 = some (.ref (ad 0)) from rfl) ?_
              refine z_iconst C (v := nI 1) dX6_takeSitter_23 (by decide) ?_
              refine z_aload_n C dX6_takeSitter_24 rfl (show zlk _ 0 = some (.ref (ad 0)) from rfl) ?_
              refine z_mg C hin 12 (by decide) (by decide +kernel) (v := .int (nI ph4)) mfv_12 dX6_takeSitter_25 ?_
              refine z_callVi C (As := [.int (nI 1), .int (nI ph4)]) (rest := []) (c_X6_fails l θ ad (nv (n 0) (n 1) (n 3) (n 5) (n 8) (n 10) ph4 vv6 pa6 (n 15) (n 16) (n 18) (n 20) (n 22) (n 27)) g r 1 ph4) gX6_takeSitter_X6_fails rfl 2 (by decide +kernel) (by decide) (by decide) 0 rfl rfl rfl rfl rfl (Nat.le_of_ble_eq_true rfl) dX6_takeSitter_28 ?_
              rintro _ _ ⟨rfl, rfl⟩
              refine z_top (v' := .int (nI 1)) rfl ?_
              refine z_X (Y := MW θ ad (nv (n 0) (n 1) (n 3) (n 5) (n 8) (n 10) ph4 vv6 pa6 (n 15) (n 16) (n 18) (n 20) (n 22) (n 27)) (nI ph4) r) (mw_eq rfl rfl rfl rfl rfl rfl rfl rfl rfl rfl rfl rfl rfl rfl rfl rfl rfl rfl rfl rfl rfl rfl rfl rfl rfl rfl rfl rfl rfl rfl rfl rfl) ?_
              exact E _ _ _ _ (Or.inl (by have hFn : rF (r 9) (n 10) (n 12) 4 = _ := rF_sign (by rw [hF3]) (by show ¬ m_hr (r 9) (n 10) (sk (r 9) (n 10) (nE (r 9) (n 10) (rwq (r 9) (n 10) (n 12) 2))) = nI 44; rw [← hq2, ← eb6, ← eh4]; exact h19n_3); have EE : sk (r 9) (n 10) (rE (r 9) (n 10) (n 12) 3) = ph4 := (by show sk (r 9) (n 10) (nE (r 9) (n 10) (rwq (r 9) (n 10) (n 12) 2)) = _; rw [← hq2, ← eb6, ← eh4]); rw [EE] at hFn; rw [rF_up (i := 4) (by decide) (by rw [hFn]; simp), hFn]; exact ⟨by simp, rfl, mJ_of rfl rfl rfl rfl rfl rfl rfl rfl rfl rfl rfl rfl rfl rfl rfl rfl rfl rfl rfl rfl rfl rfl⟩)) (rfl) dX6_takeSitter_31
        · refine z_aload_n C dX6_takeSitter_22 rfl (show zlk _ 0 = some (.ref (ad 0)) from rfl) ?_
          refine z_iconst C (v := nI 1) dX6_takeSitter_23 (by decide) ?_
          refine z_aload_n C dX6_takeSitter_24 rfl (show zlk _ 0 = some (.ref (ad 0)) from rfl) ?_
          refine z_mg C hin 12 (by decide) (by decide +kernel) (v := .int (nI ph3)) mfv_12 dX6_takeSitter_25 ?_
          refine z_callVi C (As := [.int (nI 1), .int (nI ph3)]) (rest := []) (c_X6_fails l θ ad (nv (n 0) (n 1) (n 3) (n 5) (n 8) (n 10) ph3 vv5 pa5 (n 15) (n 16) (n 18) (n 20) (n 22) (n 27)) g r 1 ph3) gX6_takeSitter_X6_fails rfl 2 (by decide +kernel) (by decide) (by decide) 0 rfl rfl rfl rfl rfl (Nat.le_of_ble_eq_true rfl) dX6_takeSitter_28 ?_
          rintro _ _ ⟨rfl, rfl⟩
          refine z_top (v' := .int (nI 1)) rfl ?_
          refine z_X (Y := MW θ ad (nv (n 0) (n 1) (n 3) (n 5) (n 8) (n 10) ph3 vv5 pa5 (n 15) (n 16) (n 18) (n 20) (n 22) (n 27)) (nI ph3) r) (mw_eq rfl rfl rfl rfl rfl rfl rfl rfl rfl rfl rfl rfl rfl rfl rfl rfl rfl rfl rfl rfl rfl rfl rfl rfl rfl rfl rfl rfl rfl rfl rfl rfl) ?_
          exact E _ _ _ _ (Or.inl (by have hFn : rF (r 9) (n 10) (n 12) 3 = _ := rF_sign (by rw [hF2]) (by show ¬ m_hr (r 9) (n 10) (sk (r 9) (n 10) (nE (r 9) (n 10) (rwq (r 9) (n 10) (n 12) 1))) = nI 44; rw [← hq1, ← eb5, ← eh3]; exact h19n_2); have EE : sk (r 9) (n 10) (rE (r 9) (n 10) (n 12) 2) = ph3 := (by show sk (r 9) (n 10) (nE (r 9) (n 10) (rwq (r 9) (n 10) (n 12) 1)) = _; rw [← hq1, ← eb5, ← eh3]); rw [EE] at hFn; rw [rF_up (i := 3) (by decide) (by rw [hFn]; simp), hFn]; exact ⟨by simp, rfl, mJ_of rfl rfl rfl rfl rfl rfl rfl rfl rfl rfl rfl rfl rfl rfl rfl rfl rfl rfl rfl rfl rfl rfl⟩)) (rfl) dX6_takeSitter_31
    · refine z_aload_n C dX6_takeSitter_22 rfl (show zlk _ 0 = some (.ref (ad 0)) from rfl) ?_
      refine z_iconst C (v := nI 1) dX6_takeSitter_23 (by decide) ?_
      refine z_aload_n C dX6_takeSitter_24 rfl (show zlk _ 0 = some (.ref (ad 0)) from rfl) ?_
      refine z_mg C hin 12 (by decide) (by decide +kernel) (v := .int (nI ph2)) mfv_12 dX6_takeSitter_25 ?_
      refine z_callVi C (As := [.int (nI 1), .int (nI ph2)]) (rest := []) (c_X6_fails l θ ad (nv (n 0) (n 1) (n 3) (n 5) (n 8) (n 10) ph2 vv4 pa4 (n 15) (n 16) (n 18) (n 20) (n 22) (n 27)) g r 1 ph2) gX6_takeSitter_X6_fails rfl 2 (by decide +kernel) (by decide) (by decide) 0 rfl rfl rfl rfl rfl (Nat.le_of_ble_eq_true rfl) dX6_takeSitter_28 ?_
      rintro _ _ ⟨rfl, rfl⟩
      refine z_top (v' := .int (nI 1)) rfl ?_
      refine z_X (Y := MW θ ad (nv (n 0) (n 1) (n 3) (n 5) (n 8) (n 10) ph2 vv4 pa4 (n 15) (n 16) (n 18) (n 20) (n 22) (n 27)) (nI ph2) r) (mw_eq rfl rfl rfl rfl rfl rfl rfl rfl rfl rfl rfl rfl rfl rfl rfl rfl rfl rfl rfl rfl rfl rfl rfl rfl rfl rfl rfl rfl rfl rfl rfl rfl) ?_
      exact E _ _ _ _ (Or.inl (by have hFn : rF (r 9) (n 10) (n 12) 2 = _ := rF_sign (by rw [hF1]) (by show ¬ m_hr (r 9) (n 10) (sk (r 9) (n 10) (nE (r 9) (n 10) (rwq (r 9) (n 10) (n 12) 0))) = nI 44; rw [← hq0, ← eb4, ← eh2]; exact h19n_1); have EE : sk (r 9) (n 10) (rE (r 9) (n 10) (n 12) 1) = ph2 := (by show sk (r 9) (n 10) (nE (r 9) (n 10) (rwq (r 9) (n 10) (n 12) 0)) = _; rw [← hq0, ← eb4, ← eh2]); rw [EE] at hFn; rw [rF_up (i := 2) (by decide) (by rw [hFn]; simp), hFn]; exact ⟨by simp, rfl, mJ_of rfl rfl rfl rfl rfl rfl rfl rfl rfl rfl rfl rfl rfl rfl rfl rfl rfl rfl rfl rfl rfl rfl⟩)) (rfl) dX6_takeSitter_31

def m_full (n : Nat → Nat) (k : Nat) : Bool := if k = 0 then decide (0 < n 15) else if k = 1 then decide (n 16 = 6) else if k = 2 then decide (n 18 = 5) else decide (n 20 = 6)
set_option maxHeartbeats 4000000 in
set_option maxRecDepth 100000 in
theorem c_X6_isFull_0 (l : Launch) (θ : zH) (ad : Nat → Nat) (n : Nat → Nat) (g : Int32) (r : Nat → Nat → Int32)  (h15 : n 15 < 2 ^ 31) (h16 : n 16 < 2 ^ 31) (h18 : n 18 < 2 ^ 31) (h20 : n 20 < 2 ^ 31) : cI l yX6_isFull wsX6_isFull 0 θ [.ref (ad 0), .int (nI 0)] (MW θ ad n g r) (fun r0 Y => r0 = bI (m_full n 0) ∧ Y = MW θ ad n g r) := by
  refine z_cI (by decide) rfl rfl (Nat.le_of_ble_eq_true rfl) (lv := [(0, .ref (ad 0)), (1, .int (nI 0))]) rfl (fun κ C E => ?_)
  have hin : ∀ w ∈ wsX60, w ∈ wsX6_isFull := by decide +kernel
  refine z_iload_n C dX6_isFull_0 rfl (show zlk _ 1 = some (.int (nI 0)) from rfl) ?_
  refine z_if_neN C 19 dX6_isFull_1 (by decide) (by decide) (fun h => absurd h (by decide)) (fun _ => ?_)
  refine z_aload_n C dX6_isFull_4 rfl (show zlk _ 0 = some (.ref (ad 0)) from rfl) ?_
  refine z_mg C hin 15 (by decide) (by decide +kernel) (v := .int (nI (n 15))) mf_15 dX6_isFull_5 ?_
  refine z_if_leN C 15 dX6_isFull_8 (by decide) (by omega) (fun h8t_1 => ?_) (fun h8n_1 => ?_)
  · refine z_iconst C (v := nI 0) dX6_isFull_15 (by decide) ?_
    refine z_goto C 76 dX6_isFull_16 (by decide) ?_
    exact E _ _ _ _ (⟨bI_f (by simp [m_full, h8t_1]), rfl⟩) (rfl) dX6_isFull_76
  · refine z_iconst C (v := nI 1) dX6_isFull_11 (by decide) ?_
    refine z_goto C 76 dX6_isFull_12 (by decide) ?_
    exact E _ _ _ _ (⟨bI_t (by simp [m_full, h8n_1]; omega), rfl⟩) (rfl) dX6_isFull_76

set_option maxHeartbeats 4000000 in
set_option maxRecDepth 100000 in
theorem c_X6_isFull_1 (l : Launch) (θ : zH) (ad : Nat → Nat) (n : Nat → Nat) (g : Int32) (r : Nat → Nat → Int32)  (h15 : n 15 < 2 ^ 31) (h16 : n 16 < 2 ^ 31) (h18 : n 18 < 2 ^ 31) (h20 : n 20 < 2 ^ 31) : cI l yX6_isFull wsX6_isFull 0 θ [.ref (ad 0), .int (nI 1)] (MW θ ad n g r) (fun r0 Y => r0 = bI (m_full n 1) ∧ Y = MW θ ad n g r) := by
  refine z_cI (by decide) rfl rfl (Nat.le_of_ble_eq_true rfl) (lv := [(0, .ref (ad 0)), (1, .int (nI 1))]) rfl (fun κ C E => ?_)
  have hin : ∀ w ∈ wsX60, w ∈ wsX6_isFull := by decide +kernel
  refine z_iload_n C dX6_isFull_0 rfl (show zlk _ 1 = some (.int (nI 1)) from rfl) ?_
  refine z_if_neN C 19 dX6_isFull_1 (by decide) (by decide) (fun _ => ?_) (fun h => absurd h (by decide))
  refine z_iload_n C dX6_isFull_19 rfl (show zlk _ 1 = some (.int (nI 1)) from rfl) ?_
  refine z_iconst C (v := nI 1) dX6_isFull_20 (by decide) ?_
  refine z_icmp_neF C 41 dX6_isFull_21 (by decide) (by omega) (by omega) (by decide) ?_
  refine z_aload_n C dX6_isFull_24 rfl (show zlk _ 0 = some (.ref (ad 0)) from rfl) ?_
  refine z_mg C hin 16 (by decide) (by decide +kernel) (v := .int (nI (n 16))) mf_16 dX6_isFull_25 ?_
  refine z_bipush C (v := nI 6) dX6_isFull_28 (by decide) ?_
  refine z_icmp_neN C 37 dX6_isFull_30 (by decide) (by omega) (by omega) (fun h30t_1 => ?_) (fun h30n_1 => ?_)
  · refine z_iconst C (v := nI 0) dX6_isFull_37 (by decide) ?_
    refine z_goto C 76 dX6_isFull_38 (by decide) ?_
    exact E _ _ _ _ (⟨bI_f (by simp [m_full, h30t_1]), rfl⟩) (rfl) dX6_isFull_76
  · refine z_iconst C (v := nI 1) dX6_isFull_33 (by decide) ?_
    refine z_goto C 76 dX6_isFull_34 (by decide) ?_
    exact E _ _ _ _ (⟨bI_t (by simp [m_full, h30n_1]), rfl⟩) (rfl) dX6_isFull_76

set_option maxHeartbeats 4000000 in
set_option maxRecDepth 100000 in
theorem c_X6_isFull_2 (l : Launch) (θ : zH) (ad : Nat → Nat) (n : Nat → Nat) (g : Int32) (r : Nat → Nat → Int32)  (h15 : n 15 < 2 ^ 31) (h16 : n 16 < 2 ^ 31) (h18 : n 18 < 2 ^ 31) (h20 : n 20 < 2 ^ 31) : cI l yX6_isFull wsX6_isFull 0 θ [.ref (ad 0), .int (nI 2)] (MW θ ad n g r) (fun r0 Y => r0 = bI (m_full n 2) ∧ Y = MW θ ad n g r) := by
  refine z_cI (by decide) rfl rfl (Nat.le_of_ble_eq_true rfl) (lv := [(0, .ref (ad 0)), (1, .int (nI 2))]) rfl (fun κ C E => ?_)
  have hin : ∀ w ∈ wsX60, w ∈ wsX6_isFull := by decide +kernel
  refine z_iload_n C dX6_isFull_0 rfl (show zlk _ 1 = some (.int (nI 2)) from rfl) ?_
  refine z_if_neN C 19 dX6_isFull_1 (by decide) (by decide) (fun _ => ?_) (fun h => absurd h (by decide))
  refine z_iload_n C dX6_isFull_19 rfl (show zlk _ 1 = some (.int (nI 2)) from rfl) ?_
  refine z_iconst C (v := nI 1) dX6_isFull_20 (by decide) ?_
  refine z_icmp_neT C 41 dX6_isFull_21 (by decide) (by omega) (by omega) (by decide) ?_
  refine z_iload_n C dX6_isFull_41 rfl (show zlk _ 1 = some (.int (nI 2)) from rfl) ?_
  refine z_iconst C (v := nI 2) dX6_isFull_42 (by decide) ?_
  refine z_icmp_neF C 62 dX6_isFull_43 (by decide) (by omega) (by omega) (by decide) ?_
  refine z_aload_n C dX6_isFull_46 rfl (show zlk _ 0 = some (.ref (ad 0)) from rfl) ?_
  refine z_mg C hin 18 (by decide) (by decide +kernel) (v := .int (nI (n 18))) mf_18 dX6_isFull_47 ?_
  refine z_iconst C (v := nI 5) dX6_isFull_50 (by decide) ?_
  refine z_icmp_neN C 58 dX6_isFull_51 (by decide) (by omega) (by omega) (fun h51t_1 => ?_) (fun h51n_1 => ?_)
  · refine z_iconst C (v := nI 0) dX6_isFull_58 (by decide) ?_
    refine z_goto C 76 dX6_isFull_59 (by decide) ?_
    exact E _ _ _ _ (⟨bI_f (by simp [m_full, h51t_1]), rfl⟩) (rfl) dX6_isFull_76
  · refine z_iconst C (v := nI 1) dX6_isFull_54 (by decide) ?_
    refine z_goto C 76 dX6_isFull_55 (by decide) ?_
    exact E _ _ _ _ (⟨bI_t (by simp [m_full, h51n_1]), rfl⟩) (rfl) dX6_isFull_76

set_option maxHeartbeats 4000000 in
set_option maxRecDepth 100000 in
theorem c_X6_isFull_3 (l : Launch) (θ : zH) (ad : Nat → Nat) (n : Nat → Nat) (g : Int32) (r : Nat → Nat → Int32)  (h15 : n 15 < 2 ^ 31) (h16 : n 16 < 2 ^ 31) (h18 : n 18 < 2 ^ 31) (h20 : n 20 < 2 ^ 31) : cI l yX6_isFull wsX6_isFull 0 θ [.ref (ad 0), .int (nI 3)] (MW θ ad n g r) (fun r0 Y => r0 = bI (m_full n 3) ∧ Y = MW θ ad n g r) := by
  refine z_cI (by decide) rfl rfl (Nat.le_of_ble_eq_true rfl) (lv := [(0, .ref (ad 0)), (1, .int (nI 3))]) rfl (fun κ C E => ?_)
  have hin : ∀ w ∈ wsX60, w ∈ wsX6_isFull := by decide +kernel
  refine z_iload_n C dX6_isFull_0 rfl (show zlk _ 1 = some (.int (nI 3)) from rfl) ?_
  refine z_if_neN C 19 dX6_isFull_1 (by decide) (by decide) (fun _ => ?_) (fun h => absurd h (by decide))
  refine z_iload_n C dX6_isFull_19 rfl (show zlk _ 1 = some (.int (nI 3)) from rfl) ?_
  refine z_iconst C (v := nI 1) dX6_isFull_20 (by decide) ?_
  refine z_icmp_neT C 41 dX6_isFull_21 (by decide) (by omega) (by omega) (by decide) ?_
  refine z_iload_n C dX6_isFull_41 rfl (show zlk _ 1 = some (.int (nI 3)) from rfl) ?_
  refine z_iconst C (v := nI 2) dX6_isFull_42 (by decide) ?_
  refine z_icmp_neT C 62 dX6_isFull_43 (by decide) (by omega) (by omega) (by decide) ?_
  refine z_aload_n C dX6_isFull_62 rfl (show zlk _ 0 = some (.ref (ad 0)) from rfl) ?_
  refine z_mg C hin 20 (by decide) (by decide +kernel) (v := .int (nI (n 20))) mf_20 dX6_isFull_63 ?_
  refine z_bipush C (v := nI 6) dX6_isFull_66 (by decide) ?_
  refine z_icmp_neN C 75 dX6_isFull_68 (by decide) (by omega) (by omega) (fun h68t_1 => ?_) (fun h68n_1 => ?_)
  · refine z_iconst C (v := nI 0) dX6_isFull_75 (by decide) ?_
    exact E _ _ _ _ (⟨bI_f (by simp [m_full, h68t_1]), rfl⟩) (rfl) dX6_isFull_76
  · refine z_iconst C (v := nI 1) dX6_isFull_71 (by decide) ?_
    refine z_goto C 76 dX6_isFull_72 (by decide) ?_
    exact E _ _ _ _ (⟨bI_t (by simp [m_full, h68n_1]), rfl⟩) (rfl) dX6_isFull_76

set_option maxHeartbeats 4000000 in
set_option maxRecDepth 100000 in
theorem c_X6_takeBody_0 (l : Launch) (θ : zH) (ad : Nat → Nat) (n : Nat → Nat) (g : Int32) (r : Nat → Nat → Int32)  (hp : n 12 ≤ n 10) (hL : n 10 ≤ 240)  : cI l yX6_takeBody wsX6_takeBody 3 θ [.ref (ad 0), .int (nI 0)] (MW θ ad n g r) (fun r0 Y => (¬ (nF (r 9) (n 10) (n 12) 1 30).1 = 0 ∧ r0 = nI (nF (r 9) (n 10) (n 12) 1 30).1 ∧ ∃ n1 r1, mJ n n1 r r1 ∧ Y = MW θ ad n1 (nI (nF (r 9) (n 10) (n 12) 1 30).2) r1) ∨ ((nF (r 9) (n 10) (n 12) 1 30).1 = 0 ∧ r0 = nI 0 ∧ ∃ p1 p2 v, p2 = nE (r 9) (n 10) (n 12) ∧ v = nV (r 9) (n 10) (n 12) ∧ Y = MW θ ad (nv (n 0) (n 1) (n 3) (n 5) (n 8) (n 10) p2 v p1 v (n 16) (n 18) (n 20) (n 22) (n 27)) g r)) := by
  refine z_cI (by decide) rfl rfl (Nat.le_of_ble_eq_true rfl) (lv := [(0, .ref (ad 0)), (1, .int (nI 0))]) rfl (fun κ C E => ?_)
  refine z_iload_n C dX6_takeBody_0 rfl (show zlk _ 1 = some (.int (nI 0)) from rfl) ?_
  refine z_if_neN C 11 dX6_takeBody_1 (by decide) (by decide) (fun h => absurd h (by decide)) (fun _ => ?_)
  refine z_aload_n C dX6_takeBody_4 rfl (show zlk _ 0 = some (.ref (ad 0)) from rfl) ?_
  refine z_callVi C (As := []) (rest := []) (c_X6_takeGnats l θ ad n g r (show n 12 ≤ n 10 by omega) (hL) ) gX6_takeBody_X6_takeGnats rfl 0 (by decide +kernel) (by decide) (by decide) 0 rfl rfl rfl rfl rfl (Nat.le_of_ble_eq_true rfl) dX6_takeBody_5 ?_
  rintro _ _ (⟨hE9, rfl, n9, r9, hJ9, rfl⟩ | ⟨hE9, rfl, pa9, pb9, vv9, eb9, ev9, rfl⟩)
  · replace hE9 : ¬ (nF (r 9) (n 10) (n 12) 1 30).1 = 0 := hE9
    refine z_goto C 39 dX6_takeBody_8 (by decide) ?_
    exact E _ _ _ _ (Or.inl ⟨hE9, rfl, _, _, hJ9, rfl⟩) (rfl) dX6_takeBody_39
  · replace hE9 : (nF (r 9) (n 10) (n 12) 1 30).1 = 0 := hE9
    replace eb9 : pb9 = nE (r 9) (n 10) (n 12) := eb9
    replace ev9 : vv9 = nV (r 9) (n 10) (n 12) := ev9
    refine z_X (Y := MW θ ad (nv (n 0) (n 1) (n 3) (n 5) (n 8) (n 10) pb9 vv9 pa9 vv9 (n 16) (n 18) (n 20) (n 22) (n 27)) g r) (mw_eq rfl rfl rfl rfl rfl rfl rfl rfl rfl rfl rfl rfl rfl rfl rfl rfl rfl rfl rfl rfl rfl rfl rfl rfl rfl rfl rfl rfl rfl rfl rfl rfl) ?_
    refine z_goto C 39 dX6_takeBody_8 (by decide) ?_
    exact E _ _ _ _ (Or.inr ⟨hE9, rfl, _, _, _, eb9, ev9, (mw_eq rfl rfl rfl rfl rfl rfl rfl rfl rfl rfl rfl rfl rfl rfl rfl rfl rfl rfl rfl rfl rfl rfl rfl rfl rfl rfl rfl rfl rfl rfl rfl rfl)⟩) (rfl) dX6_takeBody_39

set_option maxHeartbeats 4000000 in
set_option maxRecDepth 100000 in
theorem c_X6_takeBody_1 (l : Launch) (θ : zH) (ad : Nat → Nat) (n : Nat → Nat) (g : Int32) (r : Nat → Nat → Int32)  (hp : n 12 ≤ n 10) (hL : n 10 ≤ 240) (hc : n 16 < 6) : cI l yX6_takeBody wsX6_takeBody 3 θ [.ref (ad 0), .int (nI 1)] (MW θ ad n g r) (fun r0 Y => (¬ (rF (r 9) (n 10) (n 12) 5).1 = 0 ∧ r0 = nI (rF (r 9) (n 10) (n 12) 5).1 ∧ ∃ n1 r1, mJ n n1 r r1 ∧ Y = MW θ ad n1 (nI (rF (r 9) (n 10) (n 12) 5).2) r1) ∨ ((rF (r 9) (n 10) (n 12) 5).1 = 0 ∧ r0 = nI 0 ∧ ∃ p1 p2 v s, p2 = nE (r 9) (n 10) (rwq (r 9) (n 10) (n 12) 4) ∧ s = rS (r 9) (n 10) (n 12) 5 ∧ Y = MW θ ad (nv (n 0) (n 1) (n 3) (n 5) (n 8) (n 10) p2 v p1 (n 15) (n 16 + 1) (n 18) (n 20) (n 22) (n 27)) g (rv (r 2) (r 4) (r 6) (r 7) (r 9) (upd (r 17) (n 16) s) (r 19) (r 21) (r 23) (r 24) (r 25) (r 26) (r 28) (r 29) (r 30) (r 31) (r 32)))) := by
  refine z_cI (by decide) rfl rfl (Nat.le_of_ble_eq_true rfl) (lv := [(0, .ref (ad 0)), (1, .int (nI 1))]) rfl (fun κ C E => ?_)
  refine z_iload_n C dX6_takeBody_0 rfl (show zlk _ 1 = some (.int (nI 1)) from rfl) ?_
  refine z_if_neN C 11 dX6_takeBody_1 (by decide) (by decide) (fun _ => ?_) (fun h => absurd h (by decide))
  refine z_iload_n C dX6_takeBody_11 rfl (show zlk _ 1 = some (.int (nI 1)) from rfl) ?_
  refine z_iconst C (v := nI 1) dX6_takeBody_12 (by decide) ?_
  refine z_icmp_neF C 23 dX6_takeBody_13 (by decide) (by omega) (by omega) (by decide) ?_
  refine z_aload_n C dX6_takeBody_16 rfl (show zlk _ 0 = some (.ref (ad 0)) from rfl) ?_
  refine z_callVi C (As := []) (rest := []) (c_X6_takeSitter l θ ad n g r (show n 12 ≤ n 10 by omega) (hL) (hc)) gX6_takeBody_X6_takeSitter rfl 0 (by decide +kernel) (by decide) (by decide) 0 rfl rfl rfl rfl rfl (Nat.le_of_ble_eq_true rfl) dX6_takeBody_17 ?_
  rintro _ _ (⟨hE10, rfl, n10, r10, hJ10, rfl⟩ | ⟨hE10, rfl, pa10, pb10, vv10, ss10, eb10, es10, rfl⟩)
  · replace hE10 : ¬ (rF (r 9) (n 10) (n 12) 5).1 = 0 := hE10
    refine z_goto C 39 dX6_takeBody_20 (by decide) ?_
    exact E _ _ _ _ (Or.inl ⟨hE10, rfl, _, _, hJ10, rfl⟩) (rfl) dX6_takeBody_39
  · replace hE10 : (rF (r 9) (n 10) (n 12) 5).1 = 0 := hE10
    replace eb10 : pb10 = nE (r 9) (n 10) (rwq (r 9) (n 10) (n 12) 4) := eb10
    replace es10 : ss10 = rS (r 9) (n 10) (n 12) 5 := es10
    refine z_X (Y := MW θ ad (nv (n 0) (n 1) (n 3) (n 5) (n 8) (n 10) pb10 vv10 pa10 (n 15) (n 16 + 1) (n 18) (n 20) (n 22) (n 27)) g (rv (r 2) (r 4) (r 6) (r 7) (r 9) (upd (r 17) (n 16) ss10) (r 19) (r 21) (r 23) (r 24) (r 25) (r 26) (r 28) (r 29) (r 30) (r 31) (r 32))) (mw_eq rfl rfl rfl rfl rfl rfl rfl rfl rfl rfl rfl rfl rfl rfl rfl rfl rfl rfl rfl rfl rfl rfl rfl rfl rfl rfl rfl rfl rfl rfl rfl rfl) ?_
    refine z_goto C 39 dX6_takeBody_20 (by decide) ?_
    exact E _ _ _ _ (Or.inr ⟨hE10, rfl, _, _, _, _, eb10, es10, (mw_eq rfl rfl rfl rfl rfl rfl rfl rfl rfl rfl rfl rfl rfl rfl rfl rfl rfl rfl rfl rfl rfl rfl rfl rfl rfl rfl rfl rfl rfl rfl rfl rfl)⟩) (rfl) dX6_takeBody_39

set_option maxHeartbeats 4000000 in
set_option maxRecDepth 100000 in
theorem c_X6_takeBody_2 (l : Launch) (θ : zH) (ad : Nat → Nat) (n : Nat → Nat) (g : Int32) (r : Nat → Nat → Int32)  (hp : n 12 ≤ n 10) (hL : n 10 ≤ 240) (hc : n 18 < 5) : cI l yX6_takeBody wsX6_takeBody 3 θ [.ref (ad 0), .int (nI 2)] (MW θ ad n g r) (fun r0 Y => (¬ (nF (r 9) (n 10) (n 12) 0 5).1 = 0 ∧ r0 = nI (nF (r 9) (n 10) (n 12) 0 5).1 ∧ ∃ n1 r1, mJ n n1 r r1 ∧ Y = MW θ ad n1 (nI (nF (r 9) (n 10) (n 12) 0 5).2) r1) ∨ ((nF (r 9) (n 10) (n 12) 0 5).1 = 0 ∧ r0 = nI 0 ∧ ∃ p1 p2 v, p2 = nE (r 9) (n 10) (n 12) ∧ v = nV (r 9) (n 10) (n 12) ∧ Y = MW θ ad (nv (n 0) (n 1) (n 3) (n 5) (n 8) (n 10) p2 v p1 (n 15) (n 16) (n 18 + 1) (n 20) (n 22) (n 27)) g (rv (r 2) (r 4) (r 6) (r 7) (r 9) (r 17) (upd (r 19) (n 18) (nI v)) (r 21) (r 23) (r 24) (r 25) (r 26) (r 28) (r 29) (r 30) (r 31) (r 32)))) := by
  refine z_cI (by decide) rfl rfl (Nat.le_of_ble_eq_true rfl) (lv := [(0, .ref (ad 0)), (1, .int (nI 2))]) rfl (fun κ C E => ?_)
  refine z_iload_n C dX6_takeBody_0 rfl (show zlk _ 1 = some (.int (nI 2)) from rfl) ?_
  refine z_if_neN C 11 dX6_takeBody_1 (by decide) (by decide) (fun _ => ?_) (fun h => absurd h (by decide))
  refine z_iload_n C dX6_takeBody_11 rfl (show zlk _ 1 = some (.int (nI 2)) from rfl) ?_
  refine z_iconst C (v := nI 1) dX6_takeBody_12 (by decide) ?_
  refine z_icmp_neT C 23 dX6_takeBody_13 (by decide) (by omega) (by omega) (by decide) ?_
  refine z_iload_n C dX6_takeBody_23 rfl (show zlk _ 1 = some (.int (nI 2)) from rfl) ?_
  refine z_iconst C (v := nI 2) dX6_takeBody_24 (by decide) ?_
  refine z_icmp_neF C 35 dX6_takeBody_25 (by decide) (by omega) (by omega) (by decide) ?_
  refine z_aload_n C dX6_takeBody_28 rfl (show zlk _ 0 = some (.ref (ad 0)) from rfl) ?_
  refine z_callVi C (As := []) (rest := []) (c_X6_takeWindow l θ ad n g r (show n 12 ≤ n 10 by omega) (hL) (hc)) gX6_takeBody_X6_takeWindow rfl 0 (by decide +kernel) (by decide) (by decide) 0 rfl rfl rfl rfl rfl (Nat.le_of_ble_eq_true rfl) dX6_takeBody_29 ?_
  rintro _ _ (⟨hE11, rfl, n11, r11, hJ11, rfl⟩ | ⟨hE11, rfl, pa11, pb11, vv11, eb11, ev11, rfl⟩)
  · replace hE11 : ¬ (nF (r 9) (n 10) (n 12) 0 5).1 = 0 := hE11
    refine z_goto C 39 dX6_takeBody_32 (by decide) ?_
    exact E _ _ _ _ (Or.inl ⟨hE11, rfl, _, _, hJ11, rfl⟩) (rfl) dX6_takeBody_39
  · replace hE11 : (nF (r 9) (n 10) (n 12) 0 5).1 = 0 := hE11
    replace eb11 : pb11 = nE (r 9) (n 10) (n 12) := eb11
    replace ev11 : vv11 = nV (r 9) (n 10) (n 12) := ev11
    refine z_X (Y := MW θ ad (nv (n 0) (n 1) (n 3) (n 5) (n 8) (n 10) pb11 vv11 pa11 (n 15) (n 16) (n 18 + 1) (n 20) (n 22) (n 27)) g (rv (r 2) (r 4) (r 6) (r 7) (r 9) (r 17) (upd (r 19) (n 18) (nI vv11)) (r 21) (r 23) (r 24) (r 25) (r 26) (r 28) (r 29) (r 30) (r 31) (r 32))) (mw_eq rfl rfl rfl rfl rfl rfl rfl rfl rfl rfl rfl rfl rfl rfl rfl rfl rfl rfl rfl rfl rfl rfl rfl rfl rfl rfl rfl rfl rfl rfl rfl rfl) ?_
    refine z_goto C 39 dX6_takeBody_32 (by decide) ?_
    exact E _ _ _ _ (Or.inr ⟨hE11, rfl, _, _, _, eb11, ev11, (mw_eq rfl rfl rfl rfl rfl rfl rfl rfl rfl rfl rfl rfl rfl rfl rfl rfl rfl rfl rfl rfl rfl rfl rfl rfl rfl rfl rfl rfl rfl rfl rfl rfl)⟩) (rfl) dX6_takeBody_39

set_option maxHeartbeats 4000000 in
set_option maxRecDepth 100000 in
theorem c_X6_takeBody_3 (l : Launch) (θ : zH) (ad : Nat → Nat) (n : Nat → Nat) (g : Int32) (r : Nat → Nat → Int32)  (hp : n 12 ≤ n 10) (hL : n 10 ≤ 240) (hc : n 20 < 6) : cI l yX6_takeBody wsX6_takeBody 3 θ [.ref (ad 0), .int (nI 3)] (MW θ ad n g r) (fun r0 Y => (¬ (nF (r 9) (n 10) (n 12) 1 63).1 = 0 ∧ r0 = nI (nF (r 9) (n 10) (n 12) 1 63).1 ∧ ∃ n1 r1, mJ n n1 r r1 ∧ Y = MW θ ad n1 (nI (nF (r 9) (n 10) (n 12) 1 63).2) r1) ∨ ((nF (r 9) (n 10) (n 12) 1 63).1 = 0 ∧ r0 = nI 0 ∧ ∃ p1 p2 v, p2 = nE (r 9) (n 10) (n 12) ∧ v = nV (r 9) (n 10) (n 12) ∧ Y = MW θ ad (nv (n 0) (n 1) (n 3) (n 5) (n 8) (n 10) p2 v p1 (n 15) (n 16) (n 18) (n 20 + 1) (n 22) (n 27)) g (rv (r 2) (r 4) (r 6) (r 7) (r 9) (r 17) (r 19) (upd (r 21) (n 20) (nI v)) (r 23) (r 24) (r 25) (r 26) (r 28) (r 29) (r 30) (r 31) (r 32)))) := by
  refine z_cI (by decide) rfl rfl (Nat.le_of_ble_eq_true rfl) (lv := [(0, .ref (ad 0)), (1, .int (nI 3))]) rfl (fun κ C E => ?_)
  refine z_iload_n C dX6_takeBody_0 rfl (show zlk _ 1 = some (.int (nI 3)) from rfl) ?_
  refine z_if_neN C 11 dX6_takeBody_1 (by decide) (by decide) (fun _ => ?_) (fun h => absurd h (by decide))
  refine z_iload_n C dX6_takeBody_11 rfl (show zlk _ 1 = some (.int (nI 3)) from rfl) ?_
  refine z_iconst C (v := nI 1) dX6_takeBody_12 (by decide) ?_
  refine z_icmp_neT C 23 dX6_takeBody_13 (by decide) (by omega) (by omega) (by decide) ?_
  refine z_iload_n C dX6_takeBody_23 rfl (show zlk _ 1 = some (.int (nI 3)) from rfl) ?_
  refine z_iconst C (v := nI 2) dX6_takeBody_24 (by decide) ?_
  refine z_icmp_neT C 35 dX6_takeBody_25 (by decide) (by omega) (by omega) (by decide) ?_
  refine z_aload_n C dX6_takeBody_35 rfl (show zlk _ 0 = some (.ref (ad 0)) from rfl) ?_
  refine z_callVi C (As := []) (rest := []) (c_X6_takeCritic l θ ad n g r (show n 12 ≤ n 10 by omega) (hL) (hc)) gX6_takeBody_X6_takeCritic rfl 0 (by decide +kernel) (by decide) (by decide) 0 rfl rfl rfl rfl rfl (Nat.le_of_ble_eq_true rfl) dX6_takeBody_36 ?_
  rintro _ _ (⟨hE12, rfl, n12, r12, hJ12, rfl⟩ | ⟨hE12, rfl, pa12, pb12, vv12, eb12, ev12, rfl⟩)
  · replace hE12 : ¬ (nF (r 9) (n 10) (n 12) 1 63).1 = 0 := hE12
    exact E _ _ _ _ (Or.inl ⟨hE12, rfl, _, _, hJ12, rfl⟩) (rfl) dX6_takeBody_39
  · replace hE12 : (nF (r 9) (n 10) (n 12) 1 63).1 = 0 := hE12
    replace eb12 : pb12 = nE (r 9) (n 10) (n 12) := eb12
    replace ev12 : vv12 = nV (r 9) (n 10) (n 12) := ev12
    refine z_X (Y := MW θ ad (nv (n 0) (n 1) (n 3) (n 5) (n 8) (n 10) pb12 vv12 pa12 (n 15) (n 16) (n 18) (n 20 + 1) (n 22) (n 27)) g (rv (r 2) (r 4) (r 6) (r 7) (r 9) (r 17) (r 19) (upd (r 21) (n 20) (nI vv12)) (r 23) (r 24) (r 25) (r 26) (r 28) (r 29) (r 30) (r 31) (r 32))) (mw_eq rfl rfl rfl rfl rfl rfl rfl rfl rfl rfl rfl rfl rfl rfl rfl rfl rfl rfl rfl rfl rfl rfl rfl rfl rfl rfl rfl rfl rfl rfl rfl rfl) ?_
    exact E _ _ _ _ (Or.inr ⟨hE12, rfl, _, _, _, eb12, ev12, (mw_eq rfl rfl rfl rfl rfl rfl rfl rfl rfl rfl rfl rfl rfl rfl rfl rfl rfl rfl rfl rfl rfl rfl rfl rfl rfl rfl rfl rfl rfl rfl rfl rfl)⟩) (rfl) dX6_takeBody_39

