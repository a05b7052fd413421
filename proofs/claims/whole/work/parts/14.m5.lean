def cK (c : Int32) : Nat := if c = nI 103 then 0 else if c = nI 115 then 1 else if c = nI 119 then 2 else if c = nI 99 then 3 else 4
def fullK (G S W C k : Nat) : Bool := if k = 0 then decide (0 < G) else if k = 1 then decide (S = 6) else if k = 2 then decide (W = 5) else decide (C = 6)
def bF (f : Nat → Int32) (L p k : Nat) : Nat × Nat := if k = 0 then nF f L p 1 30 else if k = 1 then rF f L p 5 else if k = 2 then nF f L p 0 5 else nF f L p 1 63
def bE (f : Nat → Int32) (L p k : Nat) : Nat := if k = 1 then nE f L (rwq f L p 4) else nE f L p
/-- the fault of a clause at p -/
def clF (f : Nat → Int32) (L p G S W C : Nat) : Nat × Nat :=
  if cK (m_hr f L (sk f L p)) = 4 ∨ (¬ cK (m_hr f L (sk f L p)) = 0 ∧ G = 0) then (1, sk f L p)
  else if fullK G S W C (cK (m_hr f L (sk f L p))) = true then (3, sk f L p)
  else if (bF f L (sk f L p + 1) (cK (m_hr f L (sk f L p)))).1 = 0 then sF f L (bE f L (sk f L p + 1) (cK (m_hr f L (sk f L p)))) (nI 59)
  else bF f L (sk f L p + 1) (cK (m_hr f L (sk f L p)))
theorem clF_1 {f : Nat → Int32} {L p q G S W C k : Nat} (e : q = sk f L p) (hk : cK (m_hr f L q) = k) (h : k = 4 ∨ (¬ k = 0 ∧ G = 0)) : clF f L p G S W C = (1, q) := by
  unfold clF; rw [← e, hk, if_pos h]
theorem clF_3 {f : Nat → Int32} {L p q G S W C k : Nat} (e : q = sk f L p) (hk : cK (m_hr f L q) = k) (h : ¬ (k = 4 ∨ (¬ k = 0 ∧ G = 0))) (h2 : fullK G S W C k = true) : clF f L p G S W C = (3, q) := by
  unfold clF; rw [← e, hk, if_neg h, if_pos h2]
theorem clF_b {f : Nat → Int32} {L p q G S W C k : Nat} (e : q = sk f L p) (hk : cK (m_hr f L q) = k) (h : ¬ (k = 4 ∨ (¬ k = 0 ∧ G = 0))) (h2 : fullK G S W C k = false) (h3 : ¬ (bF f L (q + 1) k).1 = 0) : clF f L p G S W C = bF f L (q + 1) k := by
  unfold clF; rw [← e, hk, if_neg h, if_neg (by rw [h2]; decide), if_neg h3]
theorem clF_s {f : Nat → Int32} {L p q G S W C k : Nat} (e : q = sk f L p) (hk : cK (m_hr f L q) = k) (h : ¬ (k = 4 ∨ (¬ k = 0 ∧ G = 0))) (h2 : fullK G S W C k = false) (h3 : (bF f L (q + 1) k).1 = 0) : clF f L p G S W C = sF f L (bE f L (q + 1) k) (nI 59) := by
  unfold clF; rw [← e, hk, if_neg h, if_neg (by rw [h2]; decide), if_pos h3]
/-- what a clause leaves: place, counts, rows -/
def clK (f : Nat → Int32) (L p : Nat) : Nat := cK (m_hr f L (sk f L p))
def clP (f : Nat → Int32) (L p : Nat) : Nat := sk f L (bE f L (sk f L p + 1) (clK f L p)) + 1
def clG (f : Nat → Int32) (L p G : Nat) : Nat := if clK f L p = 0 then nV f L (sk f L p + 1) else G
def clC (f : Nat → Int32) (L p k S : Nat) : Nat := if clK f L p = k then S + 1 else S
def clO (f : Nat → Int32) (L p S : Nat) (o : Nat → Int32) : Nat → Int32 := if clK f L p = 1 then upd o S (rS f L (sk f L p + 1) 5) else o
def clR (f : Nat → Int32) (L p k S : Nat) (o : Nat → Int32) : Nat → Int32 := if clK f L p = k then upd o S (nI (nV f L (sk f L p + 1))) else o
theorem bF_0 {f : Nat → Int32} {L p : Nat} : bF f L p 0 = nF f L p 1 30 := by unfold bF; rw [if_pos rfl]
theorem bF_1 {f : Nat → Int32} {L p : Nat} : bF f L p 1 = rF f L p 5 := by unfold bF; rw [if_neg (by decide), if_pos rfl]
theorem bF_2 {f : Nat → Int32} {L p : Nat} : bF f L p 2 = nF f L p 0 5 := by unfold bF; rw [if_neg (by decide), if_neg (by decide), if_pos rfl]
theorem bF_3 {f : Nat → Int32} {L p : Nat} : bF f L p 3 = nF f L p 1 63 := by unfold bF; rw [if_neg (by decide), if_neg (by decide), if_neg (by decide)]
theorem bE_1 {f : Nat → Int32} {L p : Nat} : bE f L p 1 = nE f L (rwq f L p 4) := by unfold bE; rw [if_pos rfl]
theorem bE_k {f : Nat → Int32} {L p k : Nat} (h : ¬ k = 1) : bE f L p k = nE f L p := by unfold bE; rw [if_neg h]
theorem bE_le {f : Nat → Int32} {L p k : Nat} (h : p ≤ L) (h2 : (bF f L p k).1 = 0) : bE f L p k ≤ L := by
  unfold bE
  by_cases e : k = 1
  · rw [if_pos e]
    subst e
    have h3 : (rF f L p 5).1 = 0 := by rw [← bF_1]; exact h2
    have key : ∀ i, i ≤ 4 → rwq f L p i ≤ L := by
      intro i hi
      cases i with
      | zero => exact h
      | succ i =>
        by_cases e2 : m_hr f L (sk f L (nE f L (rwq f L p i))) = nI 44
        · exact hr_lt e2 (by decide)
        · by_cases e3 : (rF f L p (i + 1)).1 = 0
          · have e4 := rF_sign e3 e2
            rw [rF_up (i := i + 2) (by omega) (by rw [e4]; simp), e4] at h3
            exact absurd h3 (by simp)
          · rw [rF_up (i := i + 1) (by omega) e3] at h3
            exact absurd h3 e3
    exact (nE_le (key 4 (by omega))).2
  · rw [if_neg e]; exact (nE_le h).2
set_option maxHeartbeats 4000000 in
set_option maxRecDepth 100000 in
theorem c_X6_takeClause (l : Launch) (θ : zH) (ad : Nat → Nat) (n : Nat → Nat) (g : Int32) (r : Nat → Nat → Int32)  (hp : n 12 ≤ n 10) (hL : n 10 ≤ 240) (hb : n 15 ≤ 30 ∧ n 16 ≤ 6 ∧ n 18 ≤ 5 ∧ n 20 ≤ 6) : cI l yX6_takeClause wsX6_takeClause 4 θ [.ref (ad 0)] (MW θ ad n g r) (fun r0 Y => (¬ (clF (r 9) (n 10) (n 12) (n 15) (n 16) (n 18) (n 20)).1 = 0 ∧ r0 = nI (clF (r 9) (n 10) (n 12) (n 15) (n 16) (n 18) (n 20)).1 ∧ ∃ n1 r1, mJ n n1 r r1 ∧ Y = MW θ ad n1 (nI (clF (r 9) (n 10) (n 12) (n 15) (n 16) (n 18) (n 20)).2) r1) ∨ ((clF (r 9) (n 10) (n 12) (n 15) (n 16) (n 18) (n 20)).1 = 0 ∧ r0 = nI 0 ∧ ∃ p2 x y G2 S2 W2 C2 o2 l2 k2, p2 = clP (r 9) (n 10) (n 12) ∧ G2 = clG (r 9) (n 10) (n 12) (n 15) ∧ S2 = clC (r 9) (n 10) (n 12) 1 (n 16) ∧ W2 = clC (r 9) (n 10) (n 12) 2 (n 18) ∧ C2 = clC (r 9) (n 10) (n 12) 3 (n 20) ∧ o2 = clO (r 9) (n 10) (n 12) (n 16) (r 17) ∧ l2 = clR (r 9) (n 10) (n 12) 2 (n 18) (r 19) ∧ k2 = clR (r 9) (n 10) (n 12) 3 (n 20) (r 21) ∧ Y = MW θ ad (nv (n 0) (n 1) (n 3) (n 5) (n 8) (n 10) p2 x y G2 S2 W2 C2 (n 22) (n 27)) g (rv (r 2) (r 4) (r 6) (r 7) (r 9) o2 l2 k2 (r 23) (r 24) (r 25) (r 26) (r 28) (r 29) (r 30) (r 31) (r 32)))) := by
  refine z_cI (by decide) rfl rfl (Nat.le_of_ble_eq_true rfl) (lv := [(0, .ref (ad 0))]) rfl (fun κ C E => ?_)
  have hin : ∀ w ∈ wsX60, w ∈ wsX6_takeClause := by decide +kernel
  refine z_aload_n C dX6_takeClause_0 rfl (show zlk _ 0 = some (.ref (ad 0)) from rfl) ?_
  refine z_callVi C (As := []) (rest := []) (c_X6_here l θ ad n g r (show n 12 ≤ n 10 by omega) (hL)) gX6_takeClause_X6_here rfl 0 (by decide +kernel) (by decide) (by decide) 0 rfl rfl rfl rfl rfl (Nat.le_of_ble_eq_true rfl) dX6_takeClause_1 ?_
  rintro _ _ ⟨ph6, eh6, rfl, rfl⟩
  replace eh6 : ph6 = sk (r 9) (n 10) (n 12) := eh6
  have lh6 : ph6 ≤ n 10 := by rw [eh6]; exact (sk_le (by omega)).2
  refine z_X (Y := MW θ ad (nv (n 0) (n 1) (n 3) (n 5) (n 8) (n 10) ph6 (n 13) (n 14) (n 15) (n 16) (n 18) (n 20) (n 22) (n 27)) g r) (mw_eq rfl rfl rfl rfl rfl rfl rfl rfl rfl rfl rfl rfl rfl rfl rfl rfl rfl rfl rfl rfl rfl rfl rfl rfl rfl rfl rfl rfl rfl rfl rfl rfl) ?_
  refine z_istore_n C [(1, .int (m_hr (r 9) (n 10) ph6)), (0, .ref (ad 0))] dX6_takeClause_4 rfl (by decide) rfl ?_
  refine z_iload_n C dX6_takeClause_5 rfl (show zlk _ 1 = some (.int (m_hr (r 9) (n 10) ph6)) from rfl) ?_
  refine z_bipush C (v := nI 103) dX6_takeClause_6 (by decide) ?_
  refine z_icmp_ne C 15 dX6_takeClause_8 (by decide) (fun h8t_1 => ?_) (fun h8n_1 => ?_)
  · refine z_iload_n C dX6_takeClause_15 rfl (show zlk _ 1 = some (.int (m_hr (r 9) (n 10) ph6)) from rfl) ?_
    refine z_bipush C (v := nI 115) dX6_takeClause_16 (by decide) ?_
    refine z_icmp_ne C 25 dX6_takeClause_18 (by decide) (fun h18t_2 => ?_) (fun h18n_2 => ?_)
    · refine z_iload_n C dX6_takeClause_25 rfl (show zlk _ 1 = some (.int (m_hr (r 9) (n 10) ph6)) from rfl) ?_
      refine z_bipush C (v := nI 119) dX6_takeClause_26 (by decide) ?_
      refine z_icmp_ne C 35 dX6_takeClause_28 (by decide) (fun h28t_3 => ?_) (fun h28n_3 => ?_)
      · refine z_iload_n C dX6_takeClause_35 rfl (show zlk _ 1 = some (.int (m_hr (r 9) (n 10) ph6)) from rfl) ?_
        refine z_bipush C (v := nI 99) dX6_takeClause_36 (by decide) ?_
        refine z_icmp_ne C 45 dX6_takeClause_38 (by decide) (fun h38t_4 => ?_) (fun h38n_4 => ?_)
        · refine z_iconst C (v := (-1)) dX6_takeClause_45 (by decide) ?_
          refine z_istore_n C [(2, .int (-1)), (1, .int (m_hr (r 9) (n 10) ph6)), (0, .ref (ad 0))] dX6_takeClause_46 rfl (by decide) rfl ?_
          have hK : cK (m_hr (r 9) (n 10) ph6) = 4 := by unfold cK; rw [if_neg h8t_1, if_neg h18t_2, if_neg h28t_3, if_neg h38t_4]
          refine z_iload_n C dX6_takeClause_47 rfl (show zlk _ 2 = some (.int (-1)) from rfl) ?_
          refine z_if_lt C 62 dX6_takeClause_48 (by decide) (fun _ => ?_) (fun h => absurd (by decide) h)
          refine z_aload_n C dX6_takeClause_62 rfl (show zlk _ 0 = some (.ref (ad 0)) from rfl) ?_
          refine z_iconst C (v := nI 1) dX6_takeClause_63 (by decide) ?_
          refine z_aload_n C dX6_takeClause_64 rfl (show zlk _ 0 = some (.ref (ad 0)) from rfl) ?_
          refine z_mg C hin 12 (by decide) (by decide +kernel) (v := .int (nI ph6)) mfv_12 dX6_takeClause_65 ?_
          refine z_callVi C (As := [.int (nI 1), .int (nI ph6)]) (rest := []) (c_X6_fails l θ ad (nv (n 0) (n 1) (n 3) (n 5) (n 8) (n 10) ph6 (n 13) (n 14) (n 15) (n 16) (n 18) (n 20) (n 22) (n 27)) g r 1 ph6) gX6_takeClause_X6_fails rfl 2 (by decide +kernel) (by decide) (by decide) 0 rfl rfl rfl rfl rfl (Nat.le_of_ble_eq_true rfl) dX6_takeClause_68 ?_
          rintro _ _ ⟨rfl, rfl⟩
          refine z_top (v' := .int (nI 1)) rfl ?_
          refine z_X (Y := MW θ ad (nv (n 0) (n 1) (n 3) (n 5) (n 8) (n 10) ph6 (n 13) (n 14) (n 15) (n 16) (n 18) (n 20) (n 22) (n 27)) (nI ph6) r) (mw_eq rfl rfl rfl rfl rfl rfl rfl rfl rfl rfl rfl rfl rfl rfl rfl rfl rfl rfl rfl rfl rfl rfl rfl rfl rfl rfl rfl rfl rfl rfl rfl rfl) ?_
          exact E _ _ _ _ (Or.inl (by rw [clF_1 eh6 hK (by omega)]; exact ⟨by simp, rfl, mJ_of rfl rfl rfl rfl rfl rfl rfl rfl rfl rfl rfl rfl rfl rfl rfl rfl rfl rfl rfl rfl rfl rfl⟩)) (rfl) dX6_takeClause_71
        · refine z_iconst C (v := nI 3) dX6_takeClause_41 (by decide) ?_
          refine z_goto C 46 dX6_takeClause_42 (by decide) ?_
          refine z_istore_n C [(2, .int (nI 3)), (1, .int (m_hr (r 9) (n 10) ph6)), (0, .ref (ad 0))] dX6_takeClause_46 rfl (by decide) rfl ?_
          have hK : cK (m_hr (r 9) (n 10) ph6) = 3 := by unfold cK; rw [if_neg h8t_1, if_neg h18t_2, if_neg h28t_3, if_pos h38n_4]
          refine z_iload_n C dX6_takeClause_47 rfl (show zlk _ 2 = some (.int (nI 3)) from rfl) ?_
          refine z_if_ltN C 62 dX6_takeClause_48 (by decide) (by omega) ?_
          refine z_iload_n C dX6_takeClause_51 rfl (show zlk _ 2 = some (.int (nI 3)) from rfl) ?_
          refine z_if_leN C 72 dX6_takeClause_52 (by decide) (by decide) (fun h => absurd h (by decide)) (fun _ => ?_)
          refine z_aload_n C dX6_takeClause_55 rfl (show zlk _ 0 = some (.ref (ad 0)) from rfl) ?_
          refine z_mg C hin 15 (by decide) (by decide +kernel) (v := .int (nI (n 15))) mfv_15 dX6_takeClause_56 ?_
          refine z_if_neN C 72 dX6_takeClause_59 (by decide) (by omega) (fun h59t_5 => ?_) (fun h59n_5 => ?_)
          · refine z_aload_n C dX6_takeClause_72 rfl (show zlk _ 0 = some (.ref (ad 0)) from rfl) ?_
            refine z_iload_n C dX6_takeClause_73 rfl (show zlk _ 2 = some (.int (nI 3)) from rfl) ?_
            refine z_callVi C (As := [.int (nI 3)]) (rest := []) (c_X6_isFull_3 l θ ad (nv (n 0) (n 1) (n 3) (n 5) (n 8) (n 10) ph6 (n 13) (n 14) (n 15) (n 16) (n 18) (n 20) (n 22) (n 27)) g r (show n 15 < 2 ^ 31 by omega) (show n 16 < 2 ^ 31 by omega) (show n 18 < 2 ^ 31 by omega) (show n 20 < 2 ^ 31 by omega)) gX6_takeClause_X6_isFull rfl 1 (by decide +kernel) (by decide) (by decide) 0 rfl rfl rfl rfl rfl (Nat.le_of_ble_eq_true rfl) dX6_takeClause_74 ?_
            rintro _ _ ⟨rfl, rfl⟩
            refine z_top (v' := .int (bI (fullK (n 15) (n 16) (n 18) (n 20) 3))) rfl ?_
            refine z_if_eqB C 90 dX6_takeClause_77 (by decide) (fun h77t_6 => ?_) (fun h77n_6 => ?_)
            · have hKn : ¬ (3 = 4 ∨ (¬ 3 = 0 ∧ n 15 = 0)) := by omega
              have hcc : n 20 < 6 := by have h9 := h77t_6; simp [fullK] at h9; omega
              have hlt1 : ph6 < n 10 := by
                by_cases e9 : ph6 < n 10
                · exact e9
                · unfold m_hr at hK; rw [if_neg e9] at hK; exact absurd hK (by decide)
              refine z_aload_n C dX6_takeClause_90 rfl (show zlk _ 0 = some (.ref (ad 0)) from rfl) ?_
              refine z_dup C dX6_takeClause_91 rfl ?_
              refine z_mg C hin 12 (by decide) (by decide +kernel) (v := .int (nI ph6)) mfv_12 dX6_takeClause_92 ?_
              refine z_iconst C (v := nI 1) dX6_takeClause_95 (by decide) ?_
              refine z_iaddN C dX6_takeClause_96 ?_
              refine z_mp C hin 12 (by decide) (by decide +kernel) rfl rfl mpv_12 dX6_takeClause_97 ?_
              refine z_aload_n C dX6_takeClause_100 rfl (show zlk _ 0 = some (.ref (ad 0)) from rfl) ?_
              refine z_iload_n C dX6_takeClause_101 rfl (show zlk _ 2 = some (.int (nI 3)) from rfl) ?_
              refine z_callVi C (As := [.int (nI 3)]) (rest := []) (c_X6_takeBody_3 l θ ad (nv (n 0) (n 1) (n 3) (n 5) (n 8) (n 10) (ph6 + 1) (n 13) (n 14) (n 15) (n 16) (n 18) (n 20) (n 22) (n 27)) g r (show ph6 + 1 ≤ n 10 by omega) (hL) (hcc)) gX6_takeClause_X6_takeBody rfl 1 (by decide +kernel) (by decide) (by decide) 0 rfl rfl rfl rfl rfl (Nat.le_of_ble_eq_true rfl) dX6_takeClause_102 ?_
              rintro _ _ (⟨hE13, rfl, n13, r13, hJ13, rfl⟩ | ⟨hE13, rfl, pa13, pb13, vv13, eb13, ev13, rfl⟩)
              · replace hE13 : ¬ (nF (r 9) (n 10) (ph6 + 1) 1 63).1 = 0 := hE13
                refine z_istore_n C [(3, .int (nI ((nF (r 9) (n 10) (ph6 + 1) 1 63).1))), (2, .int (nI 3)), (1, .int (m_hr (r 9) (n 10) ph6)), (0, .ref (ad 0))] dX6_takeClause_105 rfl (by decide) rfl ?_
                refine z_iload_n C dX6_takeClause_106 rfl (show zlk _ 3 = some (.int (nI ((nF (r 9) (n 10) (ph6 + 1) 1 63).1))) from rfl) ?_
                refine z_if_leN C 112 dX6_takeClause_107 (by decide) (Nat.lt_of_le_of_lt (nF_le _ _ _ _ _) (by decide)) (fun h107n_7 => absurd h107n_7 (hE13)) (fun h107n_7 => ?_)
                refine z_iload_n C dX6_takeClause_110 rfl (show zlk _ 3 = some (.int (nI ((nF (r 9) (n 10) (ph6 + 1) 1 63).1))) from rfl) ?_
                exact E _ _ _ _ (Or.inl (by rw [clF_b eh6 hK hKn h77t_6 (by rw [bF_3]; exact hE13), bF_3]; exact ⟨hE13, rfl, _, _, hJ13, rfl⟩)) (rfl) dX6_takeClause_111
              · replace hE13 : (nF (r 9) (n 10) (ph6 + 1) 1 63).1 = 0 := hE13
                replace eb13 : pb13 = nE (r 9) (n 10) (ph6 + 1) := eb13
                replace ev13 : vv13 = nV (r 9) (n 10) (ph6 + 1) := ev13
                refine z_X (Y := MW θ ad (nv (n 0) (n 1) (n 3) (n 5) (n 8) (n 10) pb13 vv13 pa13 (n 15) (n 16) (n 18) (n 20 + 1) (n 22) (n 27)) g (rv (r 2) (r 4) (r 6) (r 7) (r 9) (r 17) (r 19) (upd (r 21) (n 20) (nI vv13)) (r 23) (r 24) (r 25) (r 26) (r 28) (r 29) (r 30) (r 31) (r 32))) (mw_eq rfl rfl rfl rfl rfl rfl rfl rfl rfl rfl rfl rfl rfl rfl rfl rfl rfl rfl rfl rfl rfl rfl rfl rfl rfl rfl rfl rfl rfl rfl rfl rfl) ?_
                refine z_istore_n C [(3, .int (nI 0)), (2, .int (nI 3)), (1, .int (m_hr (r 9) (n 10) ph6)), (0, .ref (ad 0))] dX6_takeClause_105 rfl (by decide) rfl ?_
                refine z_iload_n C dX6_takeClause_106 rfl (show zlk _ 3 = some (.int (nI 0)) from rfl) ?_
                refine z_if_leN C 112 dX6_takeClause_107 (by decide) (by decide) (fun _ => ?_) (fun h => absurd h (by decide))
                have hbE : pb13 = bE (r 9) (n 10) (ph6 + 1) 3 := by rw [bE_k (by decide)]; exact eb13
                have hEb : (bF (r 9) (n 10) (ph6 + 1) 3).1 = 0 := by rw [bF_3]; exact hE13
                have hbL : pb13 ≤ n 10 := by rw [hbE]; exact bE_le (by omega) hEb
                refine z_aload_n C dX6_takeClause_112 rfl (show zlk _ 0 = some (.ref (ad 0)) from rfl) ?_
                refine z_callVi C (As := []) (rest := []) (c_X6_here l θ ad (nv (n 0) (n 1) (n 3) (n 5) (n 8) (n 10) pb13 vv13 pa13 (n 15) (n 16) (n 18) (n 20 + 1) (n 22) (n 27)) g (rv (r 2) (r 4) (r 6) (r 7) (r 9) (r 17) (r 19) (upd (r 21) (n 20) (nI vv13)) (r 23) (r 24) (r 25) (r 26) (r 28) (r 29) (r 30) (r 31) (r 32)) (show pb13 ≤ n 10 by omega) (hL)) gX6_takeClause_X6_here rfl 0 (by decide +kernel) (by decide) (by decide) 0 rfl rfl rfl rfl rfl (Nat.le_of_ble_eq_true rfl) dX6_takeClause_113 ?_
                rintro _ _ ⟨ph7, eh7, rfl, rfl⟩
                replace eh7 : ph7 = sk (r 9) (n 10) (pb13) := eh7
                have lh7 : ph7 ≤ n 10 := by rw [eh7]; exact (sk_le (by omega)).2
                refine z_top (v' := .int (m_hr (r 9) (n 10) ph7)) rfl ?_
                refine z_X (Y := MW θ ad (nv (n 0) (n 1) (n 3) (n 5) (n 8) (n 10) ph7 vv13 pa13 (n 15) (n 16) (n 18) (n 20 + 1) (n 22) (n 27)) g (rv (r 2) (r 4) (r 6) (r 7) (r 9) (r 17) (r 19) (upd (r 21) (n 20) (nI vv13)) (r 23) (r 24) (r 25) (r 26) (r 28) (r 29) (r 30) (r 31) (r 32))) (mw_eq rfl rfl rfl rfl rfl rfl rfl rfl rfl rfl rfl rfl rfl rfl rfl rfl rfl rfl rfl rfl rfl rfl rfl rfl rfl rfl rfl rfl rfl rfl rfl rfl) ?_
                refine z_bipush C (v := nI 59) dX6_takeClause_116 (by decide) ?_
                refine z_icmp_eq C 131 dX6_takeClause_118 (by decide) (fun h118t_8 => ?_) (fun h118n_8 => ?_)
                · refine z_aload_n C dX6_takeClause_131 rfl (show zlk _ 0 = some (.ref (ad 0)) from rfl) ?_
                  refine z_dup C dX6_takeClause_132 rfl ?_
                  refine z_mg C hin 12 (by decide) (by decide +kernel) (v := .int (nI ph7)) mfv_12 dX6_takeClause_133 ?_
                  refine z_iconst C (v := nI 1) dX6_takeClause_136 (by decide) ?_
                  refine z_iaddN C dX6_takeClause_137 ?_
                  refine z_mp C hin 12 (by decide) (by decide +kernel) rfl rfl mpv_12 dX6_takeClause_138 ?_
                  refine z_iconst C (v := nI 0) dX6_takeClause_141 (by decide) ?_
                  exact E _ _ _ _ (Or.inr (by have hsf : clF (r 9) (n 10) (n 12) (n 15) (n 16) (n 18) (n 20) = _ := clF_s eh6 hK hKn h77t_6 hEb; rw [← hbE] at hsf; unfold sF at hsf; rw [← eh7] at hsf; rw [if_pos h118t_8] at hsf; exact ⟨by rw [hsf], rfl, _, _, _, _, _, _, _, _, _, _, (by unfold clP clK; rw [← eh6, hK, ← hbE, ← eh7]), (by unfold clG clK; rw [← eh6, hK]; exact rfl), (by unfold clC clK; rw [← eh6, hK]; rfl), (by unfold clC clK; rw [← eh6, hK]; rfl), (by unfold clC clK; rw [← eh6, hK]; rfl), (by unfold clO clK; rw [← eh6, hK]; rfl), (by unfold clR clK; rw [← eh6, hK]; rfl), (by unfold clR clK; rw [← eh6, hK]; rw [ev13]; rfl), (mw_eq rfl rfl rfl rfl rfl rfl rfl rfl rfl rfl rfl rfl rfl rfl rfl rfl rfl rfl rfl rfl rfl rfl rfl rfl rfl rfl rfl rfl rfl rfl rfl rfl)⟩)) (rfl) dX6_takeClause_142
                · refine z_aload_n C dX6_takeClause_121 rfl (show zlk _ 0 = some (.ref (ad 0)) from rfl) ?_
                  refine z_iconst C (v := nI 1) dX6_takeClause_122 (by decide) ?_
                  refine z_aload_n C dX6_takeClause_123 rfl (show zlk _ 0 = some (.ref (ad 0)) from rfl) ?_
                  refine z_mg C hin 12 (by decide) (by decide +kernel) (v := .int (nI ph7)) mfv_12 dX6_takeClause_124 ?_
                  refine z_callVi C (As := [.int (nI 1), .int (nI ph7)]) (rest := []) (c_X6_fails l θ ad (nv (n 0) (n 1) (n 3) (n 5) (n 8) (n 10) ph7 vv13 pa13 (n 15) (n 16) (n 18) (n 20 + 1) (n 22) (n 27)) g (rv (r 2) (r 4) (r 6) (r 7) (r 9) (r 17) (r 19) (upd (r 21) (n 20) (nI vv13)) (r 23) (r 24) (r 25) (r 26) (r 28) (r 29) (r 30) (r 31) (r 32)) 1 ph7) gX6_takeClause_X6_fails rfl 2 (by decide +kernel) (by decide) (by decide) 0 rfl rfl rfl rfl rfl (Nat.le_of_ble_eq_true rfl) dX6_takeClause_127 ?_
                  rintro _ _ ⟨rfl, rfl⟩
                  refine z_top (v' := .int (nI 1)) rfl ?_
                  refine z_X (Y := MW θ ad (nv (n 0) (n 1) (n 3) (n 5) (n 8) (n 10) ph7 vv13 pa13 (n 15) (n 16) (n 18) (n 20 + 1) (n 22) (n 27)) (nI ph7) (rv (r 2) (r 4) (r 6) (r 7) (r 9) (r 17) (r 19) (upd (r 21) (n 20) (nI vv13)) (r 23) (r 24) (r 25) (r 26) (r 28) (r 29) (r 30) (r 31) (r 32))) (mw_eq rfl rfl rfl rfl rfl rfl rfl rfl rfl rfl rfl rfl rfl rfl rfl rfl rfl rfl rfl rfl rfl rfl rfl rfl rfl rfl rfl rfl rfl rfl rfl rfl) ?_
                  exact E _ _ _ _ (Or.inl (by have hsf : clF (r 9) (n 10) (n 12) (n 15) (n 16) (n 18) (n 20) = _ := clF_s eh6 hK hKn h77t_6 hEb; rw [← hbE] at hsf; unfold sF at hsf; rw [← eh7] at hsf; rw [if_neg h118n_8] at hsf; rw [hsf]; exact ⟨by simp, rfl, mJ_of rfl rfl rfl rfl rfl rfl rfl rfl rfl rfl rfl rfl rfl rfl rfl rfl rfl rfl rfl rfl rfl rfl⟩)) (rfl) dX6_takeClause_130
            · refine z_aload_n C dX6_takeClause_80 rfl (show zlk _ 0 = some (.ref (ad 0)) from rfl) ?_
              refine z_iconst C (v := nI 3) dX6_takeClause_81 (by decide) ?_
              refine z_aload_n C dX6_takeClause_82 rfl (show zlk _ 0 = some (.ref (ad 0)) from rfl) ?_
              refine z_mg C hin 12 (by decide) (by decide +kernel) (v := .int (nI ph6)) mfv_12 dX6_takeClause_83 ?_
              refine z_callVi C (As := [.int (nI 3), .int (nI ph6)]) (rest := []) (c_X6_fails l θ ad (nv (n 0) (n 1) (n 3) (n 5) (n 8) (n 10) ph6 (n 13) (n 14) (n 15) (n 16) (n 18) (n 20) (n 22) (n 27)) g r 3 ph6) gX6_takeClause_X6_fails rfl 2 (by decide +kernel) (by decide) (by decide) 0 rfl rfl rfl rfl rfl (Nat.le_of_ble_eq_true rfl) dX6_takeClause_86 ?_
              rintro _ _ ⟨rfl, rfl⟩
              refine z_top (v' := .int (nI 3)) rfl ?_
              refine z_X (Y := MW θ ad (nv (n 0) (n 1) (n 3) (n 5) (n 8) (n 10) ph6 (n 13) (n 14) (n 15) (n 16) (n 18) (n 20) (n 22) (n 27)) (nI ph6) r) (mw_eq rfl rfl rfl rfl rfl rfl rfl rfl rfl rfl rfl rfl rfl rfl rfl rfl rfl rfl rfl rfl rfl rfl rfl rfl rfl rfl rfl rfl rfl rfl rfl rfl) ?_
              exact E _ _ _ _ (Or.inl (by rw [clF_3 eh6 hK (by omega) h77n_6]; exact ⟨by simp, rfl, mJ_of rfl rfl rfl rfl rfl rfl rfl rfl rfl rfl rfl rfl rfl rfl rfl rfl rfl rfl rfl rfl rfl rfl⟩)) (rfl) dX6_takeClause_89
          · refine z_aload_n C dX6_takeClause_62 rfl (show zlk _ 0 = some (.ref (ad 0)) from rfl) ?_
            refine z_iconst C (v := nI 1) dX6_takeClause_63 (by decide) ?_
            refine z_aload_n C dX6_takeClause_64 rfl (show zlk _ 0 = some (.ref (ad 0)) from rfl) ?_
            refine z_mg C hin 12 (by decide) (by decide +kernel) (v := .int (nI ph6)) mfv_12 dX6_takeClause_65 ?_
            refine z_callVi C (As := [.int (nI 1), .int (nI ph6)]) (rest := []) (c_X6_fails l θ ad (nv (n 0) (n 1) (n 3) (n 5) (n 8) (n 10) ph6 (n 13) (n 14) (n 15) (n 16) (n 18) (n 20) (n 22) (n 27)) g r 1 ph6) gX6_takeClause_X6_fails rfl 2 (by decide +kernel) (by decide) (by decide) 0 rfl rfl rfl rfl rfl (Nat.le_of_ble_eq_true rfl) dX6_takeClause_68 ?_
            rintro _ _ ⟨rfl, rfl⟩
            refine z_top (v' := .int (nI 1)) rfl ?_
            refine z_X (Y := MW θ ad (nv (n 0) (n 1) (n 3) (n 5) (n 8) (n 10) ph6 (n 13) (n 14) (n 15) (n 16) (n 18) (n 20) (n 22) (n 27)) (nI ph6) r) (mw_eq rfl rfl rfl rfl rfl rfl rfl rfl rfl rfl rfl rfl rfl rfl rfl rfl rfl rfl rfl rfl rfl rfl rfl rfl rfl rfl rfl rfl rfl rfl rfl rfl) ?_
            exact E _ _ _ _ (Or.inl (by rw [clF_1 eh6 hK (by omega)]; exact ⟨by simp, rfl, mJ_of rfl rfl rfl rfl rfl rfl rfl rfl rfl rfl rfl rfl rfl rfl rfl rfl rfl rfl rfl rfl rfl rfl⟩)) (rfl) dX6_takeClause_71
      · refine z_iconst C (v := nI 2) dX6_takeClause_31 (by decide) ?_
        refine z_goto C 46 dX6_takeClause_32 (by decide) ?_
        refine z_istore_n C [(2, .int (nI 2)), (1, .int (m_hr (r 9) (n 10) ph6)), (0, .ref (ad 0))] dX6_takeClause_46 rfl (by decide) rfl ?_
        have hK : cK (m_hr (r 9) (n 10) ph6) = 2 := by unfold cK; rw [if_neg h8t_1, if_neg h18t_2, if_pos h28n_3]
        refine z_iload_n C dX6_takeClause_47 rfl (show zlk _ 2 = some (.int (nI 2)) from rfl) ?_
        refine z_if_ltN C 62 dX6_takeClause_48 (by decide) (by omega) ?_
        refine z_iload_n C dX6_takeClause_51 rfl (show zlk _ 2 = some (.int (nI 2)) from rfl) ?_
        refine z_if_leN C 72 dX6_takeClause_52 (by decide) (by decide) (fun h => absurd h (by decide)) (fun _ => ?_)
        refine z_aload_n C dX6_takeClause_55 rfl (show zlk _ 0 = some (.ref (ad 0)) from rfl) ?_
        refine z_mg C hin 15 (by decide) (by decide +kernel) (v := .int (nI (n 15))) mfv_15 dX6_takeClause_56 ?_
        refine z_if_neN C 72 dX6_takeClause_59 (by decide) (by omega) (fun h59t_9 => ?_) (fun h59n_9 => ?_)
        · refine z_aload_n C dX6_takeClause_72 rfl (show zlk _ 0 = some (.ref (ad 0)) from rfl) ?_
          refine z_iload_n C dX6_takeClause_73 rfl (show zlk _ 2 = some (.int (nI 2)) from rfl) ?_
          refine z_callVi C (As := [.int (nI 2)]) (rest := []) (c_X6_isFull_2 l θ ad (nv (n 0) (n 1) (n 3) (n 5) (n 8) (n 10) ph6 (n 13) (n 14) (n 15) (n 16) (n 18) (n 20) (n 22) (n 27)) g r (show n 15 < 2 ^ 31 by omega) (show n 16 < 2 ^ 31 by omega) (show n 18 < 2 ^ 31 by omega) (show n 20 < 2 ^ 31 by omega)) gX6_takeClause_X6_isFull rfl 1 (by decide +kernel) (by decide) (by decide) 0 rfl rfl rfl rfl rfl (Nat.le_of_ble_eq_true rfl) dX6_takeClause_74 ?_
          rintro _ _ ⟨rfl, rfl⟩
          refine z_top (v' := .int (bI (fullK (n 15) (n 16) (n 18) (n 20) 2))) rfl ?_
          refine z_if_eqB C 90 dX6_takeClause_77 (by decide) (fun h77t_10 => ?_) (fun h77n_10 => ?_)
          · have hKn : ¬ (2 = 4 ∨ (¬ 2 = 0 ∧ n 15 = 0)) := by omega
            have hcc : n 18 < 5 := by have h9 := h77t_10; simp [fullK] at h9; omega
            have hlt1 : ph6 < n 10 := by
              by_cases e9 : ph6 < n 10
              · exact e9
              · unfold m_hr at hK; rw [if_neg e9] at hK; exact absurd hK (by decide)
            refine z_aload_n C dX6_takeClause_90 rfl (show zlk _ 0 = some (.ref (ad 0)) from rfl) ?_
            refine z_dup C dX6_takeClause_91 rfl ?_
            refine z_mg C hin 12 (by decide) (by decide +kernel) (v := .int (nI ph6)) mfv_12 dX6_takeClause_92 ?_
            refine z_iconst C (v := nI 1) dX6_takeClause_95 (by decide) ?_
            refine z_iaddN C dX6_takeClause_96 ?_
            refine z_mp C hin 12 (by decide) (by decide +kernel) rfl rfl mpv_12 dX6_takeClause_97 ?_
            refine z_aload_n C dX6_takeClause_100 rfl (show zlk _ 0 = some (.ref (ad 0)) from rfl) ?_
            refine z_iload_n C dX6_takeClause_101 rfl (show zlk _ 2 = some (.int (nI 2)) from rfl) ?_
            refine z_callVi C (As := [.int (nI 2)]) (rest := []) (c_X6_takeBody_2 l θ ad (nv (n 0) (n 1) (n 3) (n 5) (n 8) (n 10) (ph6 + 1) (n 13) (n 14) (n 15) (n 16) (n 18) (n 20) (n 22) (n 27)) g r (show ph6 + 1 ≤ n 10 by omega) (hL) (hcc)) gX6_takeClause_X6_takeBody rfl 1 (by decide +kernel) (by decide) (by decide) 0 rfl rfl rfl rfl rfl (Nat.le_of_ble_eq_true rfl) dX6_takeClause_102 ?_
            rintro _ _ (⟨hE14, rfl, n14, r14, hJ14, rfl⟩ | ⟨hE14, rfl, pa14, pb14, vv14, eb14, ev14, rfl⟩)
            · replace hE14 : ¬ (nF (r 9) (n 10) (ph6 + 1) 0 5).1 = 0 := hE14
              refine z_istore_n C [(3, .int (nI ((nF (r 9) (n 10) (ph6 + 1) 0 5).1))), (2, .int (nI 2)), (1, .int (m_hr (r 9) (n 10) ph6)), (0, .ref (ad 0))] dX6_takeClause_105 rfl (by decide) rfl ?_
              refine z_iload_n C dX6_takeClause_106 rfl (show zlk _ 3 = some (.int (nI ((nF (r 9) (n 10) (ph6 + 1) 0 5).1))) from rfl) ?_
              refine z_if_leN C 112 dX6_takeClause_107 (by decide) (Nat.lt_of_le_of_lt (nF_le _ _ _ _ _) (by decide)) (fun h107n_11 => absurd h107n_11 (hE14)) (fun h107n_11 => ?_)
              refine z_iload_n C dX6_takeClause_110 rfl (show zlk _ 3 = some (.int (nI ((nF (r 9) (n 10) (ph6 + 1) 0 5).1))) from rfl) ?_
              exact E _ _ _ _ (Or.inl (by rw [clF_b eh6 hK hKn h77t_10 (by rw [bF_2]; exact hE14), bF_2]; exact ⟨hE14, rfl, _, _, hJ14, rfl⟩)) (rfl) dX6_takeClause_111
            · replace hE14 : (nF (r 9) (n 10) (ph6 + 1) 0 5).1 = 0 := hE14
              replace eb14 : pb14 = nE (r 9) (n 10) (ph6 + 1) := eb14
              replace ev14 : vv14 = nV (r 9) (n 10) (ph6 + 1) := ev14
              refine z_X (Y := MW θ ad (nv (n 0) (n 1) (n 3) (n 5) (n 8) (n 10) pb14 vv14 pa14 (n 15) (n 16) (n 18 + 1) (n 20) (n 22) (n 27)) g (rv (r 2) (r 4) (r 6) (r 7) (r 9) (r 17) (upd (r 19) (n 18) (nI vv14)) (r 21) (r 23) (r 24) (r 25) (r 26) (r 28) (r 29) (r 30) (r 31) (r 32))) (mw_eq rfl rfl rfl rfl rfl rfl rfl rfl rfl rfl rfl rfl rfl rfl rfl rfl rfl rfl rfl rfl rfl rfl rfl rfl rfl rfl rfl rfl rfl rfl rfl rfl) ?_
              refine z_istore_n C [(3, .int (nI 0)), (2, .int (nI 2)), (1, .int (m_hr (r 9) (n 10) ph6)), (0, .ref (ad 0))] dX6_takeClause_105 rfl (by decide) rfl ?_
              refine z_iload_n C dX6_takeClause_106 rfl (show zlk _ 3 = some (.int (nI 0)) from rfl) ?_
              refine z_if_leN C 112 dX6_takeClause_107 (by decide) (by decide) (fun _ => ?_) (fun h => absurd h (by decide))
              have hbE : pb14 = bE (r 9) (n 10) (ph6 + 1) 2 := by rw [bE_k (by decide)]; exact eb14
              have hEb : (bF (r 9) (n 10) (ph6 + 1) 2).1 = 0 := by rw [bF_2]; exact hE14
              have hbL : pb14 ≤ n 10 := by rw [hbE]; exact bE_le (by omega) hEb
              refine z_aload_n C dX6_takeClause_112 rfl (show zlk _ 0 = some (.ref (ad 0)) from rfl) ?_
              refine z_callVi C (As := []) (rest := []) (c_X6_here l θ ad (nv (n 0) (n 1) (n 3) (n 5) (n 8) (n 10) pb14 vv14 pa14 (n 15) (n 16) (n 18 + 1) (n 20) (n 22) (n 27)) g (rv (r 2) (r 4) (r 6) (r 7) (r 9) (r 17) (upd (r 19) (n 18) (nI vv14)) (r 21) (r 23) (r 24) (r 25) (r 26) (r 28) (r 29) (r 30) (r 31) (r 32)) (show pb14 ≤ n 10 by omega) (hL)) gX6_takeClause_X6_here rfl 0 (by decide +kernel) (by decide) (by decide) 0 rfl rfl rfl rfl rfl (Nat.le_of_ble_eq_true rfl) dX6_takeClause_113 ?_
              rintro _ _ ⟨ph8, eh8, rfl, rfl⟩
              replace eh8 : ph8 = sk (r 9) (n 10) (pb14) := eh8
              have lh8 : ph8 ≤ n 10 := by rw [eh8]; exact (sk_le (by omega)).2
              refine z_top (v' := .int (m_hr (r 9) (n 10) ph8)) rfl ?_
              refine z_X (Y := MW θ ad (nv (n 0) (n 1) (n 3) (n 5) (n 8) (n 10) ph8 vv14 pa14 (n 15) (n 16) (n 18 + 1) (n 20) (n 22) (n 27)) g (rv (r 2) (r 4) (r 6) (r 7) (r 9) (r 17) (upd (r 19) (n 18) (nI vv14)) (r 21) (r 23) (r 24) (r 25) (r 26) (r 28) (r 29) (r 30) (r 31) (r 32))) (mw_eq rfl rfl rfl rfl rfl rfl rfl rfl rfl rfl rfl rfl rfl rfl rfl rfl rfl rfl rfl rfl rfl rfl rfl rfl rfl rfl rfl rfl rfl rfl rfl rfl) ?_
              refine z_bipush C (v := nI 59) dX6_takeClause_116 (by decide) ?_
              refine z_icmp_eq C 131 dX6_takeClause_118 (by decide) (fun h118t_12 => ?_) (fun h118n_12 => ?_)
              · refine z_aload_n C dX6_takeClause_131 rfl (show zlk _ 0 = some (.ref (ad 0)) from rfl) ?_
                refine z_dup C dX6_takeClause_132 rfl ?_
                refine z_mg C hin 12 (by decide) (by decide +kernel) (v := .int (nI ph8)) mfv_12 dX6_takeClause_133 ?_
                refine z_iconst C (v := nI 1) dX6_takeClause_136 (by decide) ?_
                refine z_iaddN C dX6_takeClause_137 ?_
                refine z_mp C hin 12 (by decide) (by decide +kernel) rfl rfl mpv_12 dX6_takeClause_138 ?_
                refine z_iconst C (v := nI 0) dX6_takeClause_141 (by decide) ?_
                exact E _ _ _ _ (Or.inr (by have hsf : clF (r 9) (n 10) (n 12) (n 15) (n 16) (n 18) (n 20) = _ := clF_s eh6 hK hKn h77t_10 hEb; rw [← hbE] at hsf; unfold sF at hsf; rw [← eh8] at hsf; rw [if_pos h118t_12] at hsf; exact ⟨by rw [hsf], rfl, _, _, _, _, _, _, _, _, _, _, (by unfold clP clK; rw [← eh6, hK, ← hbE, ← eh8]), (by unfold clG clK; rw [← eh6, hK]; exact rfl), (by unfold clC clK; rw [← eh6, hK]; rfl), (by unfold clC clK; rw [← eh6, hK]; rfl), (by unfold clC clK; rw [← eh6, hK]; rfl), (by unfold clO clK; rw [← eh6, hK]; rfl), (by unfold clR clK; rw [← eh6, hK]; rw [ev14]; rfl), (by unfold clR clK; rw [← eh6, hK]; rfl), (mw_eq rfl rfl rfl rfl rfl rfl rfl rfl rfl rfl rfl rfl rfl rfl rfl rfl rfl rfl rfl rfl rfl rfl rfl rfl rfl rfl rfl rfl rfl rfl rfl rfl)⟩)) (rfl) dX6_takeClause_142
              · refine z_aload_n C dX6_takeClause_121 rfl (show zlk _ 0 = some (.ref (ad 0)) from rfl) ?_
                refine z_iconst C (v := nI 1) dX6_takeClause_122 (by decide) ?_
                refine z_aload_n C dX6_takeClause_123 rfl (show zlk _ 0 = some (.ref (ad 0)) from rfl) ?_
                refine z_mg C hin 12 (by decide) (by decide +kernel) (v := .int (nI ph8)) mfv_12 dX6_takeClause_124 ?_
                refine z_callVi C (As := [.int (nI 1), .int (nI ph8)]) (rest := []) (c_X6_fails l θ ad (nv (n 0) (n 1) (n 3) (n 5) (n 8) (n 10) ph8 vv14 pa14 (n 15) (n 16) (n 18 + 1) (n 20) (n 22) (n 27)) g (rv (r 2) (r 4) (r 6) (r 7) (r 9) (r 17) (upd (r 19) (n 18) (nI vv14)) (r 21) (r 23) (r 24) (r 25) (r 26) (r 28) (r 29) (r 30) (r 31) (r 32)) 1 ph8) gX6_takeClause_X6_fails rfl 2 (by decide +kernel) (by decide) (by decide) 0 rfl rfl rfl rfl rfl (Nat.le_of_ble_eq_true rfl) dX6_takeClause_127 ?_
                rintro _ _ ⟨rfl, rfl⟩
                refine z_top (v' := .int (nI 1)) rfl ?_
                refine z_X (Y := MW θ ad (nv (n 0) (n 1) (n 3) (n 5) (n 8) (n 10) ph8 vv14 pa14 (n 15) (n 16) (n 18 + 1) (n 20) (n 22) (n 27)) (nI ph8) (rv (r 2) (r 4) (r 6) (r 7) (r 9) (r 17) (upd (r 19) (n 18) (nI vv14)) (r 21) (r 23) (r 24) (r 25) (r 26) (r 28) (r 29) (r 30) (r 31) (r 32))) (mw_eq rfl rfl rfl rfl rfl rfl rfl rfl rfl rfl rfl rfl rfl rfl rfl rfl rfl rfl rfl rfl rfl rfl rfl rfl rfl rfl rfl rfl rfl rfl rfl rfl) ?_
                exact E _ _ _ _ (Or.inl (by have hsf : clF (r 9) (n 10) (n 12) (n 15) (n 16) (n 18) (n 20) = _ := clF_s eh6 hK hKn h77t_10 hEb; rw [← hbE] at hsf; unfold sF at hsf; rw [← eh8] at hsf; rw [if_neg h118n_12] at hsf; rw [hsf]; exact ⟨by simp, rfl, mJ_of rfl rfl rfl rfl rfl rfl rfl rfl rfl rfl rfl rfl rfl rfl rfl rfl rfl rfl rfl rfl rfl rfl⟩)) (rfl) dX6_takeClause_130
          · refine z_aload_n C dX6_takeClause_80 rfl (show zlk _ 0 = some (.ref (ad 0)) from rfl) ?_
            refine z_iconst C (v := nI 3) dX6_takeClause_81 (by decide) ?_
            refine z_aload_n C dX6_takeClause_82 rfl (show zlk _ 0 = some (.ref (ad 0)) from rfl) ?_
            refine z_mg C hin 12 (by decide) (by decide +kernel) (v := .int (nI ph6)) mfv_12 dX6_takeClause_83 ?_
            refine z_callVi C (As := [.int (nI 3), .int (nI ph6)]) (rest := []) (c_X6_fails l θ ad (nv (n 0) (n 1) (n 3) (n 5) (n 8) (n 10) ph6 (n 13) (n 14) (n 15) (n 16) (n 18) (n 20) (n 22) (n 27)) g r 3 ph6) gX6_takeClause_X6_fails rfl 2 (by decide +kernel) (by decide) (by decide) 0 rfl rfl rfl rfl rfl (Nat.le_of_ble_eq_true rfl) dX6_takeClause_86 ?_
            rintro _ _ ⟨rfl, rfl⟩
            refine z_top (v' := .int (nI 3)) rfl ?_
            refine z_X (Y := MW θ ad (nv (n 0) (n 1) (n 3) (n 5) (n 8) (n 10) ph6 (n 13) (n 14) (n 15) (n 16) (n 18) (n 20) (n 22) (n 27)) (nI ph6) r) (mw_eq rfl rfl rfl rfl rfl rfl rfl rfl rfl rfl rfl rfl rfl rfl rfl rfl rfl rfl rfl rfl rfl rfl rfl rfl rfl rfl rfl rfl rfl rfl rfl rfl) ?_
            exact E _ _ _ _ (Or.inl (by rw [clF_3 eh6 hK (by omega) h77n_10]; exact ⟨by simp, rfl, mJ_of rfl rfl rfl rfl rfl rfl rfl rfl rfl rfl rfl rfl rfl rfl rfl rfl rfl rfl rfl rfl rfl rfl⟩)) (rfl) dX6_takeClause_89
        · refine z_aload_n C dX6_takeClause_62 rfl (show zlk _ 0 = some (.ref (ad 0)) from rfl) ?_
          refine z_iconst C (v := nI 1) dX6_takeClause_63 (by decide) ?_
          refine z_aload_n C dX6_takeClause_64 rfl (show zlk _ 0 = some (.ref (ad 0)) from rfl) ?_
          refine z_mg C hin 12 (by decide) (by decide +kernel) (v := .int (nI ph6)) mfv_12 dX6_takeClause_65 ?_
          refine z_callVi C (As := [.int (nI 1), .int (nI ph6)]) (rest := []) (c_X6_fails l θ ad (nv (n 0) (n 1) (n 3) (n 5) (n 8) (n 10) ph6 (n 13) (n 14) (n 15) (n 16) (n 18) (n 20) (n 22) (n 27)) g r 1 ph6) gX6_takeClause_X6_fails rfl 2 (by decide +kernel) (by decide) (by decide) 0 rfl rfl rfl rfl rfl (Nat.le_of_ble_eq_true rfl) dX6_takeClause_68 ?_
          rintro _ _ ⟨rfl, rfl⟩
          refine z_top (v' := .int (nI 1)) rfl ?_
          refine z_X (Y := MW θ ad (nv (n 0) (n 1) (n 3) (n 5) (n 8) (n 10) ph6 (n 13) (n 14) (n 15) (n 16) (n 18) (n 20) (n 22) (n 27)) (nI ph6) r) (mw_eq rfl rfl rfl rfl rfl rfl rfl rfl rfl rfl rfl rfl rfl rfl rfl rfl rfl rfl rfl rfl rfl rfl rfl rfl rfl rfl rfl rfl rfl rfl rfl rfl) ?_
          exact E _ _ _ _ (Or.inl (by rw [clF_1 eh6 hK (by omega)]; exact ⟨by simp, rfl, mJ_of rfl rfl rfl rfl rfl rfl rfl rfl rfl rfl rfl rfl rfl rfl rfl rfl rfl rfl rfl rfl rfl rfl⟩)) (rfl) dX6_takeClause_71
    · refine z_iconst C (v := nI 1) dX6_takeClause_21 (by decide) ?_
      refine z_goto C 46 dX6_takeClause_22 (by decide) ?_
      refine z_istore_n C [(2, .int (nI 1)), (1, .int (m_hr (r 9) (n 10) ph6)), (0, .ref (ad 0))] dX6_takeClause_46 rfl (by decide) rfl ?_
      have hK : cK (m_hr (r 9) (n 10) ph6) = 1 := by unfold cK; rw [if_neg h8t_1, if_pos h18n_2]
      refine z_iload_n C dX6_takeClause_47 rfl (show zlk _ 2 = some (.int (nI 1)) from rfl) ?_
      refine z_if_ltN C 62 dX6_takeClause_48 (by decide) (by omega) ?_
      refine z_iload_n C dX6_takeClause_51 rfl (show zlk _ 2 = some (.int (nI 1)) from rfl) ?_
      refine z_if_leN C 72 dX6_takeClause_52 (by decide) (by decide) (fun h => absurd h (by decide)) (fun _ => ?_)
      refine z_aload_n C dX6_takeClause_55 rfl (show zlk _ 0 = some (.ref (ad 0)) from rfl) ?_
      refine z_mg C hin 15 (by decide) (by decide +kernel) (v := .int (nI (n 15))) mfv_15 dX6_takeClause_56 ?_
      refine z_if_neN C 72 dX6_takeClause_59 (by decide) (by omega) (fun h59t_13 => ?_) (fun h59n_13 => ?_)
      · refine z_aload_n C dX6_takeClause_72 rfl (show zlk _ 0 = some (.ref (ad 0)) from rfl) ?_
        refine z_iload_n C dX6_takeClause_73 rfl (show zlk _ 2 = some (.int (nI 1)) from rfl) ?_
        refine z_callVi C (As := [.int (nI 1)]) (rest := []) (c_X6_isFull_1 l θ ad (nv (n 0) (n 1) (n 3) (n 5) (n 8) (n 10) ph6 (n 13) (n 14) (n 15) (n 16) (n 18) (n 20) (n 22) (n 27)) g r (show n 15 < 2 ^ 31 by omega) (show n 16 < 2 ^ 31 by omega) (show n 18 < 2 ^ 31 by omega) (show n 20 < 2 ^ 31 by omega)) gX6_takeClause_X6_isFull rfl 1 (by decide +kernel) (by decide) (by decide) 0 rfl rfl rfl rfl rfl (Nat.le_of_ble_eq_true rfl) dX6_takeClause_74 ?_
        rintro _ _ ⟨rfl, rfl⟩
        refine z_top (v' := .int (bI (fullK (n 15) (n 16) (n 18) (n 20) 1))) rfl ?_
        refine z_if_eqB C 90 dX6_takeClause_77 (by decide) (fun h77t_14 => ?_) (fun h77n_14 => ?_)
        · have hKn : ¬ (1 = 4 ∨ (¬ 1 = 0 ∧ n 15 = 0)) := by omega
          have hcc : n 16 < 6 := by have h9 := h77t_14; simp [fullK] at h9; omega
          have hlt1 : ph6 < n 10 := by
            by_cases e9 : ph6 < n 10
            · exact e9
            · unfold m_hr at hK; rw [if_neg e9] at hK; exact absurd hK (by decide)
          refine z_aload_n C dX6_takeClause_90 rfl (show zlk _ 0 = some (.ref (ad 0)) from rfl) ?_
          refine z_dup C dX6_takeClause_91 rfl ?_
          refine z_mg C hin 12 (by decide) (by decide +kernel) (v := .int (nI ph6)) mfv_12 dX6_takeClause_92 ?_
          refine z_iconst C (v := nI 1) dX6_takeClause_95 (by decide) ?_
          refine z_iaddN C dX6_takeClause_96 ?_
          refine z_mp C hin 12 (by decide) (by decide +kernel) rfl rfl mpv_12 dX6_takeClause_97 ?_
          refine z_aload_n C dX6_takeClause_100 rfl (show zlk _ 0 = some (.ref (ad 0)) from rfl) ?_
          refine z_iload_n C dX6_takeClause_101 rfl (show zlk _ 2 = some (.int (nI 1)) from rfl) ?_
          refine z_callVi C (As := [.int (nI 1)]) (rest := []) (c_X6_takeBody_1 l θ ad (nv (n 0) (n 1) (n 3) (n 5) (n 8) (n 10) (ph6 + 1) (n 13) (n 14) (n 15) (n 16) (n 18) (n 20) (n 22) (n 27)) g r (show ph6 + 1 ≤ n 10 by omega) (hL) (hcc)) gX6_takeClause_X6_takeBody rfl 1 (by decide +kernel) (by decide) (by decide) 0 rfl rfl rfl rfl rfl (Nat.le_of_ble_eq_true rfl) dX6_takeClause_102 ?_
          rintro _ _ (⟨hE15, rfl, n15, r15, hJ15, rfl⟩ | ⟨hE15, rfl, pa15, pb15, vv15, ss15, eb15, es15, rfl⟩)
          · replace hE15 : ¬ (rF (r 9) (n 10) (ph6 + 1) 5).1 = 0 := hE15
            refine z_istore_n C [(3, .int (nI ((rF (r 9) (n 10) (ph6 + 1) 5).1))), (2, .int (nI 1)), (1, .int (m_hr (r 9) (n 10) ph6)), (0, .ref (ad 0))] dX6_takeClause_105 rfl (by decide) rfl ?_
            refine z_iload_n C dX6_takeClause_106 rfl (show zlk _ 3 = some (.int (nI ((rF (r 9) (n 10) (ph6 + 1) 5).1))) from rfl) ?_
            refine z_if_leN C 112 dX6_takeClause_107 (by decide) (Nat.lt_of_le_of_lt (rF_le _ _ _ _) (by decide)) (fun h107n_15 => absurd h107n_15 (hE15)) (fun h107n_15 => ?_)
            refine z_iload_n C dX6_takeClause_110 rfl (show zlk _ 3 = some (.int (nI ((rF (r 9) (n 10) (ph6 + 1) 5).1))) from rfl) ?_
            exact E _ _ _ _ (Or.inl (by rw [clF_b eh6 hK hKn h77t_14 (by rw [bF_1]; exact hE15), bF_1]; exact ⟨hE15, rfl, _, _, hJ15, rfl⟩)) (rfl) dX6_takeClause_111
          · replace hE15 : (rF (r 9) (n 10) (ph6 + 1) 5).1 = 0 := hE15
            replace eb15 : pb15 = nE (r 9) (n 10) (rwq (r 9) (n 10) (ph6 + 1) 4) := eb15
            replace es15 : ss15 = rS (r 9) (n 10) (ph6 + 1) 5 := es15
            refine z_X (Y := MW θ ad (nv (n 0) (n 1) (n 3) (n 5) (n 8) (n 10) pb15 vv15 pa15 (n 15) (n 16 + 1) (n 18) (n 20) (n 22) (n 27)) g (rv (r 2) (r 4) (r 6) (r 7) (r 9) (upd (r 17) (n 16) ss15) (r 19) (r 21) (r 23) (r 24) (r 25) (r 26) (r 28) (r 29) (r 30) (r 31) (r 32))) (mw_eq rfl rfl rfl rfl rfl rfl rfl rfl rfl rfl rfl rfl rfl rfl rfl rfl rfl rfl rfl rfl rfl rfl rfl rfl rfl rfl rfl rfl rfl rfl rfl rfl) ?_
            refine z_istore_n C [(3, .int (nI 0)), (2, .int (nI 1)), (1, .int (m_hr (r 9) (n 10) ph6)), (0, .ref (ad 0))] dX6_takeClause_105 rfl (by decide) rfl ?_
            refine z_iload_n C dX6_takeClause_106 rfl (show zlk _ 3 = some (.int (nI 0)) from rfl) ?_
            refine z_if_leN C 112 dX6_takeClause_107 (by decide) (by decide) (fun _ => ?_) (fun h => absurd h (by decide))
            have hbE : pb15 = bE (r 9) (n 10) (ph6 + 1) 1 := by rw [bE_1]; exact eb15
            have hEb : (bF (r 9) (n 10) (ph6 + 1) 1).1 = 0 := by rw [bF_1]; exact hE15
            have hbL : pb15 ≤ n 10 := by rw [hbE]; exact bE_le (by omega) hEb
            refine z_aload_n C dX6_takeClause_112 rfl (show zlk _ 0 = some (.ref (ad 0)) from rfl) ?_
            refine z_callVi C (As := []) (rest := []) (c_X6_here l θ ad (nv (n 0) (n 1) (n 3) (n 5) (n 8) (n 10) pb15 vv15 pa15 (n 15) (n 16 + 1) (n 18) (n 20) (n 22) (n 27)) g (rv (r 2) (r 4) (r 6) (r 7) (r 9) (upd (r 17) (n 16) ss15) (r 19) (r 21) (r 23) (r 24) (r 25) (r 26) (r 28) (r 29) (r 30) (r 31) (r 32)) (show pb15 ≤ n 10 by omega) (hL)) gX6_takeClause_X6_here rfl 0 (by decide +kernel) (by decide) (by decide) 0 rfl rfl rfl rfl rfl (Nat.le_of_ble_eq_true rfl) dX6_takeClause_113 ?_
            rintro _ _ ⟨ph9, eh9, rfl, rfl⟩
            replace eh9 : ph9 = sk (r 9) (n 10) (pb15) := eh9
            have lh9 : ph9 ≤ n 10 := by rw [eh9]; exact (sk_le (by omega)).2
            refine z_top (v' := .int (m_hr (r 9) (n 10) ph9)) rfl ?_
            refine z_X (Y := MW θ ad (nv (n 0) (n 1) (n 3) (n 5) (n 8) (n 10) ph9 vv15 pa15 (n 15) (n 16 + 1) (n 18) (n 20) (n 22) (n 27)) g (rv (r 2) (r 4) (r 6) (r 7) (r 9) (upd (r 17) (n 16) ss15) (r 19) (r 21) (r 23) (r 24) (r 25) (r 26) (r 28) (r 29) (r 30) (r 31) (r 32))) (mw_eq rfl rfl rfl rfl rfl rfl rfl rfl rfl rfl rfl rfl rfl rfl rfl rfl rfl rfl rfl rfl rfl rfl rfl rfl rfl rfl rfl rfl rfl rfl rfl rfl) ?_
            refine z_bipush C (v := nI 59) dX6_takeClause_116 (by decide) ?_
            refine z_icmp_eq C 131 dX6_takeClause_118 (by decide) (fun h118t_16 => ?_) (fun h118n_16 => ?_)
            · refine z_aload_n C dX6_takeClause_131 rfl (show zlk _ 0 = some (.ref (ad 0)) from rfl) ?_
              refine z_dup C dX6_takeClause_132 rfl ?_
              refine z_mg C hin 12 (by decide) (by decide +kernel) (v := .int (nI ph9)) mfv_12 dX6_takeClause_133 ?_
              refine z_iconst C (v := nI 1) dX6_takeClause_136 (by decide) ?_
              refine z_iaddN C dX6_takeClause_137 ?_
              refine z_mp C hin 12 (by decide) (by decide +kernel) rfl rfl mpv_12 dX6_takeClause_138 ?_
              refine z_iconst C (v := nI 0) dX6_takeClause_141 (by decide) ?_
              exact E _ _ _ _ (Or.inr (by have hsf : clF (r 9) (n 10) (n 12) (n 15) (n 16) (n 18) (n 20) = _ := clF_s eh6 hK hKn h77t_14 hEb; rw [← hbE] at hsf; unfold sF at hsf; rw [← eh9] at hsf; rw [if_pos h118t_16] at hsf; exact ⟨by rw [hsf], rfl, _, _, _, _, _, _, _, _, _, _, (by unfold clP clK; rw [← eh6, hK, ← hbE, ← eh9]), (by unfold clG clK; rw [← eh6, hK]; exact rfl), (by unfold clC clK; rw [← eh6, hK]; rfl), (by unfold clC clK; rw [← eh6, hK]; rfl), (by unfold clC clK; rw [← eh6, hK]; rfl), (by unfold clO clK; rw [← eh6, hK]; rw [es15]; rfl), (by unfold clR clK; rw [← eh6, hK]; rfl), (by unfold clR clK; rw [← eh6, hK]; rfl), (mw_eq rfl rfl rfl rfl rfl rfl rfl rfl rfl rfl rfl rfl rfl rfl rfl rfl rfl rfl rfl rfl rfl rfl rfl rfl rfl rfl rfl rfl rfl rfl rfl rfl)⟩)) (rfl) dX6_takeClause_142
            · refine z_aload_n C dX6_takeClause_121 rfl (show zlk _ 0 = some (.ref (ad 0)) from rfl) ?_
              refine z_iconst C (v := nI 1) dX6_takeClause_122 (by decide) ?_
              refine z_aload_n C dX6_takeClause_123 rfl (show zlk _ 0 = some (.ref (ad 0)) from rfl) ?_
              refine z_mg C hin 12 (by decide) (by decide +kernel) (v := .int (nI ph9)) mfv_12 dX6_takeClause_124 ?_
              refine z_callVi C (As := [.int (nI 1), .int (nI ph9)]) (rest := []) (c_X6_fails l θ ad (nv (n 0) (n 1) (n 3) (n 5) (n 8) (n 10) ph9 vv15 pa15 (n 15) (n 16 + 1) (n 18) (n 20) (n 22) (n 27)) g (rv (r 2) (r 4) (r 6) (r 7) (r 9) (upd (r 17) (n 16) ss15) (r 19) (r 21) (r 23) (r 24) (r 25) (r 26) (r 28) (r 29) (r 30) (r 31) (r 32)) 1 ph9) gX6_takeClause_X6_fails rfl 2 (by decide +kernel) (by decide) (by decide) 0 rfl rfl rfl rfl rfl (Nat.le_of_ble_eq_true rfl) dX6_takeClause_127 ?_
              rintro _ _ ⟨rfl, rfl⟩
              refine z_top (v' := .int (nI 1)) rfl ?_
              refine z_X (Y := MW θ ad (nv (n 0) (n 1) (n 3) (n 5) (n 8) (n 10) ph9 vv15 pa15 (n 15) (n 16 + 1) (n 18) (n 20) (n 22) (n 27)) (nI ph9) (rv (r 2) (r 4) (r 6) (r 7) (r 9) (upd (r 17) (n 16) ss15) (r 19) (r 21) (r 23) (r 24) (r 25) (r 26) (r 28) (r 29) (r 30) (r 31) (r 32))) (mw_eq rfl rfl rfl rfl rfl rfl rfl rfl rfl rfl rfl rfl rfl rfl rfl rfl rfl rfl rfl rfl rfl rfl rfl rfl rfl rfl rfl rfl rfl rfl rfl rfl) ?_
              exact E _ _ _ _ (Or.inl (by have hsf : clF (r 9) (n 10) (n 12) (n 15) (n 16) (n 18) (n 20) = _ := clF_s eh6 hK hKn h77t_14 hEb; rw [← hbE] at hsf; unfold sF at hsf; rw [← eh9] at hsf; rw [if_neg h118n_16] at hsf; rw [hsf]; exact ⟨by simp, rfl, mJ_of rfl rfl rfl rfl rfl rfl rfl rfl rfl rfl rfl rfl rfl rfl rfl rfl rfl rfl rfl rfl rfl rfl⟩)) (rfl) dX6_takeClause_130
        · refine z_aload_n C dX6_takeClause_80 rfl (show zlk _ 0 = some (.ref (ad 0)) from rfl) ?_
          refine z_iconst C (v := nI 3) dX6_takeClause_81 (by decide) ?_
          refine z_aload_n C dX6_takeClause_82 rfl (show zlk _ 0 = some (.ref (ad 0)) from rfl) ?_
          refine z_mg C hin 12 (by decide) (by decide +kernel) (v := .int (nI ph6)) mfv_12 dX6_takeClause_83 ?_
          refine z_callVi C (As := [.int (nI 3), .int (nI ph6)]) (rest := []) (c_X6_fails l θ ad (nv (n 0) (n 1) (n 3) (n 5) (n 8) (n 10) ph6 (n 13) (n 14) (n 15) (n 16) (n 18) (n 20) (n 22) (n 27)) g r 3 ph6) gX6_takeClause_X6_fails rfl 2 (by decide +kernel) (by decide) (by decide) 0 rfl rfl rfl rfl rfl (Nat.le_of_ble_eq_true rfl) dX6_takeClause_86 ?_
          rintro _ _ ⟨rfl, rfl⟩
          refine z_top (v' := .int (nI 3)) rfl ?_
          refine z_X (Y := MW θ ad (nv (n 0) (n 1) (n 3) (n 5) (n 8) (n 10) ph6 (n 13) (n 14) (n 15) (n 16) (n 18) (n 20) (n 22) (n 27)) (nI ph6) r) (mw_eq rfl rfl rfl rfl rfl rfl rfl rfl rfl rfl rfl rfl rfl rfl rfl rfl rfl rfl rfl rfl rfl rfl rfl rfl rfl rfl rfl rfl rfl rfl rfl rfl) ?_
          exact E _ _ _ _ (Or.inl (by rw [clF_3 eh6 hK (by omega) h77n_14]; exact ⟨by simp, rfl, mJ_of rfl rfl rfl rfl rfl rfl rfl rfl rfl rfl rfl rfl rfl rfl rfl rfl rfl rfl rfl rfl rfl rfl⟩)) (rfl) dX6_takeClause_89
      · refine z_aload_n C dX6_takeClause_62 rfl (show zlk _ 0 = some (.ref (ad 0)) from rfl) ?_
        refine z_iconst C (v := nI 1) dX6_takeClause_63 (by decide) ?_
        refine z_aload_n C dX6_takeClause_64 rfl (show zlk _ 0 = some (.ref (ad 0)) from rfl) ?_
        refine z_mg C hin 12 (by decide) (by decide +kernel) (v := .int (nI ph6)) mfv_12 dX6_takeClause_65 ?_
        refine z_callVi C (As := [.int (nI 1), .int (nI ph6)]) (rest := []) (c_X6_fails l θ ad (nv (n 0) (n 1) (n 3) (n 5) (n 8) (n 10) ph6 (n 13) (n 14) (n 15) (n 16) (n 18) (n 20) (n 22) (n 27)) g r 1 ph6) gX6_takeClause_X6_fails rfl 2 (by decide +kernel) (by decide) (by decide) 0 rfl rfl rfl rfl rfl (Nat.le_of_ble_eq_true rfl) dX6_takeClause_68 ?_
        rintro _ _ ⟨rfl, rfl⟩
        refine z_top (v' := .int (nI 1)) rfl ?_
        refine z_X (Y := MW θ ad (nv (n 0) (n 1) (n 3) (n 5) (n 8) (n 10) ph6 (n 13) (n 14) (n 15) (n 16) (n 18) (n 20) (n 22) (n 27)) (nI ph6) r) (mw_eq rfl rfl rfl rfl rfl rfl rfl rfl rfl rfl rfl rfl rfl rfl rfl rfl rfl rfl rfl rfl rfl rfl rfl rfl rfl rfl rfl rfl rfl rfl rfl rfl) ?_
        exact E _ _ _ _ (Or.inl (by rw [clF_1 eh6 hK (by omega)]; exact ⟨by simp, rfl, mJ_of rfl rfl rfl rfl rfl rfl rfl rfl rfl rfl rfl rfl rfl rfl rfl rfl rfl rfl rfl rfl rfl rfl⟩)) (rfl) dX6_takeClause_71
  · refine z_iconst C (v := nI 0) dX6_takeClause_11 (by decide) ?_
    refine z_goto C 46 dX6_takeClause_12 (by decide) ?_
    refine z_istore_n C [(2, .int (nI 0)), (1, .int (m_hr (r 9) (n 10) ph6)), (0, .ref (ad 0))] dX6_takeClause_46 rfl (by decide) rfl ?_
    have hK : cK (m_hr (r 9) (n 10) ph6) = 0 := by unfold cK; rw [if_pos h8n_1]
    refine z_iload_n C dX6_takeClause_47 rfl (show zlk _ 2 = some (.int (nI 0)) from rfl) ?_
    refine z_if_ltN C 62 dX6_takeClause_48 (by decide) (by omega) ?_
    refine z_iload_n C dX6_takeClause_51 rfl (show zlk _ 2 = some (.int (nI 0)) from rfl) ?_
    refine z_if_leN C 72 dX6_takeClause_52 (by decide) (by decide) (fun _ => ?_) (fun h => absurd h (by decide))
    refine z_aload_n C dX6_takeClause_72 rfl (show zlk _ 0 = some (.ref (ad 0)) from rfl) ?_
    refine z_iload_n C dX6_takeClause_73 rfl (show zlk _ 2 = some (.int (nI 0)) from rfl) ?_
    refine z_callVi C (As := [.int (nI 0)]) (rest := []) (c_X6_isFull_0 l θ ad (nv (n 0) (n 1) (n 3) (n 5) (n 8) (n 10) ph6 (n 13) (n 14) (n 15) (n 16) (n 18) (n 20) (n 22) (n 27)) g r (show n 15 < 2 ^ 31 by omega) (show n 16 < 2 ^ 31 by omega) (show n 18 < 2 ^ 31 by omega) (show n 20 < 2 ^ 31 by omega)) gX6_takeClause_X6_isFull rfl 1 (by decide +kernel) (by decide) (by decide) 0 rfl rfl rfl rfl rfl (Nat.le_of_ble_eq_true rfl) dX6_takeClause_74 ?_
    rintro _ _ ⟨rfl, rfl⟩
    refine z_top (v' := .int (bI (fullK (n 15) (n 16) (n 18) (n 20) 0))) rfl ?_
    refine z_if_eqB C 90 dX6_takeClause_77 (by decide) (fun h77t_17 => ?_) (fun h77n_17 => ?_)
    · have hKn : ¬ (0 = 4 ∨ (¬ 0 = 0 ∧ n 15 = 0)) := by omega
      have hlt1 : ph6 < n 10 := by
        by_cases e9 : ph6 < n 10
        · exact e9
        · unfold m_hr at hK; rw [if_neg e9] at hK; exact absurd hK (by decide)
      refine z_aload_n C dX6_takeClause_90 rfl (show zlk _ 0 = some (.ref (ad 0)) from rfl) ?_
      refine z_dup C dX6_takeClause_91 rfl ?_
      refine z_mg C hin 12 (by decide) (by decide +kernel) (v := .int (nI ph6)) mfv_12 dX6_takeClause_92 ?_
      refine z_iconst C (v := nI 1) dX6_takeClause_95 (by decide) ?_
      refine z_iaddN C dX6_takeClause_96 ?_
      refine z_mp C hin 12 (by decide) (by decide +kernel) rfl rfl mpv_12 dX6_takeClause_97 ?_
      refine z_aload_n C dX6_takeClause_100 rfl (show zlk _ 0 = some (.ref (ad 0)) from rfl) ?_
      refine z_iload_n C dX6_takeClause_101 rfl (show zlk _ 2 = some (.int (nI 0)) from rfl) ?_
      refine z_callVi C (As := [.int (nI 0)]) (rest := []) (c_X6_takeBody_0 l θ ad (nv (n 0) (n 1) (n 3) (n 5) (n 8) (n 10) (ph6 + 1) (n 13) (n 14) (n 15) (n 16) (n 18) (n 20) (n 22) (n 27)) g r (show ph6 + 1 ≤ n 10 by omega) (hL) ) gX6_takeClause_X6_takeBody rfl 1 (by decide +kernel) (by decide) (by decide) 0 rfl rfl rfl rfl rfl (Nat.le_of_ble_eq_true rfl) dX6_takeClause_102 ?_
      rintro _ _ (⟨hE16, rfl, n16, r16, hJ16, rfl⟩ | ⟨hE16, rfl, pa16, pb16, vv16, eb16, ev16, rfl⟩)
      · replace hE16 : ¬ (nF (r 9) (n 10) (ph6 + 1) 1 30).1 = 0 := hE16
        refine z_istore_n C [(3, .int (nI ((nF (r 9) (n 10) (ph6 + 1) 1 30).1))), (2, .int (nI 0)), (1, .int (m_hr (r 9) (n 10) ph6)), (0, .ref (ad 0))] dX6_takeClause_105 rfl (by decide) rfl ?_
        refine z_iload_n C dX6_takeClause_106 rfl (show zlk _ 3 = some (.int (nI ((nF (r 9) (n 10) (ph6 + 1) 1 30).1))) from rfl) ?_
        refine z_if_leN C 112 dX6_takeClause_107 (by decide) (Nat.lt_of_le_of_lt (nF_le _ _ _ _ _) (by decide)) (fun h107n_18 => absurd h107n_18 (hE16)) (fun h107n_18 => ?_)
        refine z_iload_n C dX6_takeClause_110 rfl (show zlk _ 3 = some (.int (nI ((nF (r 9) (n 10) (ph6 + 1) 1 30).1))) from rfl) ?_
        exact E _ _ _ _ (Or.inl (by rw [clF_b eh6 hK hKn h77t_17 (by rw [bF_0]; exact hE16), bF_0]; exact ⟨hE16, rfl, _, _, hJ16, rfl⟩)) (rfl) dX6_takeClause_111
      · replace hE16 : (nF (r 9) (n 10) (ph6 + 1) 1 30).1 = 0 := hE16
        replace eb16 : pb16 = nE (r 9) (n 10) (ph6 + 1) := eb16
        replace ev16 : vv16 = nV (r 9) (n 10) (ph6 + 1) := ev16
        refine z_X (Y := MW θ ad (nv (n 0) (n 1) (n 3) (n 5) (n 8) (n 10) pb16 vv16 pa16 vv16 (n 16) (n 18) (n 20) (n 22) (n 27)) g r) (mw_eq rfl rfl rfl rfl rfl rfl rfl rfl rfl rfl rfl rfl rfl rfl rfl rfl rfl rfl rfl rfl rfl rfl rfl rfl rfl rfl rfl rfl rfl rfl rfl rfl) ?_
        refine z_istore_n C [(3, .int (nI 0)), (2, .int (nI 0)), (1, .int (m_hr (r 9) (n 10) ph6)), (0, .ref (ad 0))] dX6_takeClause_105 rfl (by decide) rfl ?_
        refine z_iload_n C dX6_takeClause_106 rfl (show zlk _ 3 = some (.int (nI 0)) from rfl) ?_
        refine z_if_leN C 112 dX6_takeClause_107 (by decide) (by decide) (fun _ => ?_) (fun h => absurd h (by decide))
        have hbE : pb16 = bE (r 9) (n 10) (ph6 + 1) 0 := by rw [bE_k (by decide)]; exact eb16
        have hEb : (bF (r 9) (n 10) (ph6 + 1) 0).1 = 0 := by rw [bF_0]; exact hE16
        have hbL : pb16 ≤ n 10 := by rw [hbE]; exact bE_le (by omega) hEb
        refine z_aload_n C dX6_takeClause_112 rfl (show zlk _ 0 = some (.ref (ad 0)) from rfl) ?_
        refine z_callVi C (As := []) (rest := []) (c_X6_here l θ ad (nv (n 0) (n 1) (n 3) (n 5) (n 8) (n 10) pb16 vv16 pa16 vv16 (n 16) (n 18) (n 20) (n 22) (n 27)) g r (show pb16 ≤ n 10 by omega) (hL)) gX6_takeClause_X6_here rfl 0 (by decide +kernel) (by decide) (by decide) 0 rfl rfl rfl rfl rfl (Nat.le_of_ble_eq_true rfl) dX6_takeClause_113 ?_
        rintro _ _ ⟨ph10, eh10, rfl, rfl⟩
        replace eh10 : ph10 = sk (r 9) (n 10) (pb16) := eh10
        have lh10 : ph10 ≤ n 10 := by rw [eh10]; exact (sk_le (by omega)).2
        refine z_top (v' := .int (m_hr (r 9) (n 10) ph10)) rfl ?_
        refine z_X (Y := MW θ ad (nv (n 0) (n 1) (n 3) (n 5) (n 8) (n 10) ph10 vv16 pa16 vv16 (n 16) (n 18) (n 20) (n 22) (n 27)) g r) (mw_eq rfl rfl rfl rfl rfl rfl rfl rfl rfl rfl rfl rfl rfl rfl rfl rfl rfl rfl rfl rfl rfl rfl rfl rfl rfl rfl rfl rfl rfl rfl rfl rfl) ?_
        refine z_bipush C (v := nI 59) dX6_takeClause_116 (by decide) ?_
        refine z_icmp_eq C 131 dX6_takeClause_118 (by decide) (fun h118t_19 => ?_) (fun h118n_19 => ?_)
        · refine z_aload_n C dX6_takeClause_131 rfl (show zlk _ 0 = some (.ref (ad 0)) from rfl) ?_
          refine z_dup C dX6_takeClause_132 rfl ?_
          refine z_mg C hin 12 (by decide) (by decide +kernel) (v := .int (nI ph10)) mfv_12 dX6_takeClause_133 ?_
          refine z_iconst C (v := nI 1) dX6_takeClause_136 (by decide) ?_
          refine z_iaddN C dX6_takeClause_137 ?_
          refine z_mp C hin 12 (by decide) (by decide +kernel) rfl rfl mpv_12 dX6_takeClause_138 ?_
          refine z_iconst C (v := nI 0) dX6_takeClause_141 (by decide) ?_
          exact E _ _ _ _ (Or.inr (by have hsf : clF (r 9) (n 10) (n 12) (n 15) (n 16) (n 18) (n 20) = _ := clF_s eh6 hK hKn h77t_17 hEb; rw [← hbE] at hsf; unfold sF at hsf; rw [← eh10] at hsf; rw [if_pos h118t_19] at hsf; exact ⟨by rw [hsf], rfl, _, _, _, _, _, _, _, _, _, _, (by unfold clP clK; rw [← eh6, hK, ← hbE, ← eh10]), (by unfold clG clK; rw [← eh6, hK]; exact ev16), (by unfold clC clK; rw [← eh6, hK]; rfl), (by unfold clC clK; rw [← eh6, hK]; rfl), (by unfold clC clK; rw [← eh6, hK]; rfl), (by unfold clO clK; rw [← eh6, hK]; rfl), (by unfold clR clK; rw [← eh6, hK]; rfl), (by unfold clR clK; rw [← eh6, hK]; rfl), (mw_eq rfl rfl rfl rfl rfl rfl rfl rfl rfl rfl rfl rfl rfl rfl rfl rfl rfl rfl rfl rfl rfl rfl rfl rfl rfl rfl rfl rfl rfl rfl rfl rfl)⟩)) (rfl) dX6_takeClause_142
        · refine z_aload_n C dX6_takeClause_121 rfl (show zlk _ 0 = some (.ref (ad 0)) from rfl) ?_
          refine z_iconst C (v := nI 1) dX6_takeClause_122 (by decide) ?_
          refine z_aload_n C dX6_takeClause_123 rfl (show zlk _ 0 = some (.ref (ad 0)) from rfl) ?_
          refine z_mg C hin 12 (by decide) (by decide +kernel) (v := .int (nI ph10)) mfv_12 dX6_takeClause_124 ?_
          refine z_callVi C (As := [.int (nI 1), .int (nI ph10)]) (rest := []) (c_X6_fails l θ ad (nv (n 0) (n 1) (n 3) (n 5) (n 8) (n 10) ph10 vv16 pa16 vv16 (n 16) (n 18) (n 20) (n 22) (n 27)) g r 1 ph10) gX6_takeClause_X6_fails rfl 2 (by decide +kernel) (by decide) (by decide) 0 rfl rfl rfl rfl rfl (Nat.le_of_ble_eq_true rfl) dX6_takeClause_127 ?_
          rintro _ _ ⟨rfl, rfl⟩
          refine z_top (v' := .int (nI 1)) rfl ?_
          refine z_X (Y := MW θ ad (nv (n 0) (n 1) (n 3) (n 5) (n 8) (n 10) ph10 vv16 pa16 vv16 (n 16) (n 18) (n 20) (n 22) (n 27)) (nI ph10) r) (mw_eq rfl rfl rfl rfl rfl rfl rfl rfl rfl rfl rfl rfl rfl rfl rfl rfl rfl rfl rfl rfl rfl rfl rfl rfl rfl rfl rfl rfl rfl rfl rfl rfl) ?_
          exact E _ _ _ _ (Or.inl (by have hsf : clF (r 9) (n 10) (n 12) (n 15) (n 16) (n 18) (n 20) = _ := clF_s eh6 hK hKn h77t_17 hEb; rw [← hbE] at hsf; unfold sF at hsf; rw [← eh10] at hsf; rw [if_neg h118n_19] at hsf; rw [hsf]; exact ⟨by simp, rfl, mJ_of rfl rfl rfl rfl rfl rfl rfl rfl rfl rfl rfl rfl rfl rfl rfl rfl rfl rfl rfl rfl rfl rfl⟩)) (rfl) dX6_takeClause_130
    · refine z_aload_n C dX6_takeClause_80 rfl (show zlk _ 0 = some (.ref (ad 0)) from rfl) ?_
      refine z_iconst C (v := nI 3) dX6_takeClause_81 (by decide) ?_
      refine z_aload_n C dX6_takeClause_82 rfl (show zlk _ 0 = some (.ref (ad 0)) from rfl) ?_
      refine z_mg C hin 12 (by decide) (by decide +kernel) (v := .int (nI ph6)) mfv_12 dX6_takeClause_83 ?_
      refine z_callVi C (As := [.int (nI 3), .int (nI ph6)]) (rest := []) (c_X6_fails l θ ad (nv (n 0) (n 1) (n 3) (n 5) (n 8) (n 10) ph6 (n 13) (n 14) (n 15) (n 16) (n 18) (n 20) (n 22) (n 27)) g r 3 ph6) gX6_takeClause_X6_fails rfl 2 (by decide +kernel) (by decide) (by decide) 0 rfl rfl rfl rfl rfl (Nat.le_of_ble_eq_true rfl) dX6_takeClause_86 ?_
      rintro _ _ ⟨rfl, rfl⟩
      refine z_top (v' := .int (nI 3)) rfl ?_
      refine z_X (Y := MW θ ad (nv (n 0) (n 1) (n 3) (n 5) (n 8) (n 10) ph6 (n 13) (n 14) (n 15) (n 16) (n 18) (n 20) (n 22) (n 27)) (nI ph6) r) (mw_eq rfl rfl rfl rfl rfl rfl rfl rfl rfl rfl rfl rfl rfl rfl rfl rfl rfl rfl rfl rfl rfl rfl rfl rfl rfl rfl rfl rfl rfl rfl rfl rfl) ?_
      exact E _ _ _ _ (Or.inl (by rw [clF_3 eh6 hK (by omega) h77n_17]; exact ⟨by simp, rfl, mJ_of rfl rfl rfl rfl rfl rfl rfl rfl rfl rfl rfl rfl rfl rfl rfl rfl rfl rfl rfl rfl rfl rfl⟩)) (rfl) dX6_takeClause_89

