/-! the reading of a text: two readings over other junk agree -/
theorem nF_0 {f : Nat → Int32} {L p lo hi : Nat} (h : (nF f L p lo hi).1 = 0) : lo ≤ nV f L p ∧ nV f L p ≤ hi := by
  unfold nF at h
  split at h
  · exact absurd h (by simp)
  · split at h
    · exact absurd h (by simp)
    · omega
theorem rF_0 {f : Nat → Int32} {L p : Nat} : ∀ n, (rF f L p n).1 = 0 → ∀ i, i < n → nV f L (rwq f L p i) ≤ 63
  | 0, _, i, hi => absurd hi (Nat.not_lt_zero _)
  | 1, h, i, hi => by
    have : i = 0 := by omega
    subst this
    exact (nF_0 (lo := 0) (hi := 63) h).2
  | n + 2, h, i, hi => by
    have h1 : (rF f L p (n + 1)).1 = 0 := by
      by_cases e : (rF f L p (n + 1)).1 = 0
      · exact e
      · rw [rF_up (i := n + 1) (j := n + 2) (by omega) e] at h; exact h
    by_cases e : i = n + 1
    · subst e
      have hs : m_hr f L (sk f L (rE f L p (n + 1))) = nI 44 := by
        by_cases q : m_hr f L (sk f L (rE f L p (n + 1))) = nI 44
        · exact q
        · rw [rF_sign h1 q] at h; exact absurd h (by simp)
      rw [rF_step h1 hs] at h
      exact (nF_0 (lo := 0) (hi := 63) h).2
    · exact rF_0 (n + 1) h1 i (by omega)
theorem isD_row {v i : Nat} (hv : v ≤ 63) (hi : i < 5) : isD (nI v <<< (nI (6 * i) &&& 31)) := fun j h1 h2 => by
  rw [bt_shl _ (by omega) h2, bt_nI (by omega)]
  by_cases e : 6 * i ≤ j
  · rw [Nat.testBit_lt_two_pow (Nat.lt_of_lt_of_le (show v < 2 ^ 6 by omega) (Nat.pow_le_pow_right (by decide) (show 6 ≤ j - 6 * i by omega))), Bool.and_false]
  · rw [decide_eq_false e]; rfl
theorem rS_D {f : Nat → Int32} {L p : Nat} : ∀ n, n ≤ 5 → (∀ i, i < n → nV f L (rwq f L p i) ≤ 63) → isD (rS f L p n)
  | 0, _, _ => isD_0
  | n + 1, h, hv => isD_or (rS_D n (by omega) (fun i hi => hv i (by omega))) (isD_row (hv n (by omega)) (by omega))
def PI (L : Nat) (s : PT) : Prop := s.1 ≤ L ∧ (s.2.1 ≤ 30 ∧ s.2.2.1 ≤ 6 ∧ s.2.2.2.1 ≤ 5 ∧ s.2.2.2.2.1 ≤ 6) ∧ (∀ j : Nat, j < s.2.2.1 → isD (s.2.2.2.2.2.1 j)) ∧ (∀ j : Nat, j < s.2.2.2.1 → ∃ v : Nat, v ≤ 5 ∧ s.2.2.2.2.2.2.1 j = nI v) ∧ (∀ j : Nat, j < s.2.2.2.2.1 → ∃ v : Nat, v < 64 ∧ s.2.2.2.2.2.2.2 j = nI v)
def PP (s s' : PT) : Prop := s'.1 = s.1 ∧ s'.2.1 = s.2.1 ∧ s'.2.2.1 = s.2.2.1 ∧ s'.2.2.2.1 = s.2.2.2.1 ∧ s'.2.2.2.2.1 = s.2.2.2.2.1 ∧ (∀ j : Nat, j < s.2.2.1 → s'.2.2.2.2.2.1 j = s.2.2.2.2.2.1 j) ∧ (∀ j : Nat, j < s.2.2.2.1 → s'.2.2.2.2.2.2.1 j = s.2.2.2.2.2.2.1 j) ∧ (∀ j : Nat, j < s.2.2.2.2.1 → s'.2.2.2.2.2.2.2 j = s.2.2.2.2.2.2.2 j)
theorem clF_body {f : Nat → Int32} {L p G S W C : Nat} (h : (clF f L p G S W C).1 = 0) : (bF f L (sk f L p + 1) (clK f L p)).1 = 0 := by
  unfold clF at h
  have e : cK (m_hr f L (sk f L p)) = clK f L p := rfl
  rw [e] at h
  split at h
  · exact absurd h (by simp)
  · split at h
    · exact absurd h (by simp)
    · split at h
      · assumption
      · assumption
theorem cl_PI {f : Nat → Int32} {L : Nat} {s : PT} (h : PI L s) (hF : (clFs f L s).1 = 0) : PI L (clS f L s) := by
  obtain ⟨h1, h2, h3, h4, h5⟩ := h
  have hok := cl_ok (f := f) h1 h2 hF
  have hb := clF_body hF
  refine ⟨hok.1, ⟨hok.2.2.1, hok.2.2.2.2.1, hok.2.2.2.2.2.1, hok.2.2.2.2.2.2.1⟩, ?_, ?_, ?_⟩
  · intro j hj
    show isD (clO f L s.1 s.2.2.1 s.2.2.2.2.2.1 j)
    have hj' : j < clC f L s.1 1 s.2.2.1 := hj
    unfold clO clC at *
    by_cases e : clK f L s.1 = 1
    · rw [if_pos e] at hj' ⊢
      rw [e, bF_1] at hb
      by_cases q : j = s.2.2.1
      · rw [q, pk_us]; exact rS_D 5 (Nat.le_refl _) (rF_0 5 hb)
      · rw [pk_un q]; exact h3 j (by omega)
    · rw [if_neg e] at hj' ⊢
      exact h3 j hj'
  · intro j hj
    show ∃ v : Nat, v ≤ 5 ∧ clR f L s.1 2 s.2.2.2.1 s.2.2.2.2.2.2.1 j = nI v
    have hj' : j < clC f L s.1 2 s.2.2.2.1 := hj
    unfold clR clC at *
    by_cases e : clK f L s.1 = 2
    · rw [if_pos e] at hj' ⊢
      rw [e, bF_2] at hb
      by_cases q : j = s.2.2.2.1
      · rw [q, pk_us]; exact ⟨_, (nF_0 hb).2, rfl⟩
      · rw [pk_un q]; exact h4 j (by omega)
    · rw [if_neg e] at hj' ⊢
      exact h4 j hj'
  · intro j hj
    show ∃ v : Nat, v < 64 ∧ clR f L s.1 3 s.2.2.2.2.1 s.2.2.2.2.2.2.2 j = nI v
    have hj' : j < clC f L s.1 3 s.2.2.2.2.1 := hj
    unfold clR clC at *
    by_cases e : clK f L s.1 = 3
    · rw [if_pos e] at hj' ⊢
      rw [e, bF_3] at hb
      by_cases q : j = s.2.2.2.2.1
      · rw [q, pk_us]; exact ⟨_, Nat.lt_succ_of_le (nF_0 hb).2, rfl⟩
      · rw [pk_un q]; exact h5 j (by omega)
    · rw [if_neg e] at hj' ⊢
      exact h5 j hj'
theorem cl_PP {f : Nat → Int32} {L : Nat} {s s' : PT} (h : PP s s') : PP (clS f L s) (clS f L s') := by
  obtain ⟨h1, h2, h3, h4, h5, h6, h7, h8⟩ := h
  unfold clS PP
  dsimp only
  rw [h1, h2, h3, h4, h5]
  refine ⟨rfl, rfl, rfl, rfl, rfl, fun j hj => ?_, fun j hj => ?_, fun j hj => ?_⟩
  · unfold clO clC at *
    by_cases e : clK f L s.1 = 1
    · rw [if_pos e] at hj ⊢
      rw [if_pos e]
      by_cases q : j = s.2.2.1
      · rw [q, pk_us, pk_us]
      · rw [pk_un q, pk_un q]; exact h6 j (by omega)
    · rw [if_neg e] at hj ⊢
      rw [if_neg e]; exact h6 j hj
  · unfold clR clC at *
    by_cases e : clK f L s.1 = 2
    · rw [if_pos e] at hj ⊢
      rw [if_pos e]
      by_cases q : j = s.2.2.2.1
      · rw [q, pk_us, pk_us]
      · rw [pk_un q, pk_un q]; exact h7 j (by omega)
    · rw [if_neg e] at hj ⊢
      rw [if_neg e]; exact h7 j hj
  · unfold clR clC at *
    by_cases e : clK f L s.1 = 3
    · rw [if_pos e] at hj ⊢
      rw [if_pos e]
      by_cases q : j = s.2.2.2.2.1
      · rw [q, pk_us, pk_us]
      · rw [pk_un q, pk_un q]; exact h8 j (by omega)
    · rw [if_neg e] at hj ⊢
      rw [if_neg e]; exact h8 j hj
theorem pA_PP {f : Nat → Int32} {L : Nat} : ∀ (d : Nat) (s s' : PT), PI L s → PP s s' → (pA f L d s').1 = (pA f L d s).1 ∧ PI L (pA f L d s).2 ∧ PP (pA f L d s).2 (pA f L d s').2
  | 0, s, s', h, hp => ⟨rfl, h, hp⟩
  | d + 1, s, s', h, hp => by
    have h0 := hp
    obtain ⟨h1, h2, h3, h4, h5, -⟩ := hp
    have hsk := sk_le (f := f) h.1
    have hq : PI L (sk f L s.1, s.2) := ⟨hsk.2, h.2⟩
    have hq2 : PP (sk f L s.1, s.2) (sk f L s.1, s'.2) := ⟨rfl, h0.2⟩
    have e : clFs f L (sk f L s.1, s'.2) = clFs f L (sk f L s.1, s.2) := by
      unfold clFs
      dsimp only
      rw [h2, h3, h4, h5]
    unfold pA
    rw [h1, e]
    by_cases c1 : sk f L s.1 < L
    · rw [if_pos c1, if_pos c1]
      by_cases c2 : (clFs f L (sk f L s.1, s.2)).1 = 0
      · rw [if_pos c2, if_pos c2]
        exact pA_PP d _ _ (cl_PI hq c2) (cl_PP hq2)
      · rw [if_neg c2, if_neg c2]; exact ⟨rfl, h, h0⟩
    · rw [if_neg c1, if_neg c1]; exact ⟨rfl, h, h0⟩
/-- a new capital: the evening -/
theorem e0_at (f : Nat → Int32) : ∀ n j : Nat, j < n → m_e0 f n j = nI 0
  | 0, j, h => absurd h (Nat.not_lt_zero _)
  | n + 1, j, h => by
    show upd (m_e0 f n) n (nI 0) j = _
    by_cases e : j = n
    · rw [e, pk_us]
    · rw [pk_un e]; exact e0_at f n j (by omega)
theorem e1_at (f : Nat → Int32) : ∀ n j : Nat, m_e1 f n j = if 6 ≤ j ∧ j < 6 + n then (-1) else f j
  | 0, j => by rw [if_neg (by omega)]; rfl
  | n + 1, j => by
    show upd (m_e1 f n) (6 + n) (-1) j = _
    by_cases e : j = 6 + n
    · subst e; rw [pk_us, if_pos (by omega)]
    · rw [pk_un e, e1_at f n j]
      by_cases e2 : 6 ≤ j ∧ j < 6 + n
      · rw [if_pos e2, if_pos (by omega)]
      · rw [if_neg e2, if_neg (by omega)]
theorem emp_at (f : Nat → Int32) {j : Nat} (hj : j < 82) : m_emp f j = if 6 ≤ j ∧ j < 12 then (-1) else nI 0 := by
  unfold m_emp
  rw [e1_at, e0_at f 82 j hj]
theorem lm_at (f h : Nat → Int32) : ∀ n j : Nat, m_lm f h n j = if 12 ≤ j ∧ j < 12 + n then h (j - 12) else f j
  | 0, j => by rw [if_neg (by omega)]; rfl
  | n + 1, j => by
    show upd (m_lm f h n) (12 + n) (h n) j = _
    by_cases e : j = 12 + n
    · subst e; rw [pk_us, if_pos (by omega), show 12 + n - 12 = n by omega]
    · rw [pk_un e, lm_at f h n j]
      by_cases e2 : 12 ≤ j ∧ j < 12 + n
      · rw [if_pos e2, if_pos (by omega)]
      · rw [if_neg e2, if_neg (by omega)]
theorem begin_eq {S W : Nat} (hS : S ≤ 6) (hW : W ≤ 5) {l l' f ls st gl aw as_ ad_ : Nat → Int32} (hl : ∀ w, w < W → l' w = l w ∧ ls w = l w ∧ ∃ v : Nat, v ≤ 5 ∧ l w = nI v) (hst : ∀ w, w < 5 → st w = (-1)) (hg : ∀ q, q < 4 → gl q = nI 0) : EvR S W ((nI 0, nI 0, nI 0, false, nI 0, 0, 0, 0), (ls, st, gl, aw, as_, ad_)) (m_lm (m_emp f) l' W) := by
  have at0 : ∀ j, j < 82 → ¬ (6 ≤ j ∧ j < 12 + W) → m_lm (m_emp f) l' W j = nI 0 := fun j h1 h2 => by
    rw [lm_at, if_neg (by omega), emp_at f h1, if_neg (by omega)]
  have at1 : ∀ j, 6 ≤ j → j < 12 → m_lm (m_emp f) l' W j = (-1) := fun j h1 h2 => by
    rw [lm_at, if_neg (by omega), emp_at f (by omega), if_pos (by omega)]
  refine ⟨⟨at0 0 (by decide) (by omega), Nat.zero_le _, ⟨3, by decide, (by decide : nI 0 = m_by 3)⟩, at0 1 (by decide) (by omega), ⟨0, by decide, rfl⟩, at0 2 (by decide) (by omega), at0 3 (by decide) (by omega), at0 4 (by decide) (by omega), at0 5 (by decide) (by omega)⟩, ⟨fun s hs => Or.inl (at1 _ (by omega) (by omega)), fun w hw => Or.inl (hst w hw), fun s w hs hw => ?_⟩, fun w hw => ?_, fun q hq => ?_, at0 21 (by decide) (by omega), Nat.zero_le _, (by decide : (0 : Nat) < 20), fun i hi => absurd hi (Nat.not_lt_zero _)⟩
  · show m_lm (m_emp f) l' W (6 + s) = nI w ↔ st w = nI s
    rw [at1 _ (by omega) (by omega), hst w hw]
    exact ⟨fun z => absurd z.symm (nI_nm1 (by omega)), fun z => absurd z.symm (nI_nm1 (by omega))⟩
  · obtain ⟨h1, h2, v, hv, h3⟩ := hl w hw
    refine ⟨?_, v, hv, ?_⟩
    · show m_lm (m_emp f) l' W (12 + w) = ls w
      rw [lm_at, if_pos (by omega), show 12 + w - 12 = w by omega, h1, h2]
    · show ls w = nI v
      rw [h2]; exact h3
  · show m_lm (m_emp f) l' W (17 + q) = gl q
    rw [at0 _ (by omega) (by omega), hg q hq]
