/-! an evening of the class, and the 82 ints of the model -/
def evA (e : Ev) (f : Nat → Int32) : Prop := f 0 = nI e.1.2.2.2.2.2.1 ∧ e.1.2.2.2.2.2.1 ≤ 9060 ∧ (∃ u : Nat, u ≤ 6 ∧ e.1.1 = m_by u) ∧ f 1 = e.1.1 ∧ (∃ v : Nat, v < 64 ∧ e.1.2.1 = nI v) ∧ f 2 = e.1.2.1 ∧ f 3 = e.1.2.2.1 ∧ f 4 = bI e.1.2.2.2.1 ∧ f 5 = e.1.2.2.2.2.1
def evS (S W : Nat) (st f : Nat → Int32) : Prop := (∀ s : Nat, s < S → (f (6 + s) = (-1) ∨ ∃ w : Nat, w < W ∧ f (6 + s) = nI w)) ∧ (∀ w : Nat, w < 5 → (st w = (-1) ∨ ∃ s : Nat, s < S ∧ st w = nI s)) ∧ (∀ s w : Nat, s < S → w < 5 → (f (6 + s) = nI w ↔ st w = nI s))
def evL (W : Nat) (l f : Nat → Int32) : Prop := ∀ w : Nat, w < W → f (12 + w) = l w ∧ ∃ v : Nat, v ≤ 5 ∧ l w = nI v
def evG (gl f : Nat → Int32) : Prop := ∀ q : Nat, q < 4 → f (17 + q) = gl q
def evB (sz nx : Nat) (aw as_ ad_ f : Nat → Int32) : Prop := f 21 = nI sz ∧ sz ≤ 20 ∧ nx < 20 ∧ ∀ i : Nat, i < sz → f (22 + 3 * (sz - 1 - i)) = aw ((nx + 39 - i) % 20) ∧ f (22 + 3 * (sz - 1 - i) + 1) = as_ ((nx + 39 - i) % 20) ∧ f (22 + 3 * (sz - 1 - i) + 2) = ad_ ((nx + 39 - i) % 20)
def EvR (S W : Nat) (e : Ev) (f : Nat → Int32) : Prop := evA e f ∧ evS S W e.2.2.1 f ∧ evL W e.2.1 f ∧ evG e.2.2.2.1 f ∧ evB e.1.2.2.2.2.2.2.1 e.1.2.2.2.2.2.2.2 e.2.2.2.2.1 e.2.2.2.2.2.1 e.2.2.2.2.2.2 f
def evEq (e e' : Ev) : Prop := e'.1 = e.1 ∧ (∀ w : Nat, w < 5 → e'.2.1 w = e.2.1 w) ∧ (∀ w : Nat, w < 5 → e'.2.2.1 w = e.2.2.1 w) ∧ (∀ w : Nat, w < 4 → e'.2.2.2.1 w = e.2.2.2.1 w) ∧ (∀ w : Nat, w < 20 → e'.2.2.2.2.1 w = e.2.2.2.2.1 w) ∧ (∀ w : Nat, w < 20 → e'.2.2.2.2.2.1 w = e.2.2.2.2.2.1 w) ∧ (∀ w : Nat, w < 20 → e'.2.2.2.2.2.2 w = e.2.2.2.2.2.2 w)
theorem EvR.cong {S W : Nat} {e e' : Ev} {f f' : Nat → Int32} (hS : S ≤ 6) (hW : W ≤ 5) (h : EvR S W e f) (he : evEq e e') (hf : ∀ k, k < 82 → f' k = f k) : EvR S W e' f' := by
  obtain ⟨hA, hS2, hL, hG, hB⟩ := h
  obtain ⟨e1, e2, e3, e4, e5, e6, e7⟩ := he
  unfold EvR
  rw [e1]
  refine ⟨?_, ?_, ?_, ?_, ?_⟩
  · unfold evA at hA ⊢
    rw [e1, hf 0 (by decide), hf 1 (by decide), hf 2 (by decide), hf 3 (by decide), hf 4 (by decide), hf 5 (by decide)]
    exact hA
  · refine ⟨fun s hs => ?_, fun w hw => ?_, fun s w hs hw => ?_⟩
    · rw [hf _ (by omega)]; exact hS2.1 s hs
    · rw [e3 w hw]; exact hS2.2.1 w hw
    · rw [hf _ (by omega), e3 w hw]; exact hS2.2.2 s w hs hw
  · intro w hw
    rw [hf _ (by omega), e2 w (by omega)]
    exact hL w hw
  · intro q hq
    rw [hf _ (by omega), e4 q hq]
    exact hG q hq
  · obtain ⟨b1, b2, b3, b4⟩ := hB
    refine ⟨by rw [hf _ (by decide)]; exact b1, b2, b3, fun i hi => ?_⟩
    have hm : ∀ z : Nat, z % 20 < 20 := fun z => Nat.mod_lt _ (by decide)
    rw [hf _ (by omega), hf _ (by omega), hf _ (by omega), e5 _ (hm _), e6 _ (hm _), e7 _ (hm _)]
    exact b4 i hi
theorem evEq.rfl' (e : Ev) : evEq e e := ⟨rfl, fun _ _ => rfl, fun _ _ => rfl, fun _ _ => rfl, fun _ _ => rfl, fun _ _ => rfl, fun _ _ => rfl⟩
theorem EvR.congF {S W : Nat} {e : Ev} {f f' : Nat → Int32} (hS : S ≤ 6) (hW : W ≤ 5) (h : EvR S W e f) (hf : ∀ k, k < 82 → f' k = f k) : EvR S W e f' := h.cong hS hW (evEq.rfl' e) hf
/-- a copy of an evening into another's rows -/
def cpE (e o : Ev) : Ev := (e.1, (va_cpy e.2.1 o.2.1 0 0 5, va_cpy e.2.2.1 o.2.2.1 0 0 5, va_cpy e.2.2.2.1 o.2.2.2.1 0 0 4, va_cpy e.2.2.2.2.1 o.2.2.2.2.1 0 0 20, va_cpy e.2.2.2.2.2.1 o.2.2.2.2.2.1 0 0 20, va_cpy e.2.2.2.2.2.2 o.2.2.2.2.2.2 0 0 20))
theorem cpy0 {f g : Nat → Int32} {n j : Nat} (h : j < n) : va_cpy f g 0 0 n j = f j := by
  rw [pk_cpy_in (Nat.zero_le _) (by omega)]
  congr 1
  omega
theorem cpE_eq (e o : Ev) : evEq e (cpE e o) := ⟨rfl, fun _ h => cpy0 h, fun _ h => cpy0 h, fun _ h => cpy0 h, fun _ h => cpy0 h, fun _ h => cpy0 h, fun _ h => cpy0 h⟩
/-- who is at a window -/
theorem evS_none {S W : Nat} {st f : Nat → Int32} (hS : S ≤ 6) (h : evS S W st f) {w : Nat} (hw : w < 5) (hW : W ≤ w) : st w = (-1) := by
  rcases h.2.1 w hw with e | ⟨s, hs, e⟩
  · exact e
  · have e2 := (h.2.2 s w hs hw).mpr e
    rcases h.1 s hs with e3 | ⟨w', hw', e3⟩
    · exact absurd (e2.symm.trans e3) (nI_nm1 (by omega))
    · by_cases hw5 : w' < 2 ^ 31
      · have := (nI_eq (by omega) hw5).mp (e2.symm.trans e3)
        omega
      · omega
theorem who_eq {S W : Nat} {st f : Nat → Int32} (hS : S ≤ 6) (h : evS S W st f) {w : Nat} (hw : w < 5) : m_who f (nI w) S = st w := by
  have key : ∀ k, k ≤ S → (m_who f (nI w) k = (-1) ∧ (∀ s, s < k → ¬ st w = nI s)) ∨ (m_who f (nI w) k = st w ∧ ∃ s, s < k ∧ st w = nI s) := by
    intro k
    induction k with
    | zero => exact fun _ => Or.inl ⟨rfl, fun s hs => absurd hs (Nat.not_lt_zero _)⟩
    | succ k ih =>
      intro hk
      unfold m_who
      have c := h.2.2 k w (by omega) hw
      by_cases e : f (6 + k) = nI w
      · rw [if_pos e]
        exact Or.inr ⟨(c.mp e).symm, k, by omega, c.mp e⟩
      · rw [if_neg e]
        rcases ih (by omega) with ⟨h1, h2⟩ | ⟨h1, s, h2, h3⟩
        · refine Or.inl ⟨h1, fun s hs z => ?_⟩
          by_cases e2 : s = k
          · exact e (c.mpr (e2 ▸ z))
          · exact h2 s (by omega) z
        · exact Or.inr ⟨h1, s, by omega, h3⟩
  rcases key S (Nat.le_refl _) with ⟨h1, h2⟩ | ⟨h1, -⟩
  · rw [h1]
    rcases h.2.1 w hw with e | ⟨s, hs, e⟩
    · exact e.symm
    · exact absurd e (h2 s hs)
  · exact h1
/-- what is drawn -/
theorem eB_eq {S W : Nat} {e : Ev} {f : Nat → Int32} (h : EvR S W e f) (G : Nat) {o : Int32} {o' : Nat → Int32} {j v : Nat} (ho : o' j = o) (hv : v ≤ 5) : eB G e o (nI v) = dW o' f G j (nI v + f 1) := by
  obtain ⟨⟨-, -, ⟨u, hu, eu⟩, f1, ⟨b, hb, eb⟩, f2, f3, -, -⟩, -⟩ := h
  unfold eB dW
  rw [f1, f2, f3, ho, eu, eb, by_add, ← sh_eq o (by omega)]
  exact (lo_eq hb 30 (Nat.le_refl _)).2.symm
theorem eB_D (G : Nat) (e : Ev) (o x : Int32) : isD (eB G e o x) := k_lo_D _ _ _ (Nat.le_refl _)
theorem at_eq {S W : Nat} {e : Ev} {f : Nat → Int32} (hS : S ≤ 6) (hW : W ≤ 5) (h : EvR S W e f) (G : Nat) {o o' : Nat → Int32} (ho : ∀ s, s < S → o' s = o s) {w : Nat} (hw : w < W) : eAt S G o e w = dA S G o' f w := by
  have hst := h.2.1
  obtain ⟨l1, v, hv, l2⟩ := h.2.2.1 w hw
  have f4 := h.1.2.2.2.2.2.2.2.1
  have f5 := h.1.2.2.2.2.2.2.2.2
  unfold eAt dA
  rw [who_eq hS hst (by omega), f4, f5, l1, l2, has_bt _ (by omega)]
  have c3 := has_bt1 e.1.2.2.2.2.1 (k := w) (by omega)
  have c2 : (bI e.1.2.2.2.1 = nI 1) ↔ e.1.2.2.2.1 = true := by
    cases e.1.2.2.2.1 with
    | true => exact ⟨fun _ => rfl, fun _ => rfl⟩
    | false => exact ⟨fun z => absurd z (by decide), fun z => by cases z⟩
  have c1 : okN (e.2.2.1 w) S = false ↔ e.2.2.1 w = (-1) := by
    rcases hst.2.1 w (by omega) with q | ⟨s, hs, q⟩
    · rw [q]
      exact ⟨fun _ => rfl, fun _ => okN_f1 (by decide)⟩
    · rw [q, okN_lt hs (by omega)]
      exact ⟨fun z => absurd z (by decide), fun z => absurd z (nI_nm1 (j := s) (by omega))⟩
  by_cases q : okN (e.2.2.1 w) S = false ∨ e.1.2.2.2.1 = true ∨ (e.1.2.2.2.2.1 >>> (nI w &&& 31)) &&& nI 1 = nI 1
  · rw [if_pos q, if_pos]
    rcases q with q | q | q
    · exact Or.inl (c1.mp q)
    · exact Or.inr (Or.inl (c2.mpr q))
    · exact Or.inr (Or.inr (c3.mp q))
  · rw [if_neg q, if_neg (fun z => q (by
      rcases z with z | z | z
      · exact Or.inl (c1.mpr z)
      · exact Or.inr (Or.inl (c2.mp z))
      · exact Or.inr (Or.inr (c3.mpr z))))]
    have h0 : okN (e.2.2.1 w) S = true := by
      cases hz : okN (e.2.2.1 w) S with
      | true => rfl
      | false => exact absurd (Or.inl hz) q
    obtain ⟨j, hj, ej⟩ := okN_of h0 (by omega)
    rw [ej, nI_clamp (by omega)]
    exact eB_eq h G (ho j hj) hv
theorem eAt_D (S G : Nat) (o : Nat → Int32) (e : Ev) (w : Nat) : isD (eAt S G o e w) := by
  unfold eAt
  split
  · exact isD_0
  · exact eB_D _ _ _ _
