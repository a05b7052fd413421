/-! what is tried: class and model -/
theorem sub_or (x a b : Int32) : (x &&& (a ||| b) = a ||| b) ↔ (x &&& a = a ∧ x &&& b = b) := by
  constructor
  · intro h
    have hb : ∀ i, i < 32 → (bt x i && (bt a i || bt b i)) = (bt a i || bt b i) := fun i hi => by
      have := congrArg (fun z => bt z i) h
      simpa only [bt_and, bt_or] using this
    refine ⟨bt_ext (fun i hi => ?_), bt_ext (fun i hi => ?_)⟩
    · have := hb i hi
      rw [bt_and]
      revert this
      cases bt x i <;> cases bt a i <;> cases bt b i <;> simp
    · have := hb i hi
      rw [bt_and]
      revert this
      cases bt x i <;> cases bt a i <;> cases bt b i <;> simp
  · rintro ⟨h1, h2⟩
    refine bt_ext (fun i hi => ?_)
    have h3 := congrArg (fun z => bt z i) h1
    have h4 := congrArg (fun z => bt z i) h2
    simp only [bt_and] at h3 h4
    rw [bt_and, bt_or]
    revert h3 h4
    cases bt x i <;> cases bt a i <;> cases bt b i <;> simp
theorem sub_one (x : Int32) {j : Nat} (hj : j < 32) : (x &&& (nI 1 <<< (nI j &&& 31)) = nI 1 <<< (nI j &&& 31)) ↔ bt x j = true := by
  constructor
  · intro h
    have := congrArg (fun z => bt z j) h
    simp only [bt_and] at this
    rw [bt_one hj hj, decide_eq_true rfl, Bool.and_true] at this
    exact this
  · intro h
    refine bt_ext (fun i hi => ?_)
    rw [bt_and, bt_one hj hi]
    by_cases e : i = j
    · subst e; rw [h]; rfl
    · rw [decide_eq_false e, Bool.and_false]
theorem and_n0 (x : Int32) : x &&& nI 0 = nI 0 := bt_ext (fun i _ => by rw [bt_and, bt_n0, Bool.and_false])
theorem n0_or (x : Int32) : nI 0 ||| x = x := bt_ext (fun i _ => by rw [bt_or, bt_n0, Bool.false_or])
/-- holes -/
theorem n4_eq (set : Int32) {k : Nat} (hk : k < 30) : (set &&& k_n4 k = k_n4 k) ↔ ((k % 6 = 0 ∨ bt set (k - 1) = true) ∧ (k % 6 = 5 ∨ bt set (k + 1) = true) ∧ (k < 6 ∨ bt set (k - 6) = true) ∧ (23 < k ∨ bt set (k + 6) = true)) := by
  have a1 : (set &&& k_n1 k = k_n1 k) ↔ (k % 6 = 0 ∨ bt set (k - 1) = true) := by
    unfold k_n1
    by_cases e : k % 6 = 0
    · rw [if_pos e]; exact ⟨fun _ => Or.inl e, fun _ => and_n0 _⟩
    · rw [if_neg e, n0_or, pk_sub (by omega), sub_one _ (by omega)]
      exact ⟨fun h => Or.inr h, fun h => h.resolve_left e⟩
  have a2 : (set &&& k_n2 k = k_n2 k) ↔ ((k % 6 = 0 ∨ bt set (k - 1) = true) ∧ (k % 6 = 5 ∨ bt set (k + 1) = true)) := by
    unfold k_n2
    by_cases e : 5 ≤ k % 6
    · rw [if_pos e, a1]; exact ⟨fun h => ⟨h, Or.inl (by omega)⟩, fun h => h.1⟩
    · rw [if_neg e, sub_or, a1, sub_one _ (by omega)]
      exact ⟨fun h => ⟨h.1, Or.inr h.2⟩, fun h => ⟨h.1, h.2.resolve_left (by omega)⟩⟩
  have a3 : (set &&& k_n3 k = k_n3 k) ↔ ((k % 6 = 0 ∨ bt set (k - 1) = true) ∧ (k % 6 = 5 ∨ bt set (k + 1) = true) ∧ (k < 6 ∨ bt set (k - 6) = true)) := by
    unfold k_n3
    by_cases e : k < 6
    · rw [if_pos e, a2]; exact ⟨fun h => ⟨h.1, h.2, Or.inl e⟩, fun h => ⟨h.1, h.2.1⟩⟩
    · rw [if_neg e, sub_or, a2, pk_sub (by omega), sub_one _ (by omega)]
      exact ⟨fun h => ⟨h.1.1, h.1.2, Or.inr h.2⟩, fun h => ⟨⟨h.1, h.2.1⟩, h.2.2.resolve_left e⟩⟩
  unfold k_n4
  by_cases e : 30 ≤ k + 6
  · rw [if_pos e, a3]; exact ⟨fun h => ⟨h.1, h.2.1, h.2.2, Or.inl (by omega)⟩, fun h => ⟨h.1, h.2.1, h.2.2.1⟩⟩
  · rw [if_neg e, sub_or, a3, sub_one _ (by omega)]
    exact ⟨fun h => ⟨h.1.1, h.1.2.1, h.1.2.2, Or.inr h.2⟩, fun h => ⟨⟨h.1, h.2.1, h.2.2.1⟩, h.2.2.2.resolve_left (by omega)⟩⟩
theorem hole_eq (set : Int32) {k : Nat} (hk : k < 30) : m_hole set k = true ↔ (bt set k = false ∧ set &&& k_n4 k = k_n4 k) := by
  rw [n4_eq set hk]
  unfold m_hole
  rw [has_bt set (k := k) (by omega), has_bt set (k := k + 1) (by omega)]
  have b5 : (decide (23 < k) || m_has set (nI (k + 6))) = (decide (23 < k) || bt set (k + 6)) := by
    by_cases e : 23 < k
    · rw [decide_eq_true e]; rfl
    · rw [has_bt _ (by omega)]
  have b1 : (decide (k % 6 = 0) || m_has set (nI k - nI 1)) = (decide (k % 6 = 0) || bt set (k - 1)) := by
    by_cases e : k % 6 = 0
    · rw [decide_eq_true e]; rfl
    · rw [pk_sub (by omega), has_bt _ (by omega)]
  have b3 : (decide (k < 6) || m_has set (nI k - nI 6)) = (decide (k < 6) || bt set (k - 6)) := by
    by_cases e : k < 6
    · rw [decide_eq_true e]; rfl
    · rw [pk_sub (by omega), has_bt _ (by omega)]
  rw [b1, b3, b5]
  simp only [Bool.and_eq_true, Bool.or_eq_true, decide_eq_true_eq, Bool.not_eq_true']
  constructor
  · rintro ⟨⟨⟨⟨h1, h2⟩, h3⟩, h4⟩, h5⟩
    exact ⟨h1, h2, h3, h4, h5⟩
  · rintro ⟨h1, h2, h3, h4, h5⟩
    exact ⟨⟨⟨⟨h1, h2⟩, h3⟩, h4⟩, h5⟩
theorem ho_eq (set : Int32) : ∀ k, k ≤ 30 → k_ho set k = m_tu0 set k
  | 0, _ => rfl
  | k + 1, h => by
    have ih := ho_eq set k (by omega)
    have c := hole_eq set (k := k) (by omega)
    have c0 := has_bt0 set (k := k) (by omega)
    unfold k_ho m_tu0
    rw [ih, show ((0 : Int32)) = nI 0 from rfl]
    cases hh : m_hole set k with
    | true =>
      have := c.mp hh
      rw [if_pos (c0.mpr this.1), if_pos this.2]; rfl
    | false =>
      simp only [cond_false]
      rw [or_n0]
      by_cases e : (set >>> (nI k &&& 31)) &&& nI 1 = nI 0
      · rw [if_pos e, if_neg (fun z => by have := c.mpr ⟨c0.mp e, z⟩; rw [hh] at this; cases this)]
      · rw [if_neg e]
/-- the mirror -/
theorem mi_bt (set : Int32) {i : Nat} (hi : i < 32) : ∀ n, n ≤ 30 → bt (k_mi set n) i = (decide (i < 30) && decide (i + 5 - 2 * (i % 6) < n) && bt set (i + 5 - 2 * (i % 6)))
  | 0, _ => by
    show bt (nI 0) i = _
    rw [bt_n0]; simp
  | n + 1, h => by
    have ih := mi_bt set hi n (by omega)
    have c1 := has_bt1 set (k := n) (by omega)
    unfold k_mi
    by_cases e : (set >>> (nI n &&& 31)) &&& nI 1 = nI 1
    · rw [if_pos e, bt_or, ih, bt_one (by omega) hi]
      by_cases e2 : i = n - n % 6 + 6 - 1 - n % 6
      · rw [decide_eq_true e2, decide_eq_true (show i < 30 by omega), show i + 5 - 2 * (i % 6) = n by omega, c1.mp e, decide_eq_true (show n < n + 1 by omega)]
        simp
      · rw [decide_eq_false e2, Bool.or_false]
        by_cases e3 : i < 30
        · by_cases e4 : i + 5 - 2 * (i % 6) < n
          · rw [decide_eq_true e4, decide_eq_true (show i + 5 - 2 * (i % 6) < n + 1 by omega)]
          · rw [decide_eq_false e4, decide_eq_false (show ¬ i + 5 - 2 * (i % 6) < n + 1 by omega)]
        · rw [decide_eq_false e3]; simp
    · rw [if_neg e, ih]
      by_cases e3 : i < 30
      · by_cases e4 : i + 5 - 2 * (i % 6) < n
        · rw [decide_eq_true e4, decide_eq_true (show i + 5 - 2 * (i % 6) < n + 1 by omega)]
        · by_cases e5 : i + 5 - 2 * (i % 6) = n
          · rw [e5]
            have : bt set n = false := by
              cases hb : bt set n with
              | true => exact absurd (c1.mpr hb) e
              | false => rfl
            rw [this]; simp
          · rw [decide_eq_false e4, decide_eq_false (show ¬ i + 5 - 2 * (i % 6) < n + 1 by omega)]
      · rw [decide_eq_false e3]; simp
theorem tu1_bt (set : Int32) {i : Nat} (hi : i < 32) : ∀ n, n ≤ 30 → bt (m_tu1 set n) i = (decide (i < n) && bt set (i + 5 - 2 * (i % 6)))
  | 0, _ => by
    show bt (nI 0) i = _
    rw [bt_n0]; simp
  | n + 1, h => by
    have ih := tu1_bt set hi n (by omega)
    unfold m_tu1
    rw [bt_or, ih, pk_sub (show 2 * (n % 6) ≤ n + 5 by omega), has_bt _ (by omega)]
    by_cases e : i = n
    · subst e
      rw [decide_eq_false (show ¬ i < i by omega), decide_eq_true (show i < i + 1 by omega)]
      cases bt set (i + 5 - 2 * (i % 6)) with
      | true => simp only [cond_true]; rw [bt_one hi hi, decide_eq_true rfl]; simp
      | false => simp only [cond_false]; rw [bt_n0]; simp
    · have : bt (bif bt set (n + 5 - 2 * (n % 6)) then nI 1 <<< (nI n &&& 31) else nI 0) i = false := by
        cases bt set (n + 5 - 2 * (n % 6)) with
        | true => simp only [cond_true]; rw [bt_one (by omega) hi, decide_eq_false e]
        | false => simp only [cond_false]; exact bt_n0 i
      rw [this, Bool.or_false]
      by_cases e2 : i < n
      · rw [decide_eq_true e2, decide_eq_true (show i < n + 1 by omega)]
      · rw [decide_eq_false e2, decide_eq_false (show ¬ i < n + 1 by omega)]
theorem mi_eq (set : Int32) : k_mi set 30 = m_tu1 set 30 := bt_ext (fun i hi => by
  rw [mi_bt set hi 30 (Nat.le_refl _), tu1_bt set hi 30 (Nat.le_refl _)]
  by_cases e : i < 30
  · rw [decide_eq_true e, decide_eq_true (show i + 5 - 2 * (i % 6) < 30 by omega)]
    simp
  · rw [decide_eq_false e]; simp)
/-- who, parted -/
theorem whI_eq {o o' : Nat → Int32} {set : Int32} {s : Nat} (ho : o' s = o s) (a : Nat × Int32 × Int32) : ∀ k, k ≤ 12 → k_whI o set s a k = m_whI o' set s a k
  | 0, _ => rfl
  | k + 1, h => by
    unfold k_whI m_whI
    rw [whI_eq ho a k (by omega), ho, sh_eq _ (show k < 12 by omega), show ∀ x : Int32, x - (-3) = x + nI 3 from fun x => by rw [Int32.sub_eq_add_neg]; rfl]
theorem whO_eq {o o' : Nat → Int32} {set : Int32} {S : Nat} (ho : ∀ s, s < S → o' s = o s) : ∀ s, s ≤ S → k_whO o set s = m_whO o' set s
  | 0, _ => rfl
  | s + 1, h => by
    unfold k_whO m_whO
    rw [whO_eq ho s (by omega), whI_eq (ho s (by omega)) _ 12 (Nat.le_refl _)]
theorem paI_eq {o o' : Nat → Int32} {set : Int32} {s q : Nat} (ho : o' s = o s) (hq : o' q = o q) (a : Nat × Int32) : ∀ k, k ≤ 36 → k_paI o set s q a k = m_paI o' set s q a k
  | 0, _ => rfl
  | k + 1, h => by
    unfold k_paI m_paI
    rw [paI_eq ho hq a k (by omega), ho, hq, sh_eqN _ (show k / 6 < 9 by omega), sh_eqN _ (show k % 6 < 9 by omega)]
theorem paQ_eq {o o' : Nat → Int32} {set : Int32} {S s : Nat} (ho : ∀ s, s < S → o' s = o s) (hs : s < S) (a : Nat × Int32) : ∀ q, q ≤ S → k_paQ o set s a q = m_paQ o' set s a q
  | 0, _ => rfl
  | q + 1, h => by
    unfold k_paQ m_paQ
    rw [paQ_eq ho hs a q (by omega), paI_eq (ho s hs) (ho q (by omega)) _ 36 (Nat.le_refl _)]
theorem paO_eq {o o' : Nat → Int32} {set : Int32} {S : Nat} (ho : ∀ s, s < S → o' s = o s) : ∀ s, s ≤ S → k_paO o set S s = m_paO o' set S s
  | 0, _ => rfl
  | s + 1, h => by
    unfold k_paO m_paO
    rw [paO_eq ho s (by omega), paQ_eq ho (by omega) _ S (Nat.le_refl _)]
/-- counting -/
def cn (p : Nat → Bool) : Nat → Nat
  | 0 => 0
  | k + 1 => cn p k + (if p k = true then 1 else 0)
theorem cn_front (p : Nat → Bool) : ∀ n, cn p (n + 1) = (if p 0 = true then 1 else 0) + cn (fun i => p (i + 1)) n
  | 0 => by simp [cn]
  | n + 1 => by
    show cn p (n + 1) + _ = _ + (cn (fun i => p (i + 1)) n + _)
    rw [cn_front p n]
    exact Nat.add_assoc _ _ _
theorem cn_c {p q : Nat → Bool} : ∀ n, (∀ k, k < n → p k = q k) → cn p n = cn q n
  | 0, _ => rfl
  | n + 1, h => by
    unfold cn
    rw [cn_c n (fun k hk => h k (by omega)), h n (by omega)]
theorem cn_rev (p : Nat → Bool) : ∀ n, cn (fun i => p (n - 1 - i)) n = cn p n
  | 0 => rfl
  | n + 1 => by
    rw [cn_front]
    show (if p (n + 1 - 1 - 0) = true then 1 else 0) + cn (fun i => p (n + 1 - 1 - (i + 1))) n = cn p n + _
    rw [cn_c (p := fun i => p (n + 1 - 1 - (i + 1))) (q := fun i => p (n - 1 - i)) n (fun k hk => by congr 1; omega), cn_rev p n, show n + 1 - 1 - 0 = n by omega]
    omega
theorem cn_le (p : Nat → Bool) : ∀ n, cn p n ≤ n
  | 0 => Nat.le_refl _
  | n + 1 => by
    have := cn_le p n
    unfold cn
    split <;> omega
/-- how often -/
theorem ti_cn (f : Nat → Int32) (nx : Nat) (s : Int32) : ∀ i, k_ti f nx s i = cn (fun i => decide (f ((nx + 39 - i) % 20) = s)) i
  | 0 => rfl
  | i + 1 => by
    unfold k_ti cn
    rw [ti_cn f nx s i]
    by_cases e : f ((nx + 39 - i) % 20) = s
    · rw [if_pos e, if_pos (decide_eq_true e)]
    · rw [if_neg e, if_neg (by rw [decide_eq_false e]; decide)]; rfl
theorem oft_cn (f : Nat → Int32) (s : Int32) : ∀ i, m_oft f s i = nI (cn (fun i => decide (f (22 + 3 * i + 1) = s)) i)
  | 0 => rfl
  | i + 1 => by
    unfold m_oft cn
    rw [oft_cn f s i]
    by_cases e : f (22 + 3 * i + 1) = s
    · rw [if_pos e, if_pos (decide_eq_true e), nI_add]
    · rw [if_neg e, if_neg (by rw [decide_eq_false e]; decide), nI_add]
theorem oft_eq {sz nx : Nat} {aw as_ ad_ f : Nat → Int32} (h : evB sz nx aw as_ ad_ f) (s : Int32) : nI (k_ti as_ nx s sz) = m_oft f s sz := by
  rw [ti_cn, oft_cn, ← cn_rev (fun i => decide (f (22 + 3 * i + 1) = s)) sz]
  congr 1
  exact cn_c sz (fun k hk => by rw [(h.2.2.2 k hk).2.1])
/-- the cloud -/
theorem cloud_eq {n n' : Nat → Nat} {g : Nat → Int32} {b : Nat → Bool} {r r' : Nat → Nat → Int32} {S W : Nat} (hS : S ≤ 6) (hW : W ≤ 5) (h : EvR S W (nowE n g b r) (r' 7)) (e1 : n 10 = S) (e2 : n' 1 = S) (e3 : n' 0 = n 9) (ho : ∀ s, s < S → r' 2 s = r 4 s) : ∀ k, k ≤ W → k_cl n g b r k = m_cloud n' r' k
  | 0, _ => rfl
  | k + 1, hk => by
    have q : k_dAt n g b r k = m_dAt n' r' k := by
      show eAt (n 10) (n 9) (r 4) (nowE n g b r) k = dA (n' 1) (n' 0) (r' 2) (r' 7) k
      rw [e1, e2, e3]
      exact at_eq hS hW h (n 9) ho (by omega)
    unfold k_cl m_cloud
    rw [cloud_eq hS hW h e1 e2 e3 ho k (by omega), q]
/-- the best lamp -/
theorem bl_eq {n n' : Nat → Nat} {g : Nat → Int32} {b : Nat → Bool} {r r' : Nat → Nat → Int32} {S W j : Nat} (h : EvR S W (nowE n g b r) (r' 7)) (e3 : n' 0 = n 9) (ho : r' 2 j = r 4 j) (hD : isD (r 4 j)) : ∀ x, x < 6 → k_bl (n 9) g (r 4 j) (x + 1) = m_bl n' r' j (x + 1) := by
  have bi : ∀ x, x < 6 → ∃ u : Nat, u ≤ 30 ∧ k_bi (n 9) g (r 4 j) x = nI 30 - nI u ∧ m_bi n' r' j x = nI 30 - nI u := fun x hx => by
    have q : k_dB (n 9) g (r 4 j) (nI x) = m_drawn r' (n' 0) j (nI x + r' 7 1) := by
      show eB (n 9) (nowE n g b r) (r 4 j) (nI x) = dW (r' 2) (r' 7) (n' 0) j (nI x + r' 7 1)
      rw [e3]
      exact eB_eq h (n 9) ho (by omega)
    have hq : isD (k_dB (n 9) g (r 4 j) (nI x)) := eB_D (n 9) (nowE n g b r) (r 4 j) (nI x)
    obtain ⟨u, hu, u1, u2⟩ := pop_eq (isD_xor hD hq)
    refine ⟨u, hu, ?_, ?_⟩
    · unfold k_bi; rw [u1]
    · unfold m_bi; rw [← q, ho, u2]
  intro x
  induction x with
  | zero =>
    intro hx
    obtain ⟨u, hu, u1, u2⟩ := bi 0 hx
    have hc : ¬ nI 30 - nI u ≤ (-1) := by
      rw [zf_le, pk_sub_toInt (by decide) (by omega)]
      have : Int32.toInt (-1) = -1 := by decide
      omega
    show (if k_bi (n 9) g (r 4 j) 0 ≤ (-1) then _ else _) = (if m_bi n' r' j 0 ≤ (-1) then _ else _)
    rw [u1, u2, if_neg hc, if_neg hc]
  | succ x ih =>
    intro hx
    obtain ⟨u, hu, u1, u2⟩ := bi (x + 1) hx
    have ih := ih (by omega)
    show (if k_bi (n 9) g (r 4 j) (x + 1) ≤ (k_bl (n 9) g (r 4 j) (x + 1)).2 then k_bl (n 9) g (r 4 j) (x + 1) else (nI (x + 1), k_bi (n 9) g (r 4 j) (x + 1))) = (if m_bi n' r' j (x + 1) ≤ (m_bl n' r' j (x + 1)).2 then m_bl n' r' j (x + 1) else (nI (x + 1), m_bi n' r' j (x + 1)))
    rw [ih, u1, u2]
