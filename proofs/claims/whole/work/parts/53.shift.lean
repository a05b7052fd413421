/-! outlines that are shifted: class and model agree -/
theorem sh_in {k c : Nat} (hk : k < 30) (hc : c < 12) : m_in (Int32.toInt64 (nI (k % 6) + m_by c)) 0 5 = decide (3 ≤ k % 6 + c ∧ k % 6 + c ≤ 8) := by
  have key : ∀ k : Fin 30, ∀ c : Fin 12, m_in (Int32.toInt64 (nI (k.val % 6) + m_by c.val)) 0 5 = decide (3 ≤ k.val % 6 + c.val ∧ k.val % 6 + c.val ≤ 8) := by decide +kernel
  exact key ⟨k, hk⟩ ⟨c, hc⟩
theorem sh_at {k c : Nat} (hk : k < 30) (hc : c < 12) (h : 3 ≤ k % 6 + c ∧ k % 6 + c ≤ 8) : nI 1 <<< ((nI k + m_by c) &&& 31) = nI 1 <<< (nI (k + c - 3) &&& 31) := by
  have key : ∀ k : Fin 30, ∀ c : Fin 12, (3 ≤ k.val % 6 + c.val ∧ k.val % 6 + c.val ≤ 8) → nI 1 <<< ((nI k.val + m_by c.val) &&& 31) = nI 1 <<< (nI (k.val + c.val - 3) &&& 31) := by decide +kernel
  exact key ⟨k, hk⟩ ⟨c, hc⟩ h
theorem m_shb_bt (d : Int32) {k c i : Nat} (hk : k < 30) (hc : c < 12) (hi : i < 32) : bt (m_shb d (m_by c) k) i = (bt d k && decide (3 ≤ k % 6 + c ∧ k % 6 + c ≤ 8 ∧ i + 3 = k + c)) := by
  unfold m_shb
  rw [has_bt d (by omega), sh_in hk hc]
  cases hb : bt d k with
  | false => simp only [Bool.false_and, cond_false]; exact bt_n0 i
  | true =>
    by_cases h : 3 ≤ k % 6 + c ∧ k % 6 + c ≤ 8
    · rw [decide_eq_true h]
      simp only [Bool.and_self, cond_true, Bool.true_and]
      rw [sh_at hk hc h, bt_one (by omega) hi]
      by_cases e : i = k + c - 3
      · rw [decide_eq_true e, decide_eq_true (by omega)]
      · rw [decide_eq_false e, decide_eq_false (by omega)]
    · rw [decide_eq_false h]
      simp only [Bool.and_false, cond_false, Bool.true_and]
      rw [bt_n0, decide_eq_false (fun z => h ⟨z.1, z.2.1⟩)]
def shB (d : Int32) (c i : Nat) : Bool := decide (i < 30) && decide (c ≤ i % 6 + 3 ∧ i % 6 + 3 ≤ c + 5) && bt d (i + 3 - c)
theorem m_sh_bt (d : Int32) {c i : Nat} (hc : c < 12) (hi : i < 32) : ∀ n, n ≤ 30 → bt (m_sh d (m_by c) n) i = (shB d c i && decide (i + 3 < n + c))
  | 0, _ => by
    show bt (nI 0) i = _
    rw [bt_n0]
    by_cases e : i + 3 < 0 + c
    · unfold shB
      rw [decide_eq_false (show ¬ (c ≤ i % 6 + 3 ∧ i % 6 + 3 ≤ c + 5) by omega)]
      simp
    · rw [decide_eq_false e, Bool.and_false]
  | n + 1, h => by
    show bt (m_sh d (m_by c) n ||| m_shb d (m_by c) n) i = _
    rw [bt_or, m_sh_bt d hc hi n (by omega), m_shb_bt d (by omega) hc hi]
    by_cases e : i + 3 = n + c
    · rw [decide_eq_false (show ¬ i + 3 < n + c by omega), decide_eq_true (show i + 3 < n + 1 + c by omega)]
      unfold shB
      rw [show i + 3 - c = n by omega]
      by_cases e2 : 3 ≤ n % 6 + c ∧ n % 6 + c ≤ 8
      · rw [decide_eq_true (show 3 ≤ n % 6 + c ∧ n % 6 + c ≤ 8 ∧ i + 3 = n + c from ⟨e2.1, e2.2, e⟩), decide_eq_true (show i < 30 by omega), decide_eq_true (show c ≤ i % 6 + 3 ∧ i % 6 + 3 ≤ c + 5 by omega)]
        simp
      · rw [decide_eq_false (show ¬ (3 ≤ n % 6 + c ∧ n % 6 + c ≤ 8 ∧ i + 3 = n + c) from fun z => e2 ⟨z.1, z.2.1⟩)]
        by_cases e3 : i < 30 ∧ c ≤ i % 6 + 3 ∧ i % 6 + 3 ≤ c + 5
        · exact absurd e3 (by omega)
        · by_cases e4 : i < 30
          · rw [decide_eq_false (show ¬ (c ≤ i % 6 + 3 ∧ i % 6 + 3 ≤ c + 5) from fun z => e3 ⟨e4, z⟩)]
            simp
          · rw [decide_eq_false e4]
            simp
    · rw [decide_eq_false (show ¬ (3 ≤ n % 6 + c ∧ n % 6 + c ≤ 8 ∧ i + 3 = n + c) from fun z => e z.2.2)]
      by_cases e2 : i + 3 < n + c
      · rw [decide_eq_true e2, decide_eq_true (show i + 3 < n + 1 + c by omega)]
        simp
      · rw [decide_eq_false e2, decide_eq_false (show ¬ i + 3 < n + 1 + c by omega)]
        simp
theorem m_sh_b (d : Int32) {c i : Nat} (hc : c < 12) (hi : i < 32) : bt (m_sh d (m_by c) 30) i = shB d c i := by
  rw [m_sh_bt d hc hi 30 (Nat.le_refl _)]
  by_cases e : i + 3 < 30 + c
  · rw [decide_eq_true e, Bool.and_true]
  · rw [decide_eq_false e, Bool.and_false]
    unfold shB
    by_cases e2 : i < 30
    · rw [decide_eq_false (show ¬ (c ≤ i % 6 + 3 ∧ i % 6 + 3 ≤ c + 5) by omega)]
      simp
    · rw [decide_eq_false e2]
      simp
theorem by_pos {c : Nat} (hc : c < 12) : (0 ≤ m_by c) ↔ 3 ≤ c := by
  have key : ∀ c : Fin 12, (0 ≤ m_by c.val) ↔ 3 ≤ c.val := by decide +kernel
  exact key ⟨c, hc⟩
theorem by_up {c : Nat} (h : 3 ≤ c) : m_by c = nI (c - 3) := pk_sub h
theorem by_dn {c : Nat} (h : c < 3) : -(m_by c) = nI (3 - c) := by
  have key : ∀ c : Fin 3, -(m_by c.val) = nI (3 - c.val) := by decide +kernel
  exact key ⟨c, h⟩
theorem k_c_bt (d : Int32) {k i : Nat} (hk : k < 5) (hi : i < 32) : bt (k_c d k) i = (decide (i < 6) && bt d (i + 6 * k)) := by
  unfold k_c
  rw [bt_and, bt_63 hi]
  by_cases e : i < 6
  · rw [bt_shr d (by omega) (by omega), decide_eq_true e]; simp
  · rw [decide_eq_false e]; simp
theorem k_f_bt (d : Int32) {k c i : Nat} (hk : k < 5) (hc : c < 12) (hi : i < 32) : bt (k_f d (m_by c) k) i = (decide (i < 6 ∧ c ≤ i + 3 ∧ i + 3 ≤ c + 5) && bt d (i + 3 - c + 6 * k)) := by
  unfold k_f
  by_cases h : 3 ≤ c
  · rw [if_pos ((by_pos hc).mpr h), by_up h, bt_and, bt_63 hi, bt_shl _ (by omega) hi]
    by_cases e : c - 3 ≤ i
    · rw [k_c_bt d hk (by omega), decide_eq_true e, show i - (c - 3) = i + 3 - c by omega]
      by_cases e2 : i < 6
      · rw [decide_eq_true e2, decide_eq_true (show i + 3 - c < 6 by omega), decide_eq_true (show i < 6 ∧ c ≤ i + 3 ∧ i + 3 ≤ c + 5 by omega)]
        simp
      · rw [decide_eq_false e2, decide_eq_false (show ¬ (i < 6 ∧ c ≤ i + 3 ∧ i + 3 ≤ c + 5) from fun z => e2 z.1)]
        simp
    · rw [decide_eq_false e, decide_eq_false (show ¬ (i < 6 ∧ c ≤ i + 3 ∧ i + 3 ≤ c + 5) by omega)]
      simp
  · rw [if_neg (fun z => h ((by_pos hc).mp z)), by_dn (by omega)]
    by_cases e : i + (3 - c) < 32
    · rw [bt_shr _ (by omega) e, k_c_bt d hk e, show i + (3 - c) = i + 3 - c by omega]
      by_cases e2 : i + 3 - c < 6
      · rw [decide_eq_true e2, decide_eq_true (show i < 6 ∧ c ≤ i + 3 ∧ i + 3 ≤ c + 5 by omega)]
      · rw [decide_eq_false e2, decide_eq_false (show ¬ (i < 6 ∧ c ≤ i + 3 ∧ i + 3 ≤ c + 5) by omega)]
    · have hz : k_c d k >>> (nI (3 - c) &&& 31) = nI ((k_c d k).toBitVec.toNat / 2 ^ (3 - c)) := by
        obtain ⟨a, ha, ea⟩ := pk_andE (d >>> (nI (6 * k) &&& 31)) (m := nI 63) 6 (by decide)
        have e9 : k_c d k = nI a := ea
        rw [e9, pk_shrN (by omega) _ (3 - c) (sh_k (by omega)), pk_tn (by omega)]
      have hlt : (k_c d k).toBitVec.toNat < 64 := by
        obtain ⟨a, ha, ea⟩ := pk_andE (d >>> (nI (6 * k) &&& 31)) (m := nI 63) 6 (by decide)
        have e9 : k_c d k = nI a := ea
        rw [e9, pk_tn (by omega)]; exact ha
      rw [hz, bt_nI hi, decide_eq_false (show ¬ (i < 6 ∧ c ≤ i + 3 ∧ i + 3 ≤ c + 5) by omega)]
      simp only [Bool.false_and]
      exact Nat.testBit_lt_two_pow (Nat.lt_of_le_of_lt (Nat.div_le_self _ _) (Nat.lt_of_lt_of_le hlt (Nat.pow_le_pow_right (n := 2) (by decide) (show 6 ≤ i by omega))))
theorem k_sh_bt (d : Int32) {c i : Nat} (hc : c < 12) (hi : i < 32) : ∀ n, n ≤ 5 → bt (k_sh d (m_by c) n) i = (decide (i < 6 * n) && decide (c ≤ i % 6 + 3 ∧ i % 6 + 3 ≤ c + 5) && bt d (i + 3 - c))
  | 0, _ => by
    show bt (nI 0) i = _
    rw [bt_n0]; simp
  | n + 1, h => by
    show bt (k_sh d (m_by c) n ||| (k_f d (m_by c) n <<< (nI (6 * n) &&& 31))) i = _
    rw [bt_or, k_sh_bt d hc hi n (by omega), bt_shl _ (by omega) hi]
    by_cases e : 6 * n ≤ i
    · rw [k_f_bt d (by omega) hc (by omega), decide_eq_true e, decide_eq_false (show ¬ i < 6 * n by omega)]
      by_cases e2 : i < 6 * (n + 1)
      · rw [decide_eq_true e2, show i % 6 = i - 6 * n by omega]
        by_cases e3 : c ≤ i - 6 * n + 3 ∧ i - 6 * n + 3 ≤ c + 5
        · rw [decide_eq_true e3, decide_eq_true (show i - 6 * n < 6 ∧ c ≤ i - 6 * n + 3 ∧ i - 6 * n + 3 ≤ c + 5 by omega), show i - 6 * n + 3 - c + 6 * n = i + 3 - c by omega]
          simp
        · rw [decide_eq_false e3, decide_eq_false (show ¬ (i - 6 * n < 6 ∧ c ≤ i - 6 * n + 3 ∧ i - 6 * n + 3 ≤ c + 5) from fun z => e3 z.2)]
          simp
      · rw [decide_eq_false e2, decide_eq_false (show ¬ (i - 6 * n < 6 ∧ c ≤ i - 6 * n + 3 ∧ i - 6 * n + 3 ≤ c + 5) by omega)]
        simp
    · rw [decide_eq_false e, decide_eq_true (show i < 6 * n by omega), decide_eq_true (show i < 6 * (n + 1) by omega)]
      simp
/-- the two ways to shift are one -/
theorem sh_eq (d : Int32) {c : Nat} (hc : c < 12) : k_sh d (m_by c) 5 = m_sh d (m_by c) 30 := bt_ext (fun i hi => by
  rw [k_sh_bt d hc hi 5 (Nat.le_refl _), m_sh_b d hc hi]
  unfold shB
  rfl)
theorem sh_D (d : Int32) {c : Nat} (hc : c < 12) : isD (m_sh d (m_by c) 30) := fun i h1 h2 => by
  rw [m_sh_b d hc h2]
  unfold shB
  rw [decide_eq_false (show ¬ i < 30 by omega)]
  rfl
theorem by_3 (x : Nat) : nI x = m_by (x + 3) := by unfold m_by; rw [pk_sub (by omega)]; rfl
theorem sh_eqN (d : Int32) {x : Nat} (hx : x < 9) : k_sh d (nI x) 5 = m_sh d (nI x) 30 := by rw [by_3 x]; exact sh_eq d (by omega)
theorem sh_DN (d : Int32) {x : Nat} (hx : x < 9) : isD (m_sh d (nI x) 30) := by rw [by_3 x]; exact sh_D d (by omega)
theorem by_add (v u : Nat) : nI v + m_by u = m_by (u + v) := by
  unfold m_by
  rw [← nI_add u v, Int32.sub_eq_add_neg, Int32.sub_eq_add_neg, ← Int32.add_assoc, Int32.add_comm (nI v) (nI u)]
