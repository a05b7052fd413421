/-! how many dots a set has: class and model agree -/
theorem nI_and (a b : Nat) : nI a &&& nI b = nI (a &&& b) := bt_ext (fun i hi => by rw [bt_and, bt_nI hi, bt_nI hi, bt_nI hi, Nat.testBit_and])
theorem and_sp {x m : Nat} (X M : Nat) (hx : x < 256) (hm : m < 256) : (x + 256 * X) &&& (m + 256 * M) = (x &&& m) + 256 * (X &&& M) := by
  have h1 := Nat.and_mod_two_pow (a := x + 256 * X) (b := m + 256 * M) (n := 8)
  have h2 := Nat.and_div_two_pow (a := x + 256 * X) (b := m + 256 * M) (n := 8)
  rw [show (2 : Nat) ^ 8 = 256 from rfl] at h1 h2
  rw [show (x + 256 * X) % 256 = x by omega, show (m + 256 * M) % 256 = m by omega] at h1
  rw [show (x + 256 * X) / 256 = X by omega, show (m + 256 * M) / 256 = M by omega] at h2
  omega
theorem and_4 {x0 x1 x2 x3 m : Nat} (h0 : x0 < 256) (h1 : x1 < 256) (h2 : x2 < 256) (hm : m < 256) : (x0 + 256 * (x1 + 256 * (x2 + 256 * x3))) &&& (m + 256 * (m + 256 * (m + 256 * m))) = (x0 &&& m) + 256 * ((x1 &&& m) + 256 * ((x2 &&& m) + 256 * (x3 &&& m))) := by
  rw [and_sp _ _ h0 hm, and_sp _ _ h1 hm, and_sp _ _ h2 hm]
def q1 (x : Nat) : Nat := x - (x / 2 &&& 85)
def q2 (x : Nat) : Nat := (x &&& 51) + (x / 4 &&& 51)
def q3 (x : Nat) : Nat := (x + x / 16) % 16
theorem q1_b {x b : Nat} (hx : x < 256) (hb : b < 2) : (x / 2 + 128 * b) &&& 85 = x / 2 &&& 85 := by
  have key : ∀ x : Fin 256, ∀ b : Fin 2, (x.val / 2 + 128 * b.val) &&& 85 = x.val / 2 &&& 85 := by decide +kernel
  exact key ⟨x, hx⟩ ⟨b, hb⟩
theorem q1_le {x : Nat} (hx : x < 256) : x / 2 &&& 85 ≤ x := Nat.le_trans Nat.and_le_left (Nat.div_le_self _ _)
theorem q2_b {x b : Nat} (hx : x < 256) (hb : b < 4) : (x / 4 + 64 * b) &&& 51 = x / 4 &&& 51 := by
  have key : ∀ x : Fin 256, ∀ b : Fin 4, (x.val / 4 + 64 * b.val) &&& 51 = x.val / 4 &&& 51 := by decide +kernel
  exact key ⟨x, hx⟩ ⟨b, hb⟩
def pop (a : Nat) : Nat → Nat
  | 0 => 0
  | k + 1 => pop a k + a / 2 ^ k % 2
theorem q_pop {x : Nat} (hx : x < 256) : q3 (q2 (q1 x)) = pop x 8 ∧ q1 x < 256 ∧ q2 (q1 x) ≤ 68 ∧ pop x 8 ≤ 8 ∧ q2 (q1 x) % 16 ≤ 4 := by
  have key : ∀ x : Fin 256, q3 (q2 (q1 x.val)) = pop x.val 8 ∧ q1 x.val < 256 ∧ q2 (q1 x.val) ≤ 68 ∧ pop x.val 8 ≤ 8 ∧ q2 (q1 x.val) % 16 ≤ 4 := by decide +kernel
  exact key ⟨x, hx⟩
theorem ush_nI {n k : Nat} (hn : n < 2 ^ 32) (hk : k < 32) : ush (nI n) k = nI (n / 2 ^ k) := by
  have key : ∀ k : Fin 32, (((nI k.val).toUInt32 &&& Int32.toUInt32 31).toBitVec % 32).toNat = k.val := by decide +kernel
  exact pk_ushrN hn _ k (key ⟨k, hk⟩)
theorem pop_8 {x0 X : Nat} (h0 : x0 < 256) : ∀ k, k ≤ 8 → pop (x0 + 256 * X) k = pop x0 k
  | 0, _ => rfl
  | k + 1, h => by
    unfold pop
    rw [pop_8 h0 k (by omega)]
    congr 1
    have e : 256 * X = 2 ^ k * (2 ^ (8 - k) * X) := by
      rw [← Nat.mul_assoc, ← Nat.pow_add, show k + (8 - k) = 8 by omega]
    rw [e, Nat.add_mul_div_left _ _ (Nat.two_pow_pos k)]
    have e2 : 2 ^ (8 - k) * X = 2 * (2 ^ (7 - k) * X) := by
      rw [← Nat.mul_assoc, show 8 - k = (7 - k) + 1 by omega, Nat.pow_succ, Nat.mul_comm (2 ^ (7 - k)) 2]
    rw [e2]
    omega
theorem pop_up {x0 X : Nat} (h0 : x0 < 256) : ∀ k, pop (x0 + 256 * X) (8 + k) = pop x0 8 + pop X k
  | 0 => pop_8 h0 8 (Nat.le_refl _)
  | k + 1 => by
    show pop (x0 + 256 * X) (8 + k) + (x0 + 256 * X) / 2 ^ (8 + k) % 2 = pop x0 8 + (pop X k + X / 2 ^ k % 2)
    rw [pop_up h0 k, Nat.pow_add, ← Nat.div_div_eq_div_mul, show (x0 + 256 * X) / 2 ^ 8 = X by omega]
    omega
set_option maxRecDepth 4000 in
theorem bcn_pop {a : Nat} (ha : a < 2 ^ 32) : bcn (nI a) = nI (pop a 32) := by
  obtain ⟨x0, x1, x2, x3, h0, h1, h2, h3, e⟩ : ∃ x0 x1 x2 x3, x0 < 256 ∧ x1 < 256 ∧ x2 < 256 ∧ x3 < 256 ∧ a = x0 + 256 * (x1 + 256 * (x2 + 256 * x3)) := ⟨a % 256, a / 256 % 256, a / 65536 % 256, a / 16777216, by omega, by omega, by omega, by omega, by omega⟩
  obtain ⟨p0, r0, s0, t0, u0⟩ := q_pop h0
  obtain ⟨p1, r1, s1, t1, u1⟩ := q_pop h1
  obtain ⟨p2, r2, s2, t2, u2⟩ := q_pop h2
  obtain ⟨p3, r3, s3, t3, u3⟩ := q_pop h3
  have b1 : bc1 (nI a) = nI (q1 x0 + 256 * (q1 x1 + 256 * (q1 x2 + 256 * q1 x3))) := by
    unfold bc1
    rw [ush_nI ha (by decide), nI_and, show a / 2 ^ 1 = (x0 / 2 + 128 * (x1 % 2)) + 256 * ((x1 / 2 + 128 * (x2 % 2)) + 256 * ((x2 / 2 + 128 * (x3 % 2)) + 256 * (x3 / 2))) by omega, show (1431655765 : Nat) = 85 + 256 * (85 + 256 * (85 + 256 * 85)) from rfl, and_4 (by omega) (by omega) (by omega) (by decide), q1_b h0 (by omega), q1_b h1 (by omega), q1_b h2 (by omega)]
    have l0 := q1_le h0
    have l1 := q1_le h1
    have l2 := q1_le h2
    have l3 := q1_le h3
    rw [pk_sub (by omega)]
    congr 1
    unfold q1
    omega
  have b2 : bc2 (bc1 (nI a)) = nI (q2 (q1 x0) + 256 * (q2 (q1 x1) + 256 * (q2 (q1 x2) + 256 * q2 (q1 x3)))) := by
    rw [b1]
    generalize q1 x0 = y0 at *
    generalize q1 x1 = y1 at *
    generalize q1 x2 = y2 at *
    generalize q1 x3 = y3 at *
    unfold bc2
    rw [ush_nI (by omega) (by decide), nI_and, nI_and, nI_add, show (858993459 : Nat) = 51 + 256 * (51 + 256 * (51 + 256 * 51)) from rfl, and_4 r0 r1 r2 (by decide), show (y0 + 256 * (y1 + 256 * (y2 + 256 * y3))) / 2 ^ 2 = (y0 / 4 + 64 * (y1 % 4)) + 256 * ((y1 / 4 + 64 * (y2 % 4)) + 256 * ((y2 / 4 + 64 * (y3 % 4)) + 256 * (y3 / 4))) by omega, and_4 (by omega) (by omega) (by omega) (by decide), q2_b r0 (by omega), q2_b r1 (by omega), q2_b r2 (by omega)]
    congr 1
    unfold q2
    omega
  have b3 : bc3 (bc2 (bc1 (nI a))) = nI (pop x0 8 + 256 * (pop x1 8 + 256 * (pop x2 8 + 256 * pop x3 8))) := by
    rw [b2, ← p0, ← p1, ← p2, ← p3]
    generalize q2 (q1 x0) = y0 at *
    generalize q2 (q1 x1) = y1 at *
    generalize q2 (q1 x2) = y2 at *
    generalize q2 (q1 x3) = y3 at *
    unfold bc3
    rw [ush_nI (by omega) (by decide), nI_add, nI_and, show (252645135 : Nat) = 15 + 256 * (15 + 256 * (15 + 256 * 15)) from rfl, show (y0 + 256 * (y1 + 256 * (y2 + 256 * y3))) + (y0 + 256 * (y1 + 256 * (y2 + 256 * y3))) / 2 ^ 4 = (y0 + y0 / 16 + 16 * (y1 % 16)) + 256 * ((y1 + y1 / 16 + 16 * (y2 % 16)) + 256 * ((y2 + y2 / 16 + 16 * (y3 % 16)) + 256 * (y3 + y3 / 16))) by omega, and_4 (by omega) (by omega) (by omega) (by decide)]
    have m : ∀ z : Nat, z &&& 15 = z % 16 := fun z => Nat.and_two_pow_sub_one_eq_mod z 4
    rw [m, m, m, m]
    congr 1
    unfold q3
    omega
  unfold bcn
  rw [b3, e, pop_up h0 24, show (24 : Nat) = 8 + 16 from rfl, pop_up h1 16, show (16 : Nat) = 8 + 8 from rfl, pop_up h2 8]
  generalize pop x0 8 = y0 at *
  generalize pop x1 8 = y1 at *
  generalize pop x2 8 = y2 at *
  generalize pop x3 8 = y3 at *
  unfold bc4
  rw [ush_nI (by omega) (by decide), nI_add]
  unfold bc5
  rw [ush_nI (by omega) (by decide), nI_add, nI_and]
  have m : ∀ z : Nat, z &&& 63 = z % 64 := fun z => Nat.and_two_pow_sub_one_eq_mod z 6
  rw [m, show (2 : Nat) ^ 8 = 256 from rfl, show (2 : Nat) ^ 16 = 65536 from rfl]
  congr 1
  clear p0 p1 p2 p3 r0 r1 r2 r3 s0 s1 s2 s3 u0 u1 u2 u3 b1 b2 b3 e ha h0 h1 h2 h3
  rw [show (y0 + 256 * (y1 + 256 * (y2 + 256 * y3))) / 256 = y1 + 256 * (y2 + 256 * y3) by omega]
  rw [show y0 + 256 * (y1 + 256 * (y2 + 256 * y3)) + (y1 + 256 * (y2 + 256 * y3)) = (y0 + y1) + 256 * ((y1 + y2) + 256 * ((y2 + y3) + 256 * y3)) by omega]
  rw [show ((y0 + y1) + 256 * ((y1 + y2) + 256 * ((y2 + y3) + 256 * y3))) / 65536 = (y2 + y3) + 256 * y3 by omega]
  omega
theorem ones_pop {a : Nat} (ha : a < 2 ^ 31) : ∀ k, k ≤ 31 → m_ones (nI a) k = nI (pop a k)
  | 0, _ => rfl
  | k + 1, h => by
    show m_ones (nI a) k + ((nI a >>> (nI k &&& 31)) &&& 1) = _
    rw [ones_pop ha k (by omega), pk_shrN ha _ k (sh_k (by omega)), show (1 : Int32) = nI 1 from rfl, nI_and, nI_add]
    rw [show a / 2 ^ k &&& 1 = a / 2 ^ k % 2 from Nat.and_two_pow_sub_one_eq_mod _ 1]
    rfl
theorem pop_st {a n : Nat} (ha : a < 2 ^ n) : ∀ k, pop a (n + k) = pop a n
  | 0 => rfl
  | k + 1 => by
    show pop a (n + k) + a / 2 ^ (n + k) % 2 = _
    rw [pop_st ha k, Nat.div_eq_of_lt (Nat.lt_of_lt_of_le ha (Nat.pow_le_pow_right (by decide) (by omega))), Nat.zero_mod, Nat.add_zero]
theorem pop_le (a : Nat) : ∀ k, pop a k ≤ k
  | 0 => Nat.le_refl _
  | k + 1 => by
    have := pop_le a k
    unfold pop
    omega
/-- of a set of dots both count alike, at most 30 -/
theorem pop_eq {x : Int32} (h : isD x) : ∃ u : Nat, u ≤ 30 ∧ bcn x = nI u ∧ m_ones x 30 = nI u := by
  obtain ⟨a, ha, e⟩ := isD_nat h
  refine ⟨pop a 30, pop_le a 30, ?_, ?_⟩
  · rw [e, bcn_pop (by omega), show (32 : Nat) = 30 + 2 from rfl, pop_st ha 2]
  · rw [e, ones_pop (by omega) 30 (by decide)]
theorem bcn_ones {x : Int32} (h : isD x) : bcn x = m_ones x 30 := by
  obtain ⟨u, -, h1, h2⟩ := pop_eq h
  rw [h1, h2]
/-- most like -/
theorem ml_eq {o o' : Nat → Int32} {set lk : Int32} {S : Nat} (ho : ∀ s, s < S → o' s = o s) (hD : ∀ s, s < S → isD ((o s ^^^ set) &&& lk)) : ∀ s, s ≤ S → (k_ml o set lk s).1 = (m_ml o' set lk s).1 ∧ ∃ f : Nat, f ≤ 31 ∧ (k_ml o set lk s).2 = nI f ∧ (m_ml o' set lk s).2 = nI 30 - nI f
  | 0, _ => ⟨rfl, 31, Nat.le_refl _, rfl, (by decide : (-1 : Int32) = nI 30 - nI 31)⟩
  | s + 1, h => by
    obtain ⟨h1, f, hf, h2, h3⟩ := ml_eq ho hD s (by omega)
    obtain ⟨u, hu, u1, u2⟩ := pop_eq (hD s (by omega))
    unfold k_ml m_ml m_its
    rw [ho s (by omega), u2, u1, h2, h3]
    have c1 : (nI f ≤ nI u) ↔ f ≤ u := nI_leI (by omega) (by omega)
    have c2 : (nI 30 - nI u ≤ nI 30 - nI f) ↔ f ≤ u := by
      rw [zf_le, pk_sub_toInt (by decide) (by omega), pk_sub_toInt (by decide) (by omega)]
      omega
    by_cases e : f ≤ u
    · rw [if_pos (c1.mpr e), if_pos (c2.mpr e)]
      exact ⟨h1, f, hf, h2, h3⟩
    · rw [if_neg (fun z => e (c1.mp z)), if_neg (fun z => e (c2.mp z))]
      exact ⟨rfl, u, by omega, rfl, rfl⟩
theorem m_mask_v {v : Nat} (hv : v < 64) : m_mask (nI v) 30 = nI v * nI 17043521 ∧ isD (nI v * nI 17043521) := by
  have key : ∀ v : Fin 64, m_mask (nI v.val) 30 = nI v.val * nI 17043521 ∧ v.val * 17043521 < 2 ^ 30 := by decide +kernel
  obtain ⟨h1, h2⟩ := key ⟨v, hv⟩
  exact ⟨h1, by rw [pk_mul]; exact isD_n h2⟩
theorem mask_bt {v i : Nat} (hv : v < 64) (hi : i < 30) : bt (nI v * nI 17043521) i = bt (nI v) (i % 6) := by
  have key : ∀ v : Fin 64, ∀ i : Fin 30, bt (nI v.val * nI 17043521) i.val = bt (nI v.val) (i.val % 6) := by decide +kernel
  exact key ⟨v, hv⟩ ⟨i, hi⟩
/-- drawn by so many gnats -/
theorem lo_eq {K ey : Int32} {v G : Nat} (hv : v < 64) : ∀ k, k ≤ 30 → (m_dr (K &&& (ey ^^^ (-1))) (nI v) G k).1 + (k_lo ((K &&& ((nI v * nI 17043521) ^^^ (-1))) &&& (ey ^^^ (-1))) G k).1 = G ∧ (m_dr (K &&& (ey ^^^ (-1))) (nI v) G k).2 = (k_lo ((K &&& ((nI v * nI 17043521) ^^^ (-1))) &&& (ey ^^^ (-1))) G k).2
  | 0, _ => ⟨Nat.add_zero _, rfl⟩
  | k + 1, h => by
    obtain ⟨h1, h2⟩ := lo_eq (K := K) (ey := ey) (G := G) hv k (by omega)
    unfold m_dr k_lo
    generalize m_dr (K &&& (ey ^^^ (-1))) (nI v) G k = x at *
    generalize k_lo ((K &&& ((nI v * nI 17043521) ^^^ (-1))) &&& (ey ^^^ (-1))) G k = y at *
    have c1 : ((((K &&& ((nI v * nI 17043521) ^^^ (-1))) &&& (ey ^^^ (-1))) >>> (nI k &&& 31)) &&& nI 1 = nI 1) ↔ (m_has (K &&& (ey ^^^ (-1))) (nI k) = true ∧ m_has (nI v) (nI (k % 6)) = false) := by
      rw [has_bt1 _ (by omega), has_bt _ (by omega), has_bt _ (by omega), bt_and, bt_and, bt_and, bt_not _ (by omega), bt_not _ (by omega), mask_bt hv (by omega)]
      cases bt K k <;> cases bt (nI v) (k % 6) <;> cases bt ey k <;> simp
    by_cases e : G ≤ y.1
    · rw [if_pos e, if_neg (fun z => z.2 (by omega))]
      exact ⟨h1, by rw [← h2]; exact or_n0 _⟩
    · rw [if_neg e]
      by_cases e2 : m_has (K &&& (ey ^^^ (-1))) (nI k) = true ∧ m_has (nI v) (nI (k % 6)) = false
      · rw [if_pos ⟨e2, by omega⟩, if_pos (c1.mpr e2)]
        exact ⟨by dsimp only; omega, by dsimp only; rw [h2]⟩
      · rw [if_neg (fun z => e2 z.1), if_neg (fun z => e2 (c1.mp z))]
        exact ⟨h1, by rw [← h2]; exact or_n0 _⟩
theorem k_lo_D (d : Int32) (G : Nat) : ∀ k, k ≤ 30 → isD (k_lo d G k).2
  | 0, _ => isD_0
  | k + 1, h => by
    have := k_lo_D d G k (by omega)
    unfold k_lo
    split
    · exact this
    · split
      · exact isD_or this (isD_one (by omega))
      · exact this
