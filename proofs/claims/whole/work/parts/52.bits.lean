/-! bits of ints -/
def bt (x : Int32) (i : Nat) : Bool := x.toBitVec.getLsbD i
theorem bt_ext {x y : Int32} (h : ∀ i, i < 32 → bt x i = bt y i) : x = y := Int32.toBitVec_inj.1 (BitVec.eq_of_getLsbD_eq h)
theorem bt_or (x y : Int32) (i : Nat) : bt (x ||| y) i = (bt x i || bt y i) := BitVec.getLsbD_or
theorem bt_and (x y : Int32) (i : Nat) : bt (x &&& y) i = (bt x i && bt y i) := BitVec.getLsbD_and
theorem bt_xor (x y : Int32) (i : Nat) : bt (x ^^^ y) i = (bt x i ^^ bt y i) := BitVec.getLsbD_xor
theorem bt_m1 {i : Nat} (hi : i < 32) : bt (-1) i = true := by
  have key : ∀ j : Fin 32, bt (-1) j.val = true := by decide +kernel
  exact key ⟨i, hi⟩
theorem bt_not (x : Int32) {i : Nat} (hi : i < 32) : bt (x ^^^ (-1)) i = !(bt x i) := by rw [bt_xor, bt_m1 hi, Bool.xor_true]
theorem bt_nI {a i : Nat} (hi : i < 32) : bt (nI a) i = a.testBit i := by
  show (BitVec.ofNat 32 a).getLsbD i = _
  rw [BitVec.getLsbD_ofNat]
  simp [hi]
theorem bt_n0 (i : Nat) : bt (nI 0) i = false := by
  show (BitVec.ofNat 32 0).getLsbD i = _
  simp
theorem sh_k {k : Nat} (hk : k < 32) : ((nI k &&& 31).toBitVec.smod 32).toNat = k := by
  have key : ∀ j : Fin 32, ((nI j.val &&& 31).toBitVec.smod 32).toNat = j.val := by decide +kernel
  exact key ⟨k, hk⟩
theorem bt_shr (x : Int32) {k i : Nat} (hk : k < 32) (h : i + k < 32) : bt (x >>> (nI k &&& 31)) i = bt x (i + k) := by
  show (x.toBitVec.sshiftRight ((nI k &&& 31).toBitVec.smod 32).toNat).getLsbD i = _
  rw [sh_k hk, BitVec.getLsbD_sshiftRight]
  have h1 : ¬ 32 ≤ i := by omega
  have h2 : k + i < 32 := by omega
  simp only [h1, decide_false, Bool.not_false, Bool.true_and]
  rw [if_pos h2, Nat.add_comm]; rfl
theorem bt_shl (x : Int32) {k i : Nat} (hk : k < 32) (hi : i < 32) : bt (x <<< (nI k &&& 31)) i = (decide (k ≤ i) && bt x (i - k)) := by
  show (x.toBitVec <<< ((nI k &&& 31).toBitVec.smod 32).toNat).getLsbD i = _
  rw [sh_k hk, BitVec.getLsbD_shiftLeft]
  by_cases h : k ≤ i
  · have h1 : ¬ i < k := by omega
    simp [h, h1, hi]; rfl
  · have h1 : i < k := by omega
    simp [h, h1]
theorem bt_one {j i : Nat} (hj : j < 32) (hi : i < 32) : bt (nI 1 <<< (nI j &&& 31)) i = decide (i = j) := by
  have key : ∀ j : Fin 32, ∀ i : Fin 32, bt (nI 1 <<< (nI j.val &&& 31)) i.val = decide (i.val = j.val) := by decide +kernel
  exact key ⟨j, hj⟩ ⟨i, hi⟩
theorem bt_63 {i : Nat} (hi : i < 32) : bt (nI 63) i = decide (i < 6) := by
  have key : ∀ i : Fin 32, bt (nI 63) i.val = decide (i.val < 6) := by decide +kernel
  exact key ⟨i, hi⟩
theorem bt_1 {i : Nat} (hi : i < 32) : bt (nI 1) i = decide (i = 0) := by
  have key : ∀ i : Fin 32, bt (nI 1) i.val = decide (i.val = 0) := by decide +kernel
  exact key ⟨i, hi⟩
theorem bt_lo (x : Int32) : (x &&& nI 1 = nI 1) ↔ bt x 0 = true := by
  constructor
  · intro h
    have h1 := congrArg (fun z => bt z 0) h
    simp only [bt_and] at h1
    rw [show bt (nI 1) 0 = true from by decide] at h1
    simpa using h1
  · intro h
    refine bt_ext (fun i hi => ?_)
    rw [bt_and]
    by_cases e : i = 0
    · subst e; rw [h]; rfl
    · have : bt (nI 1) i = false := by
        rw [bt_1 hi]
        exact decide_eq_false e
      rw [this, Bool.and_false]
theorem bt_lo0 (x : Int32) : (x &&& nI 1 = nI 0) ↔ bt x 0 = false := by
  constructor
  · intro h
    have h1 := congrArg (fun z => bt z 0) h
    simp only [bt_and] at h1
    rw [show bt (nI 1) 0 = true from by decide, bt_n0] at h1
    simpa using h1
  · intro h
    refine bt_ext (fun i hi => ?_)
    rw [bt_and, bt_n0]
    by_cases e : i = 0
    · subst e; rw [h]; rfl
    · have : bt (nI 1) i = false := by
        rw [bt_1 hi]
        exact decide_eq_false e
      rw [this, Bool.and_false]
theorem has_bt (x : Int32) {k : Nat} (hk : k < 32) : m_has x (nI k) = bt x k := by
  unfold m_has
  rw [Bool.eq_iff_iff, decide_eq_true_iff]
  rw [show (1 : Int32) = nI 1 from rfl, bt_lo, bt_shr x hk (by omega), Nat.zero_add]
theorem has_bt1 (x : Int32) {k : Nat} (hk : k < 32) : ((x >>> (nI k &&& 31)) &&& nI 1 = nI 1) ↔ bt x k = true := by
  rw [bt_lo, bt_shr x hk (by omega), Nat.zero_add]
theorem has_bt0 (x : Int32) {k : Nat} (hk : k < 32) : ((x >>> (nI k &&& 31)) &&& nI 1 = nI 0) ↔ bt x k = false := by
  rw [bt_lo0, bt_shr x hk (by omega), Nat.zero_add]
theorem has_val (x : Int32) {k : Nat} (hk : k < 32) : (x >>> (nI k &&& 31)) &&& nI 1 = bI (bt x k) := by
  cases h : bt x k with
  | true => exact (has_bt1 x hk).mpr h
  | false => exact (has_bt0 x hk).mpr h
/-- a set of dots -/
def isD (x : Int32) : Prop := ∀ i, 30 ≤ i → i < 32 → bt x i = false
theorem isD_n {a : Nat} (h : a < 2 ^ 30) : isD (nI a) := fun i h1 h2 => by
  rw [bt_nI h2]
  exact Nat.testBit_lt_two_pow (Nat.lt_of_lt_of_le h (Nat.pow_le_pow_right (by decide) h1))
theorem isD_ok {x : Int32} (h : okN x 1073741824 = true) : isD x := by
  obtain ⟨j, hj, e⟩ := okN_of h (by decide)
  rw [e]; exact isD_n hj
theorem isD_0 : isD (nI 0) := isD_n (by decide)
theorem isD_or {x y : Int32} (h1 : isD x) (h2 : isD y) : isD (x ||| y) := fun i a b => by rw [bt_or, h1 i a b, h2 i a b]; rfl
theorem isD_and {x y : Int32} (h1 : isD x) : isD (x &&& y) := fun i a b => by rw [bt_and, h1 i a b]; rfl
theorem isD_xor {x y : Int32} (h1 : isD x) (h2 : isD y) : isD (x ^^^ y) := fun i a b => by rw [bt_xor, h1 i a b, h2 i a b]; rfl
theorem isD_one {j : Nat} (hj : j < 30) : isD (nI 1 <<< (nI j &&& 31)) := fun i a b => by rw [bt_one (by omega) b]; exact decide_eq_false (by omega)
theorem isD_ext {x y : Int32} (hx : isD x) (hy : isD y) (h : ∀ i, i < 30 → bt x i = bt y i) : x = y := bt_ext (fun i hi => by
  by_cases e : i < 30
  · exact h i e
  · rw [hx i (by omega) hi, hy i (by omega) hi])
theorem isD_nat {x : Int32} (h : isD x) : ∃ a : Nat, a < 2 ^ 30 ∧ x = nI a := by
  refine ⟨x.toBitVec.toNat, ?_, ?_⟩
  · refine Nat.lt_pow_two_of_testBit _ (fun i hi => ?_)
    by_cases e : i < 32
    · exact h i hi e
    · exact Nat.testBit_lt_two_pow (Nat.lt_of_lt_of_le x.toBitVec.isLt (Nat.pow_le_pow_right (by decide) (by omega)))
  · apply Int32.toBitVec_inj.1
    show x.toBitVec = BitVec.ofNat 32 x.toBitVec.toNat
    simp
theorem isD_all {i : Nat} (hi : i < 30) : bt (nI 1073741823) i = true := by
  have key : ∀ i : Fin 30, bt (nI 1073741823) i.val = true := by decide +kernel
  exact key ⟨i, hi⟩
theorem and_all {x : Int32} (h : isD x) : x &&& nI 1073741823 = x := isD_ext (isD_and h) h (fun i hi => by rw [bt_and, isD_all hi, Bool.and_true])
