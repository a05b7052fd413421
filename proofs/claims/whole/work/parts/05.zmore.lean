section ZM
variable {κ : zX} {l0 : Launch} {cc : ByteArray} {n0 : Nat} {own : String} {Ts : List Cond} {kf : Nat} {θ : zH} {X : va_W} {pc : Nat} {lv : List (Nat × Value)} {st : List Value}
def bI (b : Bool) : Int32 := bif b then 1 else 0
theorem bI_n (b : Bool) : narrow .boolean (.int (bI b)) = .int (bI b) := by cases b <;> rfl
theorem bI_t {b : Bool} (h : b = true) : nI 1 = bI b := by rw [h]; rfl
theorem bI_f {b : Bool} (h : b = false) : nI 0 = bI b := by rw [h]; rfl
theorem z_lcmp (C : zC κ l0 cc n0 own Ts kf θ) {x y : Int64} (hd : decode cc pc = .ok (.lcmp, 1)) (kk : Z κ X (pc + 1) lv (.int (lg_cmp x y) :: st)) : Z κ X pc lv (.long y :: .long x :: st) := by
  obtain ⟨p, l, e, R, s, m, args, below, meth, c, Q, A, θ', n⟩ := κ
  obtain ⟨rfl, rfl, rfl, hR, hx, hb, hml, hown, hts, hK, hN, hA⟩ := C
  subst hR
  intro H locs ls hP hD hS hl
  exact W.lcmp hx hb hd (kk H locs ls hP hD hS hl)
theorem z_if_eqB (C : zC κ l0 cc n0 own Ts kf θ) {b : Bool} {off : Int} (tgt : Nat) (hd : decode cc pc = .ok (.ifCond .eq off, 3)) (ht : (pc : Int) + off = (tgt : Int)) (kt : b = false → Z κ X tgt lv st) (kn : b = true → Z κ X (pc + 3) lv st) : Z κ X pc lv (.int (bI b) :: st) := z_if_eq C tgt hd ht (fun h => kt (by cases b; rfl; exact absurd h (by decide))) (fun h => kn (by cases b; exact absurd rfl h; rfl))
theorem z_if_neB (C : zC κ l0 cc n0 own Ts kf θ) {b : Bool} {off : Int} (tgt : Nat) (hd : decode cc pc = .ok (.ifCond .ne off, 3)) (ht : (pc : Int) + off = (tgt : Int)) (kt : b = true → Z κ X tgt lv st) (kn : b = false → Z κ X (pc + 3) lv st) : Z κ X pc lv (.int (bI b) :: st) := z_if_ne C tgt hd ht (fun h => kt (by cases b; exact absurd rfl h; rfl)) (fun h => kn (by cases b; rfl; exact absurd h (by decide)))
theorem zf_lt (a b : Int32) : a < b ↔ a.toInt < b.toInt := Int32.lt_iff_toInt_lt
theorem zf_le (a b : Int32) : a ≤ b ↔ a.toInt ≤ b.toInt := Int32.le_iff_toInt_le
theorem zf_eq (a b : Int32) : a = b ↔ a.toInt = b.toInt := ⟨fun h => by rw [h], fun h => Int32.toInt_inj.mp h⟩
theorem zl_lt (a b : Int64) : a < b ↔ a.toInt < b.toInt := Int64.lt_iff_toInt_lt
theorem zl_le (a b : Int64) : a ≤ b ↔ a.toInt ≤ b.toInt := Int64.le_iff_toInt_le
/-- an int that names one of N things -/
def okN (s : Int32) (N : Nat) : Bool := decide (0 ≤ s.toInt) && decide (s.toInt < N)
theorem okN_of {s : Int32} {N : Nat} (h : okN s N = true) (hN : N < 2 ^ 31) : ∃ j : Nat, j < N ∧ s = nI j := by
  unfold okN at h
  simp only [Bool.and_eq_true, decide_eq_true_eq] at h
  refine ⟨s.toInt.toNat, by omega, ?_⟩
  rw [zf_eq, nI_toInt (by omega)]
  omega
theorem okN_nI {j N : Nat} (hj : j < 2 ^ 31) : okN (nI j) N = decide (j < N) := by
  unfold okN
  rw [nI_toInt hj]
  simp
def m_in (v a b : Int64) : Bool := decide (a.toInt ≤ v.toInt) && decide (v.toInt ≤ b.toInt)
theorem lg_lt (x y : Int64) : lg_cmp x y < 0 ↔ x.toInt < y.toInt := by
  unfold lg_cmp
  by_cases h1 : y < x
  · simp only [h1, if_true]
    rw [zl_lt] at h1
    constructor
    · intro h; exact absurd h (by decide)
    · intro h; omega
  · simp only [h1, if_false]
    rw [zl_lt] at h1
    by_cases h2 : x = y
    · subst h2; simp
    · have h3 : x.toInt ≠ y.toInt := fun z => h2 (Int64.toInt_inj.mp z)
      constructor
      · intro _; omega
      · intro _; simp [h2]
theorem lg_gt (x y : Int64) : 0 < lg_cmp x y ↔ y.toInt < x.toInt := by
  unfold lg_cmp
  by_cases h1 : y < x
  · simp only [h1, if_true]
    rw [zl_lt] at h1
    exact ⟨fun _ => h1, fun _ => by decide⟩
  · simp only [h1, if_false]
    rw [zl_lt] at h1
    constructor
    · intro h
      by_cases h2 : x = y
      · subst h2; simp at h
      · simp [h2] at h
    · intro h; exact absurd h h1
end ZM
