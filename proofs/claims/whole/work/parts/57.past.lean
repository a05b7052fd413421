/-! the whole state: class and model -/
def rCity (G S W C : Nat) (tld : Bool) (o k : Nat → Int32) (G' S' W' C' : Nat) (o' k' : Nat → Int32) : Prop := G' = G ∧ G ≤ 30 ∧ S' = S ∧ S ≤ 6 ∧ W' = W ∧ W ≤ 5 ∧ C' = C ∧ C ≤ 6 ∧ tld = decide (0 < G) ∧ (∀ s : Nat, s < S → o' s = o s ∧ isD (o s)) ∧ (∀ c : Nat, c < C → k' c = k c ∧ ∃ v : Nat, v < 64 ∧ k c = nI v)
def rText (L : Nat) (f : Nat → Int32) (g : Int32) (L' : Nat) (f' : Nat → Int32) (g' : Int32) : Prop := L' = L ∧ L ≤ 240 ∧ f' = f ∧ (∀ q : Nat, q < L → ¬ f q < 0) ∧ g' = g
def rSeed (s s' : Nat) : Prop := s' = s ∧ s < 2 ^ 31
def rTold (t : Nat) (dr mi : Int32) (t' : Nat) (dt it : Nat → Int32) : Prop := t' = t ∧ t ≤ 6 ∧ isD dr ∧ isD mi ∧ ∀ d : Int32, isD d → m_so d dt it t = (decide (d &&& dr = dr) && decide (d &&& mi = 0))
def rPast (S W sz nx : Nat) (V : Nat → Ev) (u : Nat) (p : Nat → Int32) : Prop := u = sz ∧ sz ≤ 16 ∧ nx < 16 ∧ ∀ i : Nat, i < sz → EvR S W (V (2 + (nx + 31 - i) % 16)) (fun k => p (82 * (sz - 1 - i) + k))
def rImg (S W : Nat) (V : Nat → Ev) (kp sd img kp' : Nat → Int32) : Prop := ∀ i : Nat, i < 2 → (kp i = nI 0 ∨ kp i = nI 1) ∧ kp' i = kp i ∧ (kp i = nI 1 → EvR S W (V i) (fun k => img (83 * i + k)) ∧ ∃ z : Nat, z < 2 ^ 31 ∧ sd i = nI z ∧ img (83 * i + 82) = nI z)
def RR (n : Nat → Nat) (g : Nat → Int32) (b : Nat → Bool) (r : Nat → Nat → Int32) (V : Nat → Ev) (n' : Nat → Nat) (g' : Int32) (r' : Nat → Nat → Int32) : Prop :=
  rCity (n 9) (n 10) (n 11) (n 12) (b 1) (r 4) (r 6) (n' 0) (n' 1) (n' 3) (n' 5) (r' 2) (r' 6) ∧ rText (n 2) (r 0) (g 2) (n' 10) (r' 9) g' ∧ rSeed (n 0) (n' 8) ∧ rTold (n 1) (g 0) (g 1) (n' 27) (r' 28) (r' 29) ∧ EvR (n 10) (n 11) (nowE n g b r) (r' 7) ∧ rPast (n 10) (n 11) (n 16) (n 17) V (n' 22) (r' 23) ∧ rImg (n 10) (n 11) V (r 18) (r 17) (r' 31) (r' 32)
theorem shf_at (p : Nat → Int32) : ∀ i j : Nat, m_shf p i j = if j < i then p (82 + j) else p j
  | 0, j => by rw [if_neg (by omega)]; rfl
  | i + 1, j => by
    show upd (m_shf p i) i (m_shf p i (82 + i)) j = _
    by_cases e : j = i
    · subst e
      rw [pk_us, shf_at p j, if_neg (by omega), if_pos (by omega)]
    · rw [pk_un e, shf_at p i]
      by_cases e2 : j < i
      · rw [if_pos e2, if_pos (by omega)]
      · rw [if_neg e2, if_neg (by omega)]
theorem cp_at (p f : Nat → Int32) (b : Nat) : ∀ i j : Nat, m_cp p f b i j = if b ≤ j ∧ j < b + i then f (j - b) else p j
  | 0, j => by rw [if_neg (by omega)]; rfl
  | i + 1, j => by
    show upd (m_cp p f b i) (b + i) (f i) j = _
    by_cases e : j = b + i
    · subst e
      rw [pk_us, if_pos (by omega), show b + i - b = i by omega]
    · rw [pk_un e, cp_at p f b i]
      by_cases e2 : b ≤ j ∧ j < b + i
      · rw [if_pos e2, if_pos (by omega)]
      · rw [if_neg e2, if_neg (by omega)]
theorem un_at (f p : Nat → Int32) (b : Nat) : ∀ i j : Nat, m_un f p b i j = if j < i then p (b + j) else f j
  | 0, j => by rw [if_neg (by omega)]; rfl
  | i + 1, j => by
    show upd (m_un f p b i) i (p (b + i)) j = _
    by_cases e : j = i
    · subst e
      rw [pk_us, if_pos (by omega)]
    · rw [pk_un e, un_at f p b i]
      by_cases e2 : j < i
      · rw [if_pos e2, if_pos (by omega)]
      · rw [if_neg e2, if_neg (by omega)]
theorem bk_at (f p : Nat → Int32) (b : Nat) : ∀ i j : Nat, m_bk f p b i j = if j < i then p (b + j) else f j
  | 0, j => by rw [if_neg (by omega)]; rfl
  | i + 1, j => by
    show upd (m_bk f p b i) i (p (b + i)) j = _
    by_cases e : j = i
    · subst e
      rw [pk_us, if_pos (by omega)]
    · rw [pk_un e, bk_at f p b i]
      by_cases e2 : j < i
      · rw [if_pos e2, if_pos (by omega)]
      · rw [if_neg e2, if_neg (by omega)]
theorem up_o {V : Nat → Ev} {i j : Nat} {e : Ev} (h : j ≠ i) : va_up V i e j = V j := va_up_ne _ _ h
/-- what is done is remembered -/
theorem past_rem {S W sz nx u : Nat} {V : Nat → Ev} {p f : Nat → Int32} {e : Ev} (hS : S ≤ 6) (hW : W ≤ 5) (h : rPast S W sz nx V u p) (he : EvR S W e f) : rPast S W (min (sz + 1) 16) ((nx + 1) % 16) (va_up V (2 + nx) (cpE e (V (2 + nx)))) (m_u u) (m_pst p f u) := by
  obtain ⟨hu, hz, hn, hV⟩ := h
  subst hu
  unfold m_u m_pst
  by_cases e16 : u = 16
  · rw [if_pos e16, if_pos e16]
    subst e16
    refine ⟨rfl, by omega, by omega, fun i hi => ?_⟩
    rw [show min (16 + 1) 16 = 16 from rfl] at hi ⊢
    by_cases e0 : i = 0
    · subst e0
      rw [show ((nx + 1) % 16 + 31 - 0) % 16 = nx by omega, va_up_self]
      exact he.cong hS hW (cpE_eq _ _) (fun k hk => by
        rw [cp_at, if_pos (by omega), show 82 * (16 - 1 - 0) + k - 82 * 15 = k by omega])
    · rw [show ((nx + 1) % 16 + 31 - i) % 16 = (nx + 31 - (i - 1)) % 16 by omega, up_o (by omega)]
      refine (hV (i - 1) (by omega)).congF hS hW (fun k hk => ?_)
      rw [cp_at, if_neg (by omega), shf_at, if_pos (by omega), show 82 + (82 * (16 - 1 - i) + k) = 82 * (16 - 1 - (i - 1)) + k by omega]
  · rw [if_neg e16, if_neg e16]
    refine ⟨by omega, by omega, by omega, fun i hi => ?_⟩
    rw [show min (u + 1) 16 = u + 1 by omega] at hi ⊢
    by_cases e0 : i = 0
    · subst e0
      rw [show ((nx + 1) % 16 + 31 - 0) % 16 = nx by omega, va_up_self]
      exact he.cong hS hW (cpE_eq _ _) (fun k hk => by
        rw [cp_at, if_pos (by omega)]
        congr 1
        omega)
    · rw [show ((nx + 1) % 16 + 31 - i) % 16 = (nx + 31 - (i - 1)) % 16 by omega, up_o (by omega)]
      refine (hV (i - 1) (by omega)).congF hS hW (fun k hk => ?_)
      rw [cp_at, if_neg (by omega)]
      congr 1
      omega
theorem img_rem {S W : Nat} {V : Nat → Ev} {kp sd img kp' : Nat → Int32} {j : Nat} {e : Ev} (h : rImg S W V kp sd img kp') : rImg S W (va_up V (2 + j) e) kp sd img kp' := fun i hi => by
  rw [up_o (by omega)]
  exact h i hi
theorem past_rec {S W sz nx u : Nat} {V : Nat → Ev} {p f : Nat → Int32} {o : Ev} (hS : S ≤ 6) (hW : W ≤ 5) (h : rPast S W sz nx V u p) {v : Nat} (hv : sz = v + 1) : EvR S W (cpE (V (2 + (nx + 15) % 16)) o) (m_un f p (82 * v) 82) ∧ rPast S W (max (sz - 1) 0) ((nx + 15) % 16) V v p := by
  obtain ⟨hu, hz, hn, hV⟩ := h
  refine ⟨?_, by omega, by omega, by omega, fun i hi => ?_⟩
  · have h0 := hV 0 (by omega)
    rw [show (nx + 31 - 0) % 16 = (nx + 15) % 16 by omega] at h0
    refine h0.cong hS hW (cpE_eq _ _) (fun k hk => ?_)
    rw [un_at, if_pos hk]
    congr 1
    omega
  · have h1 := hV (i + 1) (by omega)
    rw [show (nx + 31 - (i + 1)) % 16 = ((nx + 15) % 16 + 31 - i) % 16 by omega] at h1
    refine h1.congF hS hW (fun k hk => ?_)
    congr 1
    omega
theorem past_0 {S W : Nat} {V : Nat → Ev} {p : Nat → Int32} : rPast S W 0 0 V 0 p := ⟨rfl, by decide, by decide, fun i hi => absurd hi (Nat.not_lt_zero _)⟩
theorem img_keep {S W : Nat} {V : Nat → Ev} {kp sd img kp' f : Nat → Int32} {e : Ev} {i z : Nat} (hS : S ≤ 6) (hW : W ≤ 5) (h : rImg S W V kp sd img kp') (he : EvR S W e f) (hi : i < 2) (hz : z < 2 ^ 31) : rImg S W (va_up V i (cpE e (V i))) (upd kp i (nI 1)) (upd sd i (nI z)) (upd (m_cp img f (83 * i) 82) (83 * i + 82) (nI z)) (upd kp' i (nI 1)) := by
  intro j hj
  by_cases e1 : j = i
  · subst e1
    rw [pk_us, pk_us, pk_us, va_up_self]
    refine ⟨Or.inr rfl, rfl, fun _ => ⟨he.cong hS hW (cpE_eq _ _) (fun k hk => ?_), z, hz, rfl, pk_us⟩⟩
    rw [pk_un (by omega), cp_at, if_pos (by omega)]
    congr 1
    omega
  · obtain ⟨h1, h2, h3⟩ := h j hj
    rw [pk_un e1, pk_un e1, pk_un e1, up_o e1]
    refine ⟨h1, h2, fun q => ?_⟩
    obtain ⟨h4, y, hy, h5, h6⟩ := h3 q
    refine ⟨h4.congF hS hW (fun k hk => ?_), y, hy, h5, ?_⟩
    · rw [pk_un (by omega), cp_at, if_neg (by omega)]
    · rw [pk_un (by omega), cp_at, if_neg (by omega)]
      exact h6
theorem img_0 {S W S' W' : Nat} {V V' : Nat → Ev} {kp sd img kp' : Nat → Int32} (_ : rImg S W V kp sd img kp') : rImg S' W' V' (upd (upd kp 0 (nI 0)) 1 (nI 0)) sd img (upd (upd kp' 0 (nI 0)) 1 (nI 0)) := by
  intro j hj
  have e : ∀ f : Nat → Int32, upd (upd f 0 (nI 0)) 1 (nI 0) j = nI 0 := fun f => by
    by_cases e1 : j = 1
    · rw [e1, pk_us]
    · rw [pk_un e1, show j = 0 by omega, pk_us]
  rw [e, e]
  exact ⟨Or.inl rfl, rfl, fun z => absurd z (by decide)⟩
