/-! votes, what is told of, the dot to ask: class and model -/
theorem ml_r (o : Nat → Int32) (set lk : Int32) : ∀ s, (k_ml o set lk s).1 = (-1) ∨ ∃ j : Nat, j < s ∧ (k_ml o set lk s).1 = nI j
  | 0 => Or.inl rfl
  | s + 1 => by
    unfold k_ml
    split
    · rcases ml_r o set lk s with h | ⟨j, hj, h⟩
      · exact Or.inl h
      · exact Or.inr ⟨j, by omega, h⟩
    · exact Or.inr ⟨s, by omega, rfl⟩
theorem tz_at (f : Nat → Int32) : ∀ k j : Nat, j < k → k_tz f k j = nI 0
  | 0, j, h => absurd h (Nat.not_lt_zero _)
  | k + 1, j, h => by
    show upd (k_tz f k) k (nI 0) j = _
    by_cases e : j = k
    · rw [e, pk_us]
    · rw [pk_un e]; exact tz_at f k j (by omega)
theorem vo_eq {o o' : Nat → Int32} {set v v' : Int32} {S : Nat} (ho : ∀ s, s < S → o' s = o s) (hD : ∀ s, s < S → isD (o s)) (hs : isD set) (hv : v' = v) (hv2 : ∃ z : Nat, z < 64 ∧ v = nI z) : k_vo o set v S = (m_ml o' set (m_mask v' 30) S).1 := by
  obtain ⟨z, hz, ez⟩ := hv2
  unfold k_vo
  rw [hv, ez, (m_mask_v hz).1]
  exact (ml_eq ho (fun s hs2 => isD_and (isD_xor (hD s hs2) hs)) S (Nat.le_refl _)).1
theorem tv_eq {n' : Nat → Nat} {r' : Nat → Nat → Int32} {o v : Nat → Int32} {set : Int32} {S C : Nat} (hS : S ≤ 6) (e1 : n' 1 = S) (ho : ∀ s, s < S → r' 2 s = o s) (hD : ∀ s, s < S → isD (o s)) (hs : isD set) (hv : ∀ c, c < C → r' 6 c = v c ∧ ∃ z : Nat, z < 64 ∧ v c = nI z) (f : Nat → Int32) {j : Nat} (hj : j < S) : ∀ c, c ≤ C → k_tv o v set S f c j = m_vf n' r' set (nI j) c
  | 0, _ => tz_at f 6 j (by omega)
  | c + 1, hc => by
    have ih := tv_eq hS e1 ho hD hs hv f hj c (by omega)
    have q : (m_ml (r' 2) set (m_mask (r' 6 c) 30) (n' 1)).1 = k_vo o set (v c) S := by
      rw [e1]; exact (vo_eq ho hD hs (hv c (by omega)).1 (hv c (by omega)).2).symm
    unfold k_tv m_vf
    rw [q, ← ih]
    rcases ml_r o set (v c * nI 17043521) S with h | ⟨s, hs2, h⟩
    · have h2 : k_vo o set (v c) S = (-1) := h
      rw [h2, if_neg (by rw [okN_f1 (by decide)]; decide), if_neg (fun z => nI_nm1 (j := j) (by omega) z.symm), nI_0, Int32.add_zero]
    · have h2 : k_vo o set (v c) S = nI s := h
      rw [h2, if_pos (okN_lt hs2 (by omega)), nI_clamp (by omega)]
      by_cases e : j = s
      · subst e; rw [pk_us, if_pos rfl]
      · rw [pk_un e, if_neg (fun z => e ((nI_eq (by omega) (by omega)).mp z).symm), nI_0, Int32.add_zero]
theorem el_eq {n' : Nat → Nat} {r' : Nat → Nat → Int32} {f : Nat → Int32} {set : Int32} {S : Nat} (h : ∀ j, j < S → f j = m_vf n' r' set (nI j) (n' 5)) : ∀ s, s ≤ S → k_el f s = m_el n' r' set s
  | 0, _ => rfl
  | s + 1, hs => by
    unfold k_el m_el
    rw [el_eq h s (by omega), h s (by omega)]
/-- who may be told of -/
theorem fit_eq {t t' : Nat} {g : Nat → Int32} {dt it : Nat → Int32} (h : rTold t (g 0) (g 1) t' dt it) {o al : Int32} {x : Nat} (hx : x < 9) : k_fit g o (nI x) al = (m_so (m_sh o (nI x) 30) dt it t && decide (m_sh o (nI x) 30 &&& al = al)) := by
  unfold k_fit
  rw [sh_eqN o hx, h.2.2.2.2 _ (sh_DN o hx)]
  have c := sub_or (m_sh o (nI x) 30) (g 0) al
  by_cases e1 : m_sh o (nI x) 30 &&& g 0 = g 0
  · by_cases e2 : m_sh o (nI x) 30 &&& al = al
    · rw [decide_eq_true e1, decide_eq_true e2, decide_eq_true (c.mpr ⟨e1, e2⟩)]; simp
    · rw [decide_eq_false e2, decide_eq_false (fun z => e2 (c.mp z).2)]; simp
  · rw [decide_eq_false e1, decide_eq_false (fun z => e1 (c.mp z).1)]; simp
theorem fit0_eq {t t' : Nat} {g : Nat → Int32} {dt it : Nat → Int32} (h : rTold t (g 0) (g 1) t' dt it) {o : Int32} {x : Nat} (hx : x < 9) : k_fit g o (nI x) (nI 0) = m_so (m_sh o (nI x) 30) dt it t := by
  rw [fit_eq h hx, decide_eq_true (and_n0 _), Bool.and_true]
theorem s2_eq {n' : Nat → Nat} {r' : Nat → Nat → Int32} {g : Nat → Int32} {o : Int32} {s : Nat} (h : rTold (n' 27) (g 0) (g 1) (n' 27) (r' 28) (r' 29)) (ho : r' 2 s = o) (a : Int32) : ∀ x, x ≤ 6 → k_s2 g o s a x = m_mb2 n' r' s a x
  | 0, _ => rfl
  | x + 1, hx => by
    unfold k_s2 m_mb2
    rw [s2_eq h ho a x (by omega), fit0_eq h (by omega), ho]
    cases m_so (m_sh o (nI x) 30) (r' 28) (r' 29) (n' 27) with
    | true => rw [if_pos rfl]; rfl
    | false => rw [if_neg (by decide)]; exact (or_n0 _).symm
theorem sf_eq {n' : Nat → Nat} {r' : Nat → Nat → Int32} {g : Nat → Int32} {o : Nat → Int32} {S : Nat} (h : rTold (n' 27) (g 0) (g 1) (n' 27) (r' 28) (r' 29)) (ho : ∀ s, s < S → r' 2 s = o s) : ∀ s, s ≤ S → k_sf g o s = m_mb n' r' s
  | 0, _ => rfl
  | s + 1, hs => by
    unfold k_sf m_mb
    rw [sf_eq h ho s (by omega), s2_eq h (ho s (by omega)) _ 6 (Nat.le_refl _)]
/-- the dot to ask -/
def fB (g o : Nat → Int32) (al : Int32) (b : Nat) : Bool := k_fit g (o (b / 6)) (nI (b % 6)) al
theorem p2_cn (g o : Nat → Int32) (al : Int32) (s : Nat) : ∀ x, x ≤ 6 → k_p2 g (o s) al (cn (fB g o al) (6 * s)) x = cn (fB g o al) (6 * s + x)
  | 0, _ => rfl
  | x + 1, h => by
    have e : fB g o al (6 * s + x) = k_fit g (o s) (nI x) al := by
      unfold fB
      rw [show (6 * s + x) / 6 = s by omega, show (6 * s + x) % 6 = x by omega]
    show (if k_fit g (o s) (nI x) al = true then k_p2 g (o s) al (cn (fB g o al) (6 * s)) x + 1 else k_p2 g (o s) al (cn (fB g o al) (6 * s)) x) = cn (fB g o al) (6 * s + x) + (if fB g o al (6 * s + x) = true then 1 else 0)
    rw [p2_cn g o al s x (by omega), e]
    split <;> rfl
theorem pf_cn (g o : Nat → Int32) (al : Int32) : ∀ s, k_pf g o al s = cn (fB g o al) (6 * s)
  | 0 => rfl
  | s + 1 => by
    unfold k_pf
    rw [pf_cn g o al s, p2_cn g o al s 6 (Nat.le_refl _)]
    rfl
theorem hz_at (f : Nat → Int32) : ∀ k j : Nat, j < k → m_hz f k j = nI 0
  | 0, j, h => absurd h (Nat.not_lt_zero _)
  | k + 1, j, h => by
    show upd (m_hz f k) k (nI 0) j = _
    by_cases e : j = k
    · rw [e, pk_us]
    · rw [pk_un e]; exact hz_at f k j (by omega)
theorem ha_at (f : Nat → Int32) (set : Int32) : ∀ k j : Nat, k ≤ 30 → m_ha f set k j = if j < k then f j + bI (bt set j) else f j
  | 0, j, _ => by rw [if_neg (by omega)]; rfl
  | k + 1, j, h => by
    show upd (m_ha f set k) k (m_ha f set k k + ((set >>> (nI k &&& 31)) &&& nI 1)) j = _
    by_cases e : j = k
    · subst e
      rw [pk_us, ha_at f set j j (by omega), if_neg (by omega), if_pos (by omega), has_val _ (by omega)]
    · rw [pk_un e, ha_at f set k j (by omega)]
      by_cases e2 : j < k
      · rw [if_pos e2, if_pos (by omega)]
      · rw [if_neg e2, if_neg (by omega)]
def soB (n' : Nat → Nat) (r' : Nat → Nat → Int32) (b : Nat) : Bool := m_so (m_as r' b) (r' 28) (r' 29) (n' 27)
theorem ao_cn (n' : Nat → Nat) (r' : Nat → Nat → Int32) : ∀ b, (m_ao n' r' b).1 = cn (soB n' r') b ∧ ∀ j, j < 30 → (m_ao n' r' b).2 j = nI (cn (fun b => soB n' r' b && bt (m_as r' b) j) b)
  | 0 => ⟨rfl, fun j hj => hz_at _ 30 j hj⟩
  | b + 1 => by
    obtain ⟨h1, h2⟩ := ao_cn n' r' b
    have d1 : cn (soB n' r') (b + 1) = cn (soB n' r') b + (if soB n' r' b = true then 1 else 0) := rfl
    have d2 : ∀ j, cn (fun b => soB n' r' b && bt (m_as r' b) j) (b + 1) = cn (fun b => soB n' r' b && bt (m_as r' b) j) b + (if (soB n' r' b && bt (m_as r' b) j) = true then 1 else 0) := fun _ => rfl
    unfold m_ao
    by_cases e : m_so (m_as r' b) (r' 28) (r' 29) (n' 27) = true
    · rw [if_pos e]
      have e' : soB n' r' b = true := e
      refine ⟨by rw [d1, if_pos e', ← h1], fun j hj => ?_⟩
      rw [d2, e']
      show m_ha (m_ao n' r' b).2 (m_as r' b) 30 j = _
      rw [ha_at _ _ 30 j (Nat.le_refl _), if_pos hj, h2 j hj]
      cases bt (m_as r' b) j with
      | true => exact nI_add _ 1
      | false => exact nI_add _ 0
    · rw [if_neg e]
      have e' : soB n' r' b = false := by
        cases hz : soB n' r' b with
        | true => exact absurd hz e
        | false => rfl
      refine ⟨by rw [d1, e', ← h1]; rfl, fun j hj => ?_⟩
      rw [d2, e', h2 j hj]
      rfl
theorem pt_eq (x y : Int32) : (if x ≤ y then y else x) = (if x < y then y else x) := by
  by_cases e : x < y
  · have : x ≤ y := by rw [zf_le]; rw [zf_lt] at e; omega
    rw [if_pos e, if_pos this]
  · rw [if_neg e]
    by_cases e2 : x ≤ y
    · rw [if_pos e2]
      rw [zf_eq]
      rw [zf_le] at e2
      rw [zf_lt] at e
      omega
    · rw [if_neg e2]
theorem ask_eq {n' : Nat → Nat} {r' : Nat → Nat → Int32} {g : Nat → Int32} {o : Nat → Int32} {S : Nat} (h : rTold (n' 27) (g 0) (g 1) (n' 27) (r' 28) (r' 29)) (ho : ∀ s, s < S → r' 2 s = o s) : ∀ k, k ≤ 30 → k_ab (k_pf g o (nI 0) S) (k_D g o S) k = m_ab (m_ao n' r' (6 * S)).2 (m_ao n' r' (6 * S)).1 k := by
  have hf : ∀ b, b < 6 * S → m_as r' b = m_sh (o (b / 6)) (nI (b % 6)) 30 := fun b hb => by
    unfold m_as
    rw [ho (b / 6) (by omega)]
  have p0 : k_pf g o (nI 0) S = (m_ao n' r' (6 * S)).1 := by
    rw [pf_cn, (ao_cn n' r' (6 * S)).1]
    exact cn_c _ (fun b hb => by
      show k_fit g (o (b / 6)) (nI (b % 6)) (nI 0) = m_so (m_as r' b) (r' 28) (r' 29) (n' 27)
      rw [fit0_eq h (by omega), hf b hb])
  have pD : ∀ k, k < 30 → nI (k_D g o S k) = (m_ao n' r' (6 * S)).2 k := fun k hk => by
    rw [(ao_cn n' r' (6 * S)).2 k hk]
    unfold k_D
    rw [pf_cn]
    congr 1
    exact cn_c _ (fun b hb => by
      show k_fit g (o (b / 6)) (nI (b % 6)) (nI 1 <<< (nI k &&& 31)) = (m_so (m_as r' b) (r' 28) (r' 29) (n' 27) && bt (m_as r' b) k)
      rw [fit_eq h (by omega), hf b hb]
      congr 1
      rw [Bool.eq_iff_iff, decide_eq_true_iff]
      exact sub_one _ (by omega))
  intro k
  induction k with
  | zero => intro _; show ((-1 : Int32), nI _) = ((-1 : Int32), nI _); rw [p0]
  | succ k ih =>
    intro hk
    have ih := ih (by omega)
    have e : k_g (k_pf g o (nI 0) S) (k_D g o S k) = m_pt (m_ao n' r' (6 * S)).2 (m_ao n' r' (6 * S)).1 k := by
      unfold k_g m_pt
      rw [pD k (by omega), p0, pt_eq]
    unfold k_ab m_ab
    rw [ih, e]
/-- one more is told of -/
theorem so_c (d : Int32) {dt dt' it it' : Nat → Int32} : ∀ t, (∀ k, k < t → dt' k = dt k ∧ it' k = it k) → m_so d dt' it' t = m_so d dt it t
  | 0, _ => rfl
  | t + 1, h => by
    unfold m_so
    rw [so_c d t (fun k hk => h k (by omega)), (h t (by omega)).1, (h t (by omega)).2]
theorem told_1 {t t' : Nat} {a b : Int32} {dt it : Nat → Int32} (h : rTold t a b t' dt it) (ht : t < 6) {x : Nat} (hx : x < 30) : rTold (t + 1) (a ||| (nI 1 <<< (nI x &&& 31))) b (t' + 1) (upd dt t' (nI x)) (upd it t' (nI 1)) ∧ rTold (t + 1) a (b ||| (nI 1 <<< (nI x &&& 31))) (t' + 1) (upd dt t' (nI x)) (upd it t' (nI 0)) := by
  obtain ⟨e, h6, ha, hb, hd⟩ := h
  subst e
  have hc : ∀ (d : Int32) (v : Int32), m_so d (upd dt t' (nI x)) (upd it t' v) t' = m_so d dt it t' := fun d v => so_c d t' (fun k hk => ⟨pk_un (by omega), pk_un (by omega)⟩)
  refine ⟨⟨rfl, by omega, isD_or ha (isD_one hx), hb, fun d hD => ?_⟩, ⟨rfl, by omega, ha, isD_or hb (isD_one hx), fun d hD => ?_⟩⟩
  · show (m_so d (upd dt t' (nI x)) (upd it t' (nI 1)) t' && decide ((d >>> (upd dt t' (nI x) t' &&& 31)) &&& nI 1 = upd it t' (nI 1) t')) = _
    rw [hc, pk_us, pk_us, hd d hD]
    have c := sub_or d a (nI 1 <<< (nI x &&& 31))
    have c2 := sub_one d (j := x) (by omega)
    have c3 := has_bt1 d (k := x) (by omega)
    by_cases e1 : d &&& a = a
    · by_cases e2 : bt d x = true
      · rw [decide_eq_true e1, decide_eq_true (c3.mpr e2), decide_eq_true (c.mpr ⟨e1, c2.mpr e2⟩)]; simp
      · rw [decide_eq_false (fun z => e2 (c3.mp z)), decide_eq_false (fun z => e2 (c2.mp (c.mp z).2))]; simp
    · rw [decide_eq_false e1, decide_eq_false (fun z => e1 (c.mp z).1)]; simp
  · show (m_so d (upd dt t' (nI x)) (upd it t' (nI 0)) t' && decide ((d >>> (upd dt t' (nI x) t' &&& 31)) &&& nI 1 = upd it t' (nI 0) t')) = _
    rw [hc, pk_us, pk_us, hd d hD]
    have c3 := has_bt0 d (k := x) (by omega)
    have c : (d &&& (b ||| (nI 1 <<< (nI x &&& 31))) = 0) ↔ (d &&& b = 0 ∧ bt d x = false) := by
      constructor
      · intro z
        have hz : ∀ i, i < 32 → (bt d i && (bt b i || decide (i = x))) = false := fun i hi => by
          have := congrArg (fun q => bt q i) z
          simp only [bt_and, bt_or] at this
          rw [bt_one (by omega) hi, show (0 : Int32) = nI 0 from rfl, bt_n0] at this
          exact this
        refine ⟨bt_ext (fun i hi => ?_), ?_⟩
        · have := hz i hi
          rw [bt_and, show (0 : Int32) = nI 0 from rfl, bt_n0]
          revert this
          cases bt d i <;> cases bt b i <;> simp
        · have := hz x (by omega)
          rw [decide_eq_true rfl, Bool.or_true, Bool.and_true] at this
          exact this
      · rintro ⟨z1, z2⟩
        refine bt_ext (fun i hi => ?_)
        have h1 := congrArg (fun q => bt q i) z1
        simp only [bt_and] at h1
        rw [show (0 : Int32) = nI 0 from rfl, bt_n0] at h1
        rw [bt_and, bt_or, bt_one (by omega) hi, show (0 : Int32) = nI 0 from rfl, bt_n0]
        by_cases e : i = x
        · subst e; rw [z2]; rfl
        · rw [decide_eq_false e, Bool.or_false]; exact h1
    by_cases e1 : d &&& b = 0
    · by_cases e2 : bt d x = false
      · rw [decide_eq_true e1, decide_eq_true (c3.mpr e2), decide_eq_true (c.mpr ⟨e1, e2⟩)]; simp
      · rw [decide_eq_false (fun z => e2 (c3.mp z)), decide_eq_false (fun z => e2 (c.mp z).2)]; simp
    · rw [decide_eq_false e1, decide_eq_false (fun z => e1 (c.mp z).1)]; simp
theorem told_0 {dt it : Nat → Int32} : rTold 0 (nI 0) (nI 0) 0 dt it := ⟨rfl, by decide, isD_0, isD_0, fun d _ => by
  rw [decide_eq_true (and_n0 d), decide_eq_true (show d &&& nI 0 = 0 from and_n0 d)]; rfl⟩
