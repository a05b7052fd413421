/-! places: class and model -/
theorem cq_at (f h : Nat → Int32) : ∀ n j : Nat, m_cq f h n j = if j < n then h j else f j
  | 0, j => by rw [if_neg (by omega)]; rfl
  | n + 1, j => by
    show upd (m_cq f h n) n (h n) j = _
    by_cases e : j = n
    · subst e; rw [pk_us, if_pos (by omega)]
    · rw [pk_un e, cq_at f h n j]
      by_cases e2 : j < n
      · rw [if_pos e2, if_pos (by omega)]
      · rw [if_neg e2, if_neg (by omega)]
theorem nn_at (f : Nat → Int32) : ∀ n j : Nat, j < n → k_nn f n j = (-1)
  | 0, j, h => absurd h (Nat.not_lt_zero _)
  | n + 1, j, h => by
    show upd (k_nn f n) n (-1) j = _
    by_cases e : j = n
    · rw [e, pk_us]
    · rw [pk_un e]; exact nn_at f n j (by omega)
theorem fiI_at (v : Nat → Nat → Int32) (a : Nat) (f : Nat → Int32) : ∀ S j : Nat, fiI v a f S j = if a * 6 ≤ j ∧ j < a * 6 + S then v a (j - a * 6) else f j
  | 0, j => by rw [if_neg (by omega)]; rfl
  | S + 1, j => by
    show upd (fiI v a f S) (a * 6 + S) (v a S) j = _
    by_cases e : j = a * 6 + S
    · subst e; rw [pk_us, if_pos (by omega), show a * 6 + S - a * 6 = S by omega]
    · rw [pk_un e, fiI_at v a f S j]
      by_cases e2 : a * 6 ≤ j ∧ j < a * 6 + S
      · rw [if_pos e2, if_pos (by omega)]
      · rw [if_neg e2, if_neg (by omega)]
theorem fiO_at (v : Nat → Nat → Int32) {S : Nat} (hS : S ≤ 6) (f : Nat → Int32) {s : Nat} (hs : s < S) : ∀ W a : Nat, a < W → fiO v S f W (a * 6 + s) = v a s
  | 0, a, h => absurd h (Nat.not_lt_zero _)
  | W + 1, a, h => by
    show fiI v W (fiO v S f W) S (a * 6 + s) = _
    rw [fiI_at]
    by_cases e : a = W
    · subst e
      rw [if_pos (by omega), show a * 6 + s - a * 6 = s by omega]
    · rw [if_neg (by omega)]
      exact fiO_at v hS f hs W a (by omega)
def pqU (stp : Nat → PB → PB) : Nat → PB → PB
  | 0, st => st
  | k + 1, st => stp k (pqU stp k st)
theorem pqF_U (stp : Nat → PB → PB) (st : PB) : ∀ m s : Nat, pqF stp m s (pqU stp s st) = pqU stp (s + m) st
  | 0, s => rfl
  | m + 1, s => by
    show pqF stp m (s + 1) (stp s (pqU stp s st)) = _
    rw [show stp s (pqU stp s st) = pqU stp (s + 1) st from rfl, pqF_U stp st m (s + 1), show s + 1 + m = s + (m + 1) by omega]
theorem pqU_id {stp : Nat → PB → PB} {st : PB} (h : ∀ s, stp s st = st) : ∀ k, pqU stp k st = st
  | 0 => rfl
  | k + 1 => by
    show stp k (pqU stp k st) = st
    rw [pqU_id h k]; exact h k
theorem pq_noop {S W : Nat} {dr : Nat → Int32} {m : Nat} {be : Nat → Int32} (hm : m ≤ 5) : ∀ (d w : Nat) (cl tk : Int32) (c : Nat) (ch : Nat → Int32), c + d ≤ m → pq S W dr d w cl tk c ch (nI m, be) = (nI m, be)
  | 0, w, cl, tk, c, ch, h => if_pos ((nI_leI (by omega) (by omega)).mpr (by omega))
  | d + 1, w, cl, tk, c, ch, h => by
    rw [pq_s]
    have e : pqF (pqS S W dr d w cl tk c ch) S 0 (nI m, be) = (nI m, be) := by
      have := pqF_U (pqS S W dr d w cl tk c ch) (nI m, be) S 0
      rw [show pqU (pqS S W dr d w cl tk c ch) 0 (nI m, be) = (nI m, be) from rfl] at this
      rw [this]
      refine pqU_id (fun s => ?_) _
      unfold pqS
      split
      · exact pq_noop hm d _ _ _ _ _ (by omega)
      · rfl
    rw [e]
    exact pq_noop hm d _ _ _ _ _ (by omega)
/-- the two states of a search -/
def rQ (W : Nat) (st : PF) (qt : PB) : Prop := qt.1 = nI st.1 ∧ ∀ k, k < W → qt.2 k = st.2.2 k
def rQ0 (W : Nat) (st : PF) (qt : PB) : Prop := qt.1 = (-1) ∧ st.1 = 0 ∧ ∀ k, k < W → st.2.2 k = (-1)
theorem pf_pq {S W : Nat} {dr dr' : Nat → Int32} (hS : S ≤ 6) (hW : W ≤ 5) (hdr : ∀ a s, a < W → s < S → dr' (a * 6 + s) = dr (a * 6 + s)) : ∀ (d w : Nat) (cl tk : Int32) (c : Nat) (ch : Nat → Int32) (st : PF) (qt : PB), w + d = W → c ≤ w → st.1 ≤ 5 → (∀ k, k < w → st.2.1 k = ch k) → (c = 0 → ∀ k, k < w → ch k = (-1)) → (rQ W st qt ∨ rQ0 W st qt) →
    rQ W (pf S W dr d w cl tk c st) (pq S W dr' d w cl tk c ch qt) ∧ ∀ k, k < w → (pf S W dr d w cl tk c st).2.1 k = ch k := by
  intro d
  induction d with
  | zero =>
    intro w cl tk c ch st qt hw hc hm hch h0 hR
    by_cases e : c + W - w ≤ st.1
    · rw [pf_stop e]
      refine ⟨?_, hch⟩
      rcases hR with hR | hR
      · have : pq S W dr' 0 w cl tk c ch qt = qt := if_pos (by rw [hR.1]; exact (nI_leI (by omega) (by omega)).mpr (by omega))
        rw [this]; exact hR
      · have hc0 : c = 0 := by have := hR.2.1; omega
        have : pq S W dr' 0 w cl tk c ch qt = (nI c, m_cq qt.2 ch W) := if_neg (by rw [hR.1, hc0]; decide)
        rw [this]
        refine ⟨by rw [hc0, hR.2.1], fun k hk => ?_⟩
        rw [hR.2.2 k hk]
        show m_cq qt.2 ch W k = _
        rw [cq_at, if_pos hk]
        exact h0 hc0 k (by omega)
    · rw [pf_leaf e]
      have hq : pq S W dr' 0 w cl tk c ch qt = (nI c, m_cq qt.2 ch W) := if_neg (by
        rcases hR with hR | hR
        · rw [hR.1]; exact fun z => e (by have := (nI_leI (by omega) (by omega)).mp z; omega)
        · rw [hR.1]
          intro z
          rw [zf_le, nI_toInt (by omega)] at z
          have : Int32.toInt (-1) = -1 := by decide
          omega)
      rw [hq]
      refine ⟨⟨rfl, fun k hk => ?_⟩, hch⟩
      show m_cq qt.2 ch W k = m_cq st.2.2 st.2.1 W k
      rw [cq_at, cq_at, if_pos hk, if_pos hk, hch k (by omega)]
  | succ d ih =>
    intro w cl tk c ch st qt hw hc hm hch h0 hR
    by_cases e : c + W - w ≤ st.1
    · rw [pf_stop e]
      refine ⟨?_, hch⟩
      rcases hR with hR | hR
      · obtain ⟨q1, q2⟩ := qt
        have e1 : q1 = nI st.1 := hR.1
        subst e1
        rw [pq_noop hm (d + 1) w cl tk c ch (by omega)]; exact hR
      · exact absurd hR.2.1 (by omega)
    · rw [pf_go e, pq_s]
      have key : ∀ k, k ≤ S → (rQ W (pfA S W dr d w cl tk c st k) (pqU (pqS S W dr' d w cl tk c ch) k qt) ∨ rQ0 W (pfA S W dr d w cl tk c st k) (pqU (pqS S W dr' d w cl tk c ch) k qt)) ∧ (pfA S W dr d w cl tk c st k).1 ≤ 5 ∧ ∀ j, j < w → (pfA S W dr d w cl tk c st k).2.1 j = ch j := by
        intro k
        induction k with
        | zero => exact fun _ => ⟨hR, hm, hch⟩
        | succ s ihs =>
          intro hs
          obtain ⟨i1, i2, i3⟩ := ihs (by omega)
          have c1 := has_bt0 tk (k := s) (by omega)
          have c2 := has_bt tk (k := s) (by omega)
          have hd := hdr w s (by omega) (by omega)
          show (rQ W _ (pqS S W dr' d w cl tk c ch s (pqU (pqS S W dr' d w cl tk c ch) s qt)) ∨ rQ0 W _ (pqS S W dr' d w cl tk c ch s (pqU (pqS S W dr' d w cl tk c ch) s qt))) ∧ _
          unfold pqS
          rw [hd, c2]
          by_cases v : bt tk s = false ∧ ¬ dr (w * 6 + s) = 0 ∧ dr (w * 6 + s) &&& cl = 0
          · rw [if_pos v, pfA_t (c1.mpr v.1) v.2.1 v.2.2]
            obtain ⟨j1, j2⟩ := ih (w + 1) (cl ||| dr (w * 6 + s)) (tk ||| (nI 1 <<< (nI s &&& 31))) (c + 1) (upd ch w (nI s)) ((pfA S W dr d w cl tk c st s).1, upd (pfA S W dr d w cl tk c st s).2.1 w (nI s), (pfA S W dr d w cl tk c st s).2.2) (pqU (pqS S W dr' d w cl tk c ch) s qt) (by omega) (by omega) i2 (fun k hk => by
              by_cases z : k = w
              · show upd _ w (nI s) k = upd ch w (nI s) k
                rw [z, pk_us, pk_us]
              · show upd _ w (nI s) k = upd ch w (nI s) k
                rw [pk_un z, pk_un z]; exact i3 k (by omega)) (fun z => by omega) i1
            refine ⟨Or.inl j1, pf_le d _ _ _ _ _ (by omega) i2, fun j hj => ?_⟩
            rw [j2 j (by omega), pk_un (by omega)]
          · rw [if_neg v, pfA_f (fun z => v ⟨c1.mp z.1, z.2⟩)]
            exact ⟨i1, i2, i3⟩
      obtain ⟨k1, k2, k3⟩ := key S (Nat.le_refl _)
      have eU : pqF (pqS S W dr' d w cl tk c ch) S 0 qt = pqU (pqS S W dr' d w cl tk c ch) S qt := by
        have := pqF_U (pqS S W dr' d w cl tk c ch) qt S 0
        rw [Nat.zero_add] at this
        exact this
      rw [eU]
      obtain ⟨j1, j2⟩ := ih (w + 1) cl tk c (upd ch w (-1)) ((pfA S W dr d w cl tk c st S).1, upd (pfA S W dr d w cl tk c st S).2.1 w (-1), (pfA S W dr d w cl tk c st S).2.2) (pqU (pqS S W dr' d w cl tk c ch) S qt) (by omega) (by omega) k2 (fun k hk => by
        by_cases z : k = w
        · show upd _ w (-1) k = upd ch w (-1) k
          rw [z, pk_us, pk_us]
        · show upd _ w (-1) k = upd ch w (-1) k
          rw [pk_un z, pk_un z]; exact k3 k (by omega)) (fun z k hk => by
        by_cases q : k = w
        · rw [q, pk_us]
        · rw [pk_un q]; exact h0 z k (by omega)) k1
      exact ⟨j1, fun k hk => by rw [j2 k (by omega), pk_un (by omega)]⟩
theorem places_eq {S W : Nat} {dr dr' : Nat → Int32} (hS : S ≤ 6) (hW : W ≤ 5) (hdr : ∀ a s, a < W → s < S → dr' (a * 6 + s) = dr (a * 6 + s)) (c1 c2 b' : Nat → Int32) (p : Nat → Nat) : nI (pf S W dr W 0 (nI 0) (nI 0) 0 (0, k_nn c1 5, k_nn c2 5)).1 = (pq S W dr' W 0 (nI 0) (nI 0) 0 (chP S p) ((-1), b')).1 ∧ ∀ k, k < W → (pf S W dr W 0 (nI 0) (nI 0) 0 (0, k_nn c1 5, k_nn c2 5)).2.2 k = (pq S W dr' W 0 (nI 0) (nI 0) 0 (chP S p) ((-1), b')).2 k := by
  obtain ⟨h1, -⟩ := pf_pq hS hW hdr W 0 (nI 0) (nI 0) 0 (chP S p) (0, k_nn c1 5, k_nn c2 5) ((-1), b') (by omega) (Nat.le_refl _) (Nat.zero_le _) (fun k hk => absurd hk (Nat.not_lt_zero _)) (fun _ k hk => absurd hk (Nat.not_lt_zero _)) (Or.inr ⟨rfl, rfl, fun k hk => nn_at c2 5 k (by omega)⟩)
  exact ⟨h1.1.symm, fun k hk => (h1.2 k hk).symm⟩
