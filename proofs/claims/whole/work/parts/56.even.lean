/-! dusks, draws: class and model -/
theorem evA_c {e : Ev} {f f' : Nat → Int32} (h : evA e f) (hf : ∀ k, k < 6 → f' k = f k) : evA e f' := by
  unfold evA at h ⊢
  rw [hf 0 (by decide), hf 1 (by decide), hf 2 (by decide), hf 3 (by decide), hf 4 (by decide), hf 5 (by decide)]
  exact h
theorem evS_c {S W : Nat} {st f f' : Nat → Int32} (hS : S ≤ 6) (h : evS S W st f) (hf : ∀ k, 6 ≤ k → k < 12 → f' k = f k) : evS S W st f' := ⟨fun s hs => by rw [hf _ (by omega) (by omega)]; exact h.1 s hs, h.2.1, fun s w hs hw => by rw [hf _ (by omega) (by omega)]; exact h.2.2 s w hs hw⟩
theorem evL_c {W : Nat} {l f f' : Nat → Int32} (hW : W ≤ 5) (h : evL W l f) (hf : ∀ k, 12 ≤ k → k < 17 → f' k = f k) : evL W l f' := fun w hw => by rw [hf _ (by omega) (by omega)]; exact h w hw
theorem evG_c {gl f f' : Nat → Int32} (h : evG gl f) (hf : ∀ k, 17 ≤ k → k < 21 → f' k = f k) : evG gl f' := fun q hq => by rw [hf _ (by omega) (by omega)]; exact h q hq
theorem evB_c {sz nx : Nat} {aw as_ ad_ f f' : Nat → Int32} (h : evB sz nx aw as_ ad_ f) (hf : ∀ k, 21 ≤ k → k < 82 → f' k = f k) : evB sz nx aw as_ ad_ f' := by
  obtain ⟨b1, b2, b3, b4⟩ := h
  refine ⟨by rw [hf _ (by decide) (by decide)]; exact b1, b2, b3, fun i hi => ?_⟩
  rw [hf _ (by omega) (by omega), hf _ (by omega) (by omega), hf _ (by omega) (by omega)]
  exact b4 i hi
theorem shA_at (f : Nat → Int32) : ∀ i j : Nat, m_shA f i j = if 22 ≤ j ∧ j < 22 + i then f (j + 3) else f j
  | 0, j => by
    rw [if_neg (by omega)]; rfl
  | i + 1, j => by
    show upd (m_shA f i) (22 + i) (m_shA f i (22 + i + 3)) j = _
    by_cases e : j = 22 + i
    · subst e
      rw [pk_us, shA_at f i, if_neg (by omega), if_pos (by omega)]
    · rw [pk_un e, shA_at f i]
      by_cases e2 : 22 ≤ j ∧ j < 22 + i
      · rw [if_pos e2, if_pos (by omega)]
      · rw [if_neg e2, if_neg (by omega)]
theorem evB_kp {sz nx : Nat} {aw as_ ad_ f : Nat → Int32} (k s v : Int32) (h : evB sz nx aw as_ ad_ f) : evB (min (sz + 1) 20) ((nx + 1) % 20) (upd aw nx k) (upd as_ nx s) (upd ad_ nx v) (m_kp f (cN f) k s v) := by
  obtain ⟨b1, b2, b3, b4⟩ := h
  have hc : cN f = sz := by unfold cN; rw [b1]; exact nI_clamp (by omega)
  rw [hc]
  unfold m_kp
  by_cases e : sz = 20
  · rw [if_pos e]
    subst e
    refine ⟨pk_us, by omega, by omega, fun i hi => ?_⟩
    rw [show min (20 + 1) 20 = 20 from rfl] at hi ⊢
    by_cases e0 : i = 0
    · subst e0
      rw [show (((nx + 1) % 20) + 39 - 0) % 20 = nx by omega]
      refine ⟨?_, ?_, ?_⟩
      · rw [pk_us]; rfl
      · rw [pk_us]; rfl
      · rw [pk_us]; rfl
    · have hn : ((nx + 1) % 20 + 39 - i) % 20 = (nx + 39 - (i - 1)) % 20 := by omega
      have hne : (nx + 39 - (i - 1)) % 20 ≠ nx := by omega
      obtain ⟨c1, c2, c3⟩ := b4 (i - 1) (by omega)
      rw [hn, pk_un hne, pk_un hne, pk_un hne, ← c1, ← c2, ← c3]
      refine ⟨?_, ?_, ?_⟩
      all_goals
        rw [pk_un (by omega), pk_un (by omega), pk_un (by omega), pk_un (by omega), pk_un (by omega), shA_at, if_pos (by omega)]
        congr 1
        omega
  · rw [if_neg e]
    unfold m_ko
    refine ⟨by rw [pk_us, show min (sz + 1) 20 = sz + 1 by omega], by omega, by omega, fun i hi => ?_⟩
    rw [show min (sz + 1) 20 = sz + 1 by omega] at hi ⊢
    by_cases e0 : i = 0
    · subst e0
      rw [show (((nx + 1) % 20) + 39 - 0) % 20 = nx by omega, show sz + 1 - 1 - 0 = sz by omega]
      refine ⟨?_, ?_, ?_⟩
      · rw [pk_us, pk_un (by omega), pk_un (by omega), pk_un (by omega), pk_us]
      · rw [pk_us, pk_un (by omega), pk_un (by omega), pk_us]
      · rw [pk_us, pk_un (by omega), pk_us]
    · have hn : ((nx + 1) % 20 + 39 - i) % 20 = (nx + 39 - (i - 1)) % 20 := by omega
      have hne : (nx + 39 - (i - 1)) % 20 ≠ nx := by omega
      obtain ⟨c1, c2, c3⟩ := b4 (i - 1) (by omega)
      rw [hn, pk_un hne, pk_un hne, pk_un hne, ← c1, ← c2, ← c3]
      refine ⟨?_, ?_, ?_⟩
      all_goals
        rw [pk_un (by omega), pk_un (by omega), pk_un (by omega), pk_un (by omega)]
        congr 1
        omega
theorem who_c {f f' : Nat → Int32} {x : Int32} (hf : ∀ k, 6 ≤ k → k < 12 → f' k = f k) : ∀ S, S ≤ 6 → m_who f' x S = m_who f x S
  | 0, _ => rfl
  | S + 1, h => by
    unfold m_who
    rw [hf _ (by omega) (by omega), who_c hf S (by omega)]
theorem dA_c {S G : Nat} {o f f' : Nat → Int32} {w : Nat} (hS : S ≤ 6) (hw : w < 5) (hf : ∀ k, k < 21 → f' k = f k) : dA S G o f' w = dA S G o f w := by
  unfold dA dW
  rw [who_c (fun k _ h2 => hf k (by omega)) S hS, hf 4 (by decide), hf 5 (by decide), hf (12 + w) (by omega), hf 1 (by decide), hf 2 (by decide), hf 3 (by decide)]
/-- the album behind some windows of a dusk -/
theorem al_eq {S W : Nat} {e : Ev} {f : Nat → Int32} (hS : S ≤ 6) (hW : W ≤ 5) (h : EvR S W e f) (G : Nat) {o o' : Nat → Int32} (ho : ∀ s, s < S → o' s = o s) : ∀ k, k ≤ W → evB (eAl S G o e k).1 (eAl S G o e k).2.1 (eAl S G o e k).2.2.1 (eAl S G o e k).2.2.2.1 (eAl S G o e k).2.2.2.2 (m_pp S G o' f k)
  | 0, _ => h.2.2.2.2
  | k + 1, hk => by
    have ih := al_eq hS hW h G ho k (by omega)
    have ed : dA S G o' (m_pp S G o' f k) k = eAt S G o e k := by
      rw [dA_c hS (by omega) (fun j hj => m_pp_lo hj k), at_eq hS hW h G ho (by omega)]
    have ew : m_who (m_pp S G o' f k) (nI k) S = e.2.2.1 k := by
      rw [who_c (fun j _ hj => m_pp_lo (by omega) k) S hS, who_eq hS h.2.1 (by omega)]
    unfold m_pp eAl
    rw [ed, ew]
    by_cases q : eAt S G o e k = nI 0
    · rw [if_pos q, if_pos q]; exact ih
    · rw [if_neg q, if_neg q]
      exact evB_kp _ _ _ ih
theorem w1_eq {u : Nat} (hu : u ≤ 6) : m_by u + m_w1 (m_by u) = k_w1 (m_by u) ∧ ∃ v : Nat, v ≤ 6 ∧ k_w1 (m_by u) = m_by v := by
  have key : ∀ u : Fin 7, m_by u.val + m_w1 (m_by u.val) = k_w1 (m_by u.val) ∧ ∃ v : Fin 7, k_w1 (m_by u.val) = m_by v.val := by decide +kernel
  obtain ⟨h1, v, h2⟩ := key ⟨u, by omega⟩
  exact ⟨h1, v.val, by omega, h2⟩
theorem pe_hi (f : Nat → Int32) (dk : Nat) {k : Nat} (hk : 6 ≤ k) : m_pe f dk k = f k := by
  unfold m_pe
  rw [pk_un (by omega), pk_un (by omega), pk_un (by omega), pk_un (by omega), pk_un (by omega), pk_un (by omega)]
/-- a dusk -/
theorem pass_eq {S W : Nat} {e : Ev} {f : Nat → Int32} (hS : S ≤ 6) (hW : W ≤ 5) (h : EvR S W e f) (G : Nat) {o o' : Nat → Int32} (ho : ∀ s, s < S → o' s = o s) {dk : Nat} (hdk : e.1.2.2.2.2.2.1 = dk) (hd : dk < 9060) : EvR S W (ePass S G W o e) (m_pe (m_pp S G o' f W) dk) := by
  have hB := al_eq hS hW h G ho W (Nat.le_refl _)
  have lo : ∀ j, j < 21 → m_pp S G o' f W j = f j := fun j hj => m_pp_lo hj W
  obtain ⟨⟨f0, -, ⟨u, hu, eu⟩, f1, -, -, f3, -, -⟩, hs, hl, hg, -⟩ := h
  obtain ⟨w1, v, hv, w2⟩ := w1_eq hu
  refine ⟨⟨?_, ?_, ⟨v, hv, ?_⟩, ?_, ⟨0, by decide, rfl⟩, ?_, ?_, ?_, ?_⟩, ?_, ?_, ?_, ?_⟩
  · show m_pe _ dk 0 = nI (e.1.2.2.2.2.2.1 + 1)
    rw [hdk]; rfl
  · show e.1.2.2.2.2.2.1 + 1 ≤ 9060
    omega
  · show k_w1 e.1.1 = m_by v
    rw [eu]; exact w2
  · show m_pp S G o' f W 1 + m_w1 (m_pp S G o' f W 1) = k_w1 e.1.1
    rw [lo 1 (by decide), f1, eu]; exact w1
  · rfl
  · show (if dk % 3 = 2 then nI 0 else m_pp S G o' f W 3) = if e.1.2.2.2.2.2.1 % 3 = 2 then nI 0 else e.1.2.2.1
    rw [lo 3 (by decide), f3, hdk]
  · rfl
  · rfl
  · exact evS_c hS hs (fun k h1 h2 => by rw [pe_hi _ _ h1]; exact lo k (by omega))
  · exact evL_c hW hl (fun k h1 h2 => by rw [pe_hi _ _ (by omega)]; exact lo k (by omega))
  · exact evG_c hg (fun k h1 h2 => by rw [pe_hi _ _ (by omega)]; exact lo k (by omega))
  · exact evB_c hB (fun k h1 h2 => pe_hi _ _ (by omega))
theorem ps_eq {S W : Nat} {e : Ev} {f : Nat → Int32} (hS : S ≤ 6) (hW : W ≤ 5) (h : EvR S W e f) (G : Nat) {o o' : Nat → Int32} (ho : ∀ s, s < S → o' s = o s) {dk : Nat} (hdk : e.1.2.2.2.2.2.1 = dk) (hd : dk ≤ 9000) : ∀ i, i ≤ 60 → EvR S W (eIt S G W o e i) (m_ps S G W o' f dk i)
  | 0, _ => h
  | i + 1, hi => pass_eq hS hW (ps_eq hS hW h G ho hdk hd i (by omega)) G ho (by rw [eIt_d i, hdk]) (by omega)
/-- one more stands -/
theorem mv_at (f : Nat → Int32) {x : Int32} (hx : ¬ x = (-1)) : ∀ k j : Nat, k_mv f x k j = if j < k ∧ f j = x then (-1) else f j
  | 0, j => by rw [if_neg (by omega)]; rfl
  | k + 1, j => by
    unfold k_mv
    rw [mv_at f hx k k, if_neg (show ¬ (k < k ∧ f k = x) by omega)]
    by_cases e : f k = x
    · rw [if_pos e]
      by_cases e2 : j = k
      · subst e2
        rw [pk_us, if_pos ⟨by omega, e⟩]
      · rw [pk_un e2, mv_at f hx k j]
        by_cases e3 : j < k ∧ f j = x
        · rw [if_pos e3, if_pos ⟨by omega, e3.2⟩]
        · rw [if_neg e3, if_neg (fun z => e3 ⟨by omega, z.2⟩)]
    · rw [if_neg e, mv_at f hx k j]
      by_cases e3 : j < k ∧ f j = x
      · rw [if_pos e3, if_pos ⟨by omega, e3.2⟩]
      · rw [if_neg e3, if_neg (fun z => e3 ⟨by
          have := z.1
          by_cases e4 : j = k
          · exact absurd (e4 ▸ z.2) e
          · omega, z.2⟩)]
theorem evS_stand {S W : Nat} {st f : Nat → Int32} (hS : S ≤ 6) (hW : W ≤ 5) (h : evS S W st f) {s w : Nat} (hs : s < S) (hw : w < W) (hx : st w = (-1)) : evS S W (upd (k_mv st (nI s) 5) w (nI s)) (upd f (6 + s) (nI w)) := by
  have hn : ∀ j : Nat, j < 6 → ¬ nI j = (-1) := fun j hj => nI_nm1 (by omega)
  have hmv : ∀ j : Nat, j < 5 → k_mv st (nI s) 5 j = if st j = nI s then (-1) else st j := fun j hj => by
    rw [mv_at st (hn s (by omega)) 5 j]
    by_cases e : st j = nI s
    · rw [if_pos ⟨hj, e⟩, if_pos e]
    · rw [if_neg (fun z => e z.2), if_neg e]
  refine ⟨fun s' hs' => ?_, fun w' hw' => ?_, fun s' w' hs' hw' => ?_⟩
  · by_cases e : s' = s
    · subst e; rw [pk_us]; exact Or.inr ⟨w, hw, rfl⟩
    · rw [pk_un (by omega)]; exact h.1 s' hs'
  · by_cases e : w' = w
    · subst e; rw [pk_us]; exact Or.inr ⟨s, hs, rfl⟩
    · rw [pk_un e, hmv w' hw']
      by_cases e2 : st w' = nI s
      · rw [if_pos e2]; exact Or.inl rfl
      · rw [if_neg e2]; exact h.2.1 w' hw'
  · by_cases e : s' = s
    · subst e
      rw [pk_us]
      by_cases e2 : w' = w
      · subst e2; rw [pk_us]; exact ⟨fun _ => rfl, fun _ => rfl⟩
      · rw [pk_un e2, hmv w' hw']
        constructor
        · intro z
          exact absurd ((nI_eq (by omega) (by omega)).mp z).symm e2
        · intro z
          by_cases e3 : st w' = nI s'
          · rw [if_pos e3] at z; exact absurd z.symm (hn s' (by omega))
          · rw [if_neg e3] at z; exact absurd z e3
    · rw [pk_un (by omega)]
      by_cases e2 : w' = w
      · subst e2
        rw [pk_us]
        constructor
        · intro z
          have := (h.2.2 s' w' hs' hw').mp z
          rw [hx] at this
          exact absurd this.symm (hn s' (by omega))
        · intro z
          exact absurd ((nI_eq (by omega) (by omega)).mp z).symm e
      · rw [pk_un e2, hmv w' hw']
        have c := h.2.2 s' w' hs' hw'
        by_cases e3 : st w' = nI s
        · rw [if_pos e3]
          constructor
          · intro z
            exact absurd ((nI_eq (by omega) (by omega)).mp ((c.mp z).symm.trans e3)) e
          · intro z
            exact absurd z.symm (hn s' (by omega))
        · rw [if_neg e3]; exact c
theorem evS_go {S W : Nat} {st f : Nat → Int32} (hS : S ≤ 6) (hW : W ≤ 5) (h : evS S W st f) {s w : Nat} (hs : s < S) (hw : w < W) (hx : f (6 + s) = nI w) : evS S W (upd st w (-1)) (upd f (6 + s) (-1)) := by
  have hn : ∀ j : Nat, j < 6 → ¬ nI j = (-1) := fun j hj => nI_nm1 (by omega)
  have hst := (h.2.2 s w hs (by omega)).mp hx
  refine ⟨fun s' hs' => ?_, fun w' hw' => ?_, fun s' w' hs' hw' => ?_⟩
  · by_cases e : s' = s
    · subst e; rw [pk_us]; exact Or.inl rfl
    · rw [pk_un (by omega)]; exact h.1 s' hs'
  · by_cases e : w' = w
    · subst e; rw [pk_us]; exact Or.inl rfl
    · rw [pk_un e]; exact h.2.1 w' hw'
  · by_cases e : s' = s
    · subst e
      rw [pk_us]
      by_cases e2 : w' = w
      · subst e2; rw [pk_us]; exact ⟨fun z => absurd z.symm (hn w' (by omega)), fun z => absurd z.symm (hn s' (by omega))⟩
      · rw [pk_un e2]
        constructor
        · intro z; exact absurd z.symm (nI_nm1 (by omega))
        · intro z
          have := (h.2.2 s' w' hs' hw').mpr z
          exact absurd ((nI_eq (by omega) (by omega)).mp (this.symm.trans hx)) e2
    · rw [pk_un (by omega)]
      by_cases e2 : w' = w
      · subst e2
        rw [pk_us]
        constructor
        · intro z
          have := (h.2.2 s' w' hs' hw').mp z
          exact absurd ((nI_eq (by omega) (by omega)).mp (this.symm.trans hst)) e
        · intro z; exact absurd z.symm (hn s' (by omega))
      · rw [pk_un e2]; exact h.2.2 s' w' hs' hw'
theorem wo_eq {S W : Nat} {st f : Nat → Int32} (hS : S ≤ 6) (hW : W ≤ 5) (h : evS S W st f) {s : Nat} (hs : s < S) : k_wo st (nI s) = f (6 + s) := by
  have c : ∀ w : Nat, w < 5 → (st w = nI s ↔ f (6 + s) = nI w) := fun w hw => (h.2.2 s w hs hw).symm
  unfold k_wo
  have c0 := c 0 (by decide)
  have c1 := c 1 (by decide)
  have c2 := c 2 (by decide)
  have c3 := c 3 (by decide)
  have c4 := c 4 (by decide)
  by_cases e0 : st 0 = nI s
  · rw [if_pos e0]; exact (c0.mp e0).symm
  rw [if_neg e0]
  by_cases e1 : st 1 = nI s
  · rw [if_pos e1]; exact (c1.mp e1).symm
  rw [if_neg e1]
  by_cases e2 : st 2 = nI s
  · rw [if_pos e2]; exact (c2.mp e2).symm
  rw [if_neg e2]
  by_cases e3 : st 3 = nI s
  · rw [if_pos e3]; exact (c3.mp e3).symm
  rw [if_neg e3]
  by_cases e4 : st 4 = nI s
  · rw [if_pos e4]; exact (c4.mp e4).symm
  rw [if_neg e4]
  rcases h.1 s hs with z | ⟨w, hw, z⟩
  · exact z.symm
  · have := (c w (by omega)).mpr z
    have hw5 : w = 0 ∨ w = 1 ∨ w = 2 ∨ w = 3 ∨ w = 4 := by omega
    rcases hw5 with q | q | q | q | q <;> subst q <;> contradiction
/-- what a draw does -/
theorem ch_eq {S W : Nat} {e : Ev} {f : Nat → Int32} (hS : S ≤ 6) (hW : W ≤ 5) (h : EvR S W e f) (s : Nat) : (chE s S W e).1 = (chD s S W f).1 ∧ EvR S W (chE s S W e).2 (chD s S W f).2 := by
  obtain ⟨hA, hs, hl, hg, hb⟩ := h
  have hA0 := hA
  obtain ⟨f0, fd, ⟨u, hu, eu⟩, f1, ⟨v, hv, ev⟩, f2, f3, f4, f5⟩ := hA
  have far : ∀ (j : Nat) (x : Int32), j < 6 → evS S W e.2.2.1 (upd f j x) ∧ evL W e.2.1 (upd f j x) ∧ evG e.2.2.2.1 (upd f j x) ∧ evB e.1.2.2.2.2.2.2.1 e.1.2.2.2.2.2.2.2 e.2.2.2.2.1 e.2.2.2.2.2.1 e.2.2.2.2.2.2 (upd f j x) := fun j x hj => ⟨evS_c hS hs (fun k h1 h2 => pk_un (by omega)), evL_c hW hl (fun k h1 h2 => pk_un (by omega)), evG_c hg (fun k h1 h2 => pk_un (by omega)), evB_c hb (fun k h1 h2 => pk_un (by omega))⟩
  unfold chE chD
  by_cases e0 : m_dv s 6 = 0
  · rw [if_pos e0, if_pos e0]
    have := m_dv_lt (m_sd s) (m := 7) (by decide)
    exact ⟨rfl, ⟨f0, fd, ⟨m_dv (m_sd s) 7, by omega, rfl⟩, rfl, ⟨v, hv, ev⟩, f2, f3, f4, f5⟩, far 1 _ (by decide)⟩
  rw [if_neg e0, if_neg e0]
  by_cases e1 : m_dv s 6 = 1
  · rw [if_pos e1, if_pos e1]
    exact ⟨rfl, ⟨f0, fd, ⟨u, hu, eu⟩, f1, ⟨m_dv (m_sd s) 64, m_dv_lt _ (by decide), rfl⟩, rfl, f3, f4, f5⟩, far 2 _ (by decide)⟩
  rw [if_neg e1, if_neg e1]
  by_cases e2 : m_dv s 6 = 2
  · rw [if_pos e2, if_pos e2]
    refine ⟨rfl, ⟨f0, fd, ⟨u, hu, eu⟩, f1, ⟨v, hv, ev⟩, f2, ?_, f4, f5⟩, far 3 _ (by decide)⟩
    show upd f 3 (f 3 ||| (nI 1 <<< (nI (m_dv (m_sd s) 30) &&& 31))) 3 = e.1.2.2.1 ||| (nI 1 <<< (nI (m_dv (m_sd s) 30) &&& 31))
    rw [pk_us, f3]
  rw [if_neg e2, if_neg e2]
  by_cases e3 : m_dv s 6 = 3
  · rw [if_pos e3, if_pos e3]
    exact ⟨rfl, ⟨f0, fd, ⟨u, hu, eu⟩, f1, ⟨v, hv, ev⟩, f2, f3, rfl, f5⟩, far 4 _ (by decide)⟩
  rw [if_neg e3, if_neg e3]
  by_cases e4 : m_dv s 6 = 4
  · rw [if_pos e4, if_pos e4]
    unfold eSt
    by_cases s0 : S = 0
    · rw [if_pos s0, if_pos s0]; exact ⟨rfl, hA0, hs, hl, hg, hb⟩
    rw [if_neg s0, if_neg s0]
    by_cases w0 : W = 0
    · rw [if_pos w0, if_pos w0]; exact ⟨rfl, hA0, hs, hl, hg, hb⟩
    rw [if_neg w0, if_neg w0]
    have ls : m_dv (m_sd s) S < S := m_dv_lt _ (by omega)
    have lw : m_dv (m_sd (m_sd s)) W < W := m_dv_lt _ (by omega)
    rw [who_eq hS hs (show m_dv (m_sd (m_sd s)) W < 5 by omega)]
    generalize m_dv (m_sd s) S = a at *
    generalize m_dv (m_sd (m_sd s)) W = w at *
    by_cases q : e.2.2.1 w = (-1)
    · rw [if_pos q, if_pos q]
      exact ⟨rfl, evA_c hA0 (fun k hk => pk_un (by omega)), evS_stand hS hW hs ls lw q, evL_c hW hl (fun k h1 h2 => pk_un (by omega)), evG_c hg (fun k h1 h2 => pk_un (by omega)), evB_c hb (fun k h1 h2 => pk_un (by omega))⟩
    · rw [if_neg q, if_neg q]
      have hu2 : upd f (6 + a) (f (6 + a)) = f := by
        funext k
        by_cases z : k = 6 + a
        · rw [z, pk_us]
        · rw [pk_un z]
      refine ⟨rfl, ?_⟩
      show EvR S W _ (upd f (6 + a) (f (6 + a)))
      rw [hu2]
      exact ⟨hA0, hs, hl, hg, hb⟩
  · rw [if_neg e4, if_neg e4]; exact ⟨rfl, hA0, hs, hl, hg, hb⟩
theorem df_eq {S W : Nat} {e : Ev} {f : Nat → Int32} (hS : S ≤ 6) (hW : W ≤ 5) (h : EvR S W e f) (G : Nat) {o o' : Nat → Int32} (ho : ∀ s, s < S → o' s = o s) {dk s : Nat} (hdk : e.1.2.2.2.2.2.1 = dk) (hd : dk ≤ 9000) : ∀ i, i ≤ 60 → (eDf S G W o s e i).1 = (m_df S G W o' s f dk i).1 ∧ EvR S W (eDf S G W o s e i).2 (m_df S G W o' s f dk i).2
  | 0, _ => ⟨rfl, h⟩
  | i + 1, hi => by
    obtain ⟨h1, h2⟩ := df_eq hS hW h G ho (s := s) hdk hd i (by omega)
    have hd2 := eDf_d (S := S) (G := G) (W := W) (s := s) (o := o) (e := e) i
    have hc := ch_eq hS hW h2 (eDf S G W o s e i).1
    have h3 := congrArg Prod.fst (chE_at (eDf S G W o s e i).1 S W (eDf S G W o s e i).2)
    unfold eDf m_df
    rw [← h1]
    exact ⟨hc.1, pass_eq hS hW hc.2 G ho (h3.trans (hd2.trans (by rw [hdk]))) (by omega)⟩
