/-! one thing done to an evening -/
section EVU
variable {S W : Nat} {e : Ev} {f : Nat → Int32}
theorem ev_wind (hS : S ≤ 6) (hW : W ≤ 5) (h : EvR S W e f) {u : Nat} (hu : u ≤ 6) : EvR S W ((m_by u, e.1.2), e.2) (upd f 1 (m_by u)) := by
  obtain ⟨⟨f0, fd, -, -, hv, f2, f3, f4, f5⟩, hs, hl, hg, hb⟩ := h
  exact ⟨⟨f0, fd, ⟨u, hu, rfl⟩, pk_us, hv, f2, f3, f4, f5⟩, evS_c hS hs (fun k h1 h2 => pk_un (by omega)), evL_c hW hl (fun k h1 h2 => pk_un (by omega)), evG_c hg (fun k h1 h2 => pk_un (by omega)), evB_c hb (fun k h1 h2 => pk_un (by omega))⟩
theorem ev_bats (hS : S ≤ 6) (hW : W ≤ 5) (h : EvR S W e f) {v : Nat} (hv : v < 64) : EvR S W ((e.1.1, nI v, e.1.2.2), e.2) (upd f 2 (nI v)) := by
  obtain ⟨⟨f0, fd, hu, f1, -, -, f3, f4, f5⟩, hs, hl, hg, hb⟩ := h
  exact ⟨⟨f0, fd, hu, f1, ⟨v, hv, rfl⟩, pk_us, f3, f4, f5⟩, evS_c hS hs (fun k h1 h2 => pk_un (by omega)), evL_c hW hl (fun k h1 h2 => pk_un (by omega)), evG_c hg (fun k h1 h2 => pk_un (by omega)), evB_c hb (fun k h1 h2 => pk_un (by omega))⟩
theorem ev_eyes (hS : S ≤ 6) (hW : W ≤ 5) (h : EvR S W e f) {z z' : Int32} (hz : z' = z) : EvR S W ((e.1.1, e.1.2.1, z, e.1.2.2.2), e.2) (upd f 3 z') := by
  subst hz
  obtain ⟨⟨f0, fd, hu, f1, hv, f2, f3, f4, f5⟩, hs, hl, hg, hb⟩ := h
  exact ⟨⟨f0, fd, hu, f1, hv, f2, pk_us, f4, f5⟩, evS_c hS hs (fun k h1 h2 => pk_un (by omega)), evL_c hW hl (fun k h1 h2 => pk_un (by omega)), evG_c hg (fun k h1 h2 => pk_un (by omega)), evB_c hb (fun k h1 h2 => pk_un (by omega))⟩
theorem ev_rain (hS : S ≤ 6) (hW : W ≤ 5) (h : EvR S W e f) (z : Bool) : EvR S W ((e.1.1, e.1.2.1, e.1.2.2.1, z, e.1.2.2.2.2), e.2) (upd f 4 (bI z)) := by
  obtain ⟨⟨f0, fd, hu, f1, hv, f2, f3, f4, f5⟩, hs, hl, hg, hb⟩ := h
  exact ⟨⟨f0, fd, hu, f1, hv, f2, f3, pk_us, f5⟩, evS_c hS hs (fun k h1 h2 => pk_un (by omega)), evL_c hW hl (fun k h1 h2 => pk_un (by omega)), evG_c hg (fun k h1 h2 => pk_un (by omega)), evB_c hb (fun k h1 h2 => pk_un (by omega))⟩
theorem ev_smoke (hS : S ≤ 6) (hW : W ≤ 5) (h : EvR S W e f) {z z' : Int32} (hz : z' = z) : EvR S W ((e.1.1, e.1.2.1, e.1.2.2.1, e.1.2.2.2.1, z, e.1.2.2.2.2.2), e.2) (upd f 5 z') := by
  subst hz
  obtain ⟨⟨f0, fd, hu, f1, hv, f2, f3, f4, f5⟩, hs, hl, hg, hb⟩ := h
  exact ⟨⟨f0, fd, hu, f1, hv, f2, f3, f4, pk_us⟩, evS_c hS hs (fun k h1 h2 => pk_un (by omega)), evL_c hW hl (fun k h1 h2 => pk_un (by omega)), evG_c hg (fun k h1 h2 => pk_un (by omega)), evB_c hb (fun k h1 h2 => pk_un (by omega))⟩
theorem ev_lamp (hS : S ≤ 6) (hW : W ≤ 5) (h : EvR S W e f) {w v : Nat} (hw : w < W) (hv : v ≤ 5) : EvR S W (e.1, (upd e.2.1 w (nI v), e.2.2)) (upd f (12 + w) (nI v)) := by
  obtain ⟨ha, hs, hl, hg, hb⟩ := h
  refine ⟨evA_c ha (fun k hk => pk_un (by omega)), evS_c hS hs (fun k h1 h2 => pk_un (by omega)), fun q hq => ?_, evG_c hg (fun k h1 h2 => pk_un (by omega)), evB_c hb (fun k h1 h2 => pk_un (by omega))⟩
  by_cases z : q = w
  · subst z
    exact ⟨by rw [pk_us]; exact pk_us.symm, v, hv, pk_us⟩
  · obtain ⟨q1, x, hx, q2⟩ := hl q hq
    exact ⟨by rw [pk_un (by omega)]; exact q1.trans (pk_un z).symm, x, hx, (pk_un z).trans q2⟩
theorem ev_glass (hS : S ≤ 6) (hW : W ≤ 5) (h : EvR S W e f) {q : Nat} (hq : q < 4) {z z' : Int32} (hz : z' = z) : EvR S W (e.1, (e.2.1, e.2.2.1, upd e.2.2.2.1 q z, e.2.2.2.2)) (upd f (17 + q) z') := by
  subst hz
  obtain ⟨ha, hs, hl, hg, hb⟩ := h
  refine ⟨evA_c ha (fun k hk => pk_un (by omega)), evS_c hS hs (fun k h1 h2 => pk_un (by omega)), evL_c hW hl (fun k h1 h2 => pk_un (by omega)), fun i hi => ?_, evB_c hb (fun k h1 h2 => pk_un (by omega))⟩
  by_cases y : i = q
  · subst y; rw [pk_us]; exact pk_us.symm
  · rw [pk_un (by omega)]; exact (hg i hi).trans (pk_un y).symm
theorem ev_stand (hS : S ≤ 6) (hW : W ≤ 5) (h : EvR S W e f) {s w : Nat} (hs : s < S) (hw : w < W) (hx : e.2.2.1 w = (-1)) : EvR S W (e.1, (e.2.1, upd (k_mv e.2.2.1 (nI s) 5) w (nI s), e.2.2.2)) (upd f (6 + s) (nI w)) := by
  obtain ⟨ha, hs2, hl, hg, hb⟩ := h
  exact ⟨evA_c ha (fun k hk => pk_un (by omega)), evS_stand hS hW hs2 hs hw hx, evL_c hW hl (fun k h1 h2 => pk_un (by omega)), evG_c hg (fun k h1 h2 => pk_un (by omega)), evB_c hb (fun k h1 h2 => pk_un (by omega))⟩
theorem ev_go (hS : S ≤ 6) (hW : W ≤ 5) (h : EvR S W e f) {s w : Nat} (hs : s < S) (hw : w < W) (hx : f (6 + s) = nI w) : EvR S W (e.1, (e.2.1, upd e.2.2.1 w (-1), e.2.2.2)) (upd f (6 + s) (-1)) := by
  obtain ⟨ha, hs2, hl, hg, hb⟩ := h
  exact ⟨evA_c ha (fun k hk => pk_un (by omega)), evS_go hS hW hs2 hs hw hx, evL_c hW hl (fun k h1 h2 => pk_un (by omega)), evG_c hg (fun k h1 h2 => pk_un (by omega)), evB_c hb (fun k h1 h2 => pk_un (by omega))⟩
end EVU
theorem text_feed {L L' : Nat} {f f' : Nat → Int32} {g g' x : Int32} (h : rText L f g L' f' g') (hL : L < 240) (hx : okN x 256 = true) : rText (L + 1) (upd f L x) g (L' + 1) (upd f' L' x) g' := by
  obtain ⟨h1, h2, h3, h4, h5⟩ := h
  subst h1
  refine ⟨rfl, by omega, by rw [h3], fun q hq => ?_, h5⟩
  by_cases e : q = L'
  · rw [e, pk_us]; exact okN_n0 hx
  · rw [pk_un e]; exact h4 q (by omega)
theorem in_wind {x : Int32} (h : m_in (Int32.toInt64 x) (-3) (3) = true) : ∃ u : Nat, u ≤ 6 ∧ x = m_by u := by
  unfold m_in at h
  rw [Int32.toInt_toInt64] at h
  simp only [Bool.and_eq_true, decide_eq_true_eq] at h
  have e1 : Int64.toInt (-3) = -3 := by decide
  have e2 : Int64.toInt 3 = 3 := by decide
  rw [e1, e2] at h
  refine ⟨(x.toInt + 3).toNat, by omega, ?_⟩
  unfold m_by
  rw [zf_eq, pk_sub_toInt (by omega) (by decide)]
  omega
theorem in_dusk {x : Int32} (h : m_in (Int32.toInt64 x) 1 (60) = true) : ∃ m : Nat, 1 ≤ m ∧ m ≤ 60 ∧ x = nI m := by
  unfold m_in at h
  rw [Int32.toInt_toInt64] at h
  simp only [Bool.and_eq_true, decide_eq_true_eq] at h
  have e1 : Int64.toInt 1 = 1 := by decide
  have e2 : Int64.toInt 60 = 60 := by decide
  rw [e1, e2] at h
  refine ⟨x.toInt.toNat, by omega, by omega, ?_⟩
  rw [zf_eq, nI_toInt (by omega)]
  omega
theorem cN_ev {S W : Nat} {e : Ev} {f : Nat → Int32} (h : EvR S W e f) : cN f = e.1.2.2.2.2.2.2.1 := by
  have h1 := h.2.2.2.2.1
  have h2 := h.2.2.2.2.2.1
  unfold cN
  rw [h1]
  exact nI_clamp (by omega)
theorem cOk_ev {S W : Nat} {e : Ev} {f : Nat → Int32} (h : EvR S W e f) : cOk f := cOk_of h.2.2.2.2.1 h.2.2.2.2.2.1
theorem img_keep' {S W : Nat} {V : Nat → Ev} {kp sd img kp' f : Nat → Int32} {e : Ev} {i z z' : Nat} (hS : S ≤ 6) (hW : W ≤ 5) (h : rImg S W V kp sd img kp') (he : EvR S W e f) (hi : i < 2) (hz : z < 2 ^ 31) (hz' : z' = z) : rImg S W (va_up V i (cpE e (V i))) (upd kp i (nI 1)) (upd sd i (nI z)) (upd (m_cp img f (83 * i) 82) (83 * i + 82) (nI z')) (upd kp' i (nI 1)) := by
  subst hz'
  exact img_keep hS hW h he hi hz
theorem img_back {S W : Nat} {V : Nat → Ev} {kp sd img kp' f : Nat → Int32} {i : Nat} (hS : S ≤ 6) (hW : W ≤ 5) (h : rImg S W V kp sd img kp') (hi : i < 2) (hk : kp i = nI 1) (o : Ev) : EvR S W (cpE (V i) o) (m_bk f img (83 * i) 82) :=
  ((h i hi).2.2 hk).1.cong hS hW (cpE_eq _ _) (fun k hk => by rw [bk_at, if_pos hk])
theorem dat_eq {n n' : Nat → Nat} {g : Nat → Int32} {b : Nat → Bool} {r r' : Nat → Nat → Int32} {w : Nat} (hS : n 10 ≤ 6) (hW : n 11 ≤ 5) (h : EvR (n 10) (n 11) (nowE n g b r) (r' 7)) (e2 : n' 1 = n 10) (e3 : n' 0 = n 9) (ho : ∀ s, s < n 10 → r' 2 s = r 4 s) (hw : w < n 11) : k_dAt n g b r w = m_dAt n' r' w := by
  show eAt (n 10) (n 9) (r 4) (nowE n g b r) w = dA (n' 1) (n' 0) (r' 2) (r' 7) w
  rw [e2, e3]
  exact at_eq hS hW h (n 9) ho hw
theorem dat_D {n : Nat → Nat} {g : Nat → Int32} {b : Nat → Bool} {r : Nat → Nat → Int32} {w : Nat} : isD (k_dAt n g b r w) := eAt_D (n 10) (n 9) (r 4) (nowE n g b r) w
/-- a call of both: they answer alike, and stay alike -/
def pS (l : Launch) (θ : zH) (ea : Nat → Nat → Nat) (ad ad' : Nat → Nat) (yc : MethodName) (wc : List Cond) (kc : Nat) (ym : MethodName) (wm : List Cond) (km : Nat) (n : Nat → Nat) (g : Nat → Int32) (b : Nat → Bool) (r : Nat → Nat → Int32) (V : Nat → Ev) (n' : Nat → Nat) (g' : Int32) (r' : Nat → Nat → Int32) (As : List Value) : Prop :=
  ∃ (P P' : Int32 → va_W → Prop), cI l yc wc kc θ (.ref (ad 0) :: As) (CW θ ea ad n g b r V) P ∧ cI l ym wm km θ (.ref (ad' 0) :: As) (MW θ ad' n' g' r') P' ∧ ∀ (x : Int32) (Y : va_W) (x' : Int32) (Y' : va_W), P x Y → P' x' Y' → x = x' ∧ ∃ n1 g1 b1 r1 V1 n1' g1' r1', Y = CW θ ea ad n1 g1 b1 r1 V1 ∧ Y' = MW θ ad' n1' g1' r1' ∧ RR n1 g1 b1 r1 V1 n1' g1' r1'
theorem pS_of {l : Launch} {θ : zH} {ea : Nat → Nat → Nat} {ad ad' : Nat → Nat} {yc : MethodName} {wc : List Cond} {kc : Nat} {ym : MethodName} {wm : List Cond} {km : Nat} {n : Nat → Nat} {g : Nat → Int32} {b : Nat → Bool} {r : Nat → Nat → Int32} {V : Nat → Ev} {n' : Nat → Nat} {g' : Int32} {r' : Nat → Nat → Int32} {As : List Value} {n1 : Nat → Nat} {g1 : Nat → Int32} {b1 : Nat → Bool} {r1 : Nat → Nat → Int32} {V1 : Nat → Ev} {n1' : Nat → Nat} {g1' : Int32} {r1' : Nat → Nat → Int32} {v v' : Int32}
    (hc : cI l yc wc kc θ (.ref (ad 0) :: As) (CW θ ea ad n g b r V) (fun r0 Y => r0 = v ∧ Y = CW θ ea ad n1 g1 b1 r1 V1)) (hm : cI l ym wm km θ (.ref (ad' 0) :: As) (MW θ ad' n' g' r') (fun r0 Y => r0 = v' ∧ Y = MW θ ad' n1' g1' r1')) (hv : v = v') (hR : RR n1 g1 b1 r1 V1 n1' g1' r1') : pS l θ ea ad ad' yc wc kc ym wm km n g b r V n' g' r' As :=
  ⟨_, _, hc, hm, fun x Y x' Y' h1 h2 => ⟨by rw [h1.1, h2.1, hv], n1, g1, b1, r1, V1, n1', g1', r1', h1.2, h2.2, hR⟩⟩
