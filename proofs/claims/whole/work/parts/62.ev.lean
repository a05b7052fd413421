/-! one thing done to an evening -/
section EVU
variable {S W : Nat} {e : Ev} {f : Nat → Int32}
theorem ev_wind (hS : S ≤ 6) (hW : W ≤ 5) (h : EvR S W e f) {u : Nat} (hu : u ≤ 6) : EvR S W ((m_by u, e.1.2), e.2) (upd f 1 (m_by u)) := by
  obtain ⟨⟨f0, fd, -, -, hv, f2, f3, f4, f5⟩, hs, hl, hg, hb⟩ := h
  exact ⟨⟨f0, fd, ⟨u, hu, rfl⟩, pk_us, hv, f2, f3, f4, f5⟩, evS_c hS hs (fun k h1 h2 => pk_un (by omega)), evL_c hW hl (fun k h1 h2 => pk_un (by omega)), evG_c hg (fun k h1 h2 => pk_un (by omega)), evB_c hb (fun k h1 h2 => pk_un (by omega))⟩
theorem ev_bats (hS : S ≤ 6) (hW : W ≤ 5) (h : EvR S W e f) {v : Nat} (hv : v < 64) : EvR S W ((e.1.1, nI v, e.1.2.2), e.2) (upd f 2 (nI v)) := by
  obtain ⟨⟨f0, fd, hu, f1, -, -, f3, f4, f5⟩, hs, hl, hg, hb⟩ := h
  exact ⟨⟨f0, fd, hu, f1, ⟨v, hv, rfl⟩, pk_us, f3, f4, f5⟩, evS_c hS hs (fun k h1 h2 => pk_un (by omega)), evL_c hW hl (fun k h1 h2 => pk_un (by omega)), evG_c hg (fun k h1 h2 => pk_un (by omega)), evB_c hb (fun k h1 h2 => pk_un (by omega))⟩
theorem ev_eyes (hS : S ≤ 6) (hW : W ≤ 5) (h : EvR S W e f) (z : Int32) : EvR S W ((e.1.1, e.1.2.1, z, e.1.2.2.2), e.2) (upd f 3 z) := by
  obtain ⟨⟨f0, fd, hu, f1, hv, f2, f3, f4, f5⟩, hs, hl, hg, hb⟩ := h
  exact ⟨⟨f0, fd, hu, f1, hv, f2, pk_us, f4, f5⟩, evS_c hS hs (fun k h1 h2 => pk_un (by omega)), evL_c hW hl (fun k h1 h2 => pk_un (by omega)), evG_c hg (fun k h1 h2 => pk_un (by omega)), evB_c hb (fun k h1 h2 => pk_un (by omega))⟩
theorem ev_rain (hS : S ≤ 6) (hW : W ≤ 5) (h : EvR S W e f) (z : Bool) : EvR S W ((e.1.1, e.1.2.1, e.1.2.2.1, z, e.1.2.2.2.2), e.2) (upd f 4 (bI z)) := by
  obtain ⟨⟨f0, fd, hu, f1, hv, f2, f3, f4, f5⟩, hs, hl, hg, hb⟩ := h
  exact ⟨⟨f0, fd, hu, f1, hv, f2, f3, pk_us, f5⟩, evS_c hS hs (fun k h1 h2 => pk_un (by omega)), evL_c hW hl (fun k h1 h2 => pk_un (by omega)), evG_c hg (fun k h1 h2 => pk_un (by omega)), evB_c hb (fun k h1 h2 => pk_un (by omega))⟩
theorem ev_smoke (hS : S ≤ 6) (hW : W ≤ 5) (h : EvR S W e f) (z : Int32) : EvR S W ((e.1.1, e.1.2.1, e.1.2.2.1, e.1.2.2.2.1, z, e.1.2.2.2.2.2), e.2) (upd f 5 z) := by
  obtain ⟨⟨f0, fd, hu, f1, hv, f2, f3, f4, f5⟩, hs, hl, hg, hb⟩ := h
  exact ⟨⟨f0, fd, hu, f1, hv, f2, f3, f4, pk_us⟩, evS_c hS hs (fun k h1 h2 => pk_un (by omega)), evL_c hW hl (fun k h1 h2 => pk_un (by omega)), evG_c hg (fun k h1 h2 => pk_un (by omega)), evB_c hb (fun k h1 h2 => pk_un (by omega))⟩
theorem ev_lamp (hS : S ≤ 6) (hW : W ≤ 5) (h : EvR S W e f) {w v : Nat} (hw : w < W) (hv : v ≤ 5) : EvR S W (e.1, (upd e.2.1 w (nI v), e.2.2)) (upd f (12 + w) (nI v)) := by
  obtain ⟨ha, hs, hl, hg, hb⟩ := h
  refine ⟨evA_c ha (fun k hk => pk_un (by omega)), evS_c hS hs (fun k h1 h2 => pk_un (by omega)), fun q hq => ?_, evG_c hg (fun k h1 h2 => pk_un (by omega)), evB_c hb (fun k h1 h2 => pk_un (by omega))⟩
  by_cases z : q = w
  · subst z
    exact ⟨by rw [pk_us]; exact pk_us.symm, v, hv, pk_us⟩
  · obtain ⟨q1, x, hx, q2⟩ := hl q hq
    exact ⟨by rw [pk_un (by omega)]; exact q1.trans (pk_un z).symm, x, hx, (pk_un z).trans q2⟩
theorem ev_glass (hS : S ≤ 6) (hW : W ≤ 5) (h : EvR S W e f) {q : Nat} (hq : q < 4) (z : Int32) : EvR S W (e.1, (e.2.1, e.2.2.1, upd e.2.2.2.1 q z, e.2.2.2.2)) (upd f (17 + q) z) := by
  obtain ⟨ha, hs, hl, hg, hb⟩ := h
  refine ⟨evA_c ha (fun k hk => pk_un (by omega)), evS_c hS hs (fun k h1 h2 => pk_un (by omega)), evL_c hW hl (fun k h1 h2 => pk_un (by omega)), fun i hi => ?_, evB_c hb (fun k h1 h2 => pk_un (by omega))⟩
  by_cases y : i = q
  · subst y; rw [pk_us]; exact pk_us.symm
  · rw [pk_un (by omega)]; exact (hg i hi).trans (pk_un y).symm
theorem ev_stand (hS : S ≤ 6) (hW : W ≤ 5) (h : EvR S W e f) {s w : Nat} (hs : s < S) (hw : w < W) (hx : e.2.2.1 w = (-1)) : EvR S W (e.1, (e.2.1, upd (k_mv e.2.2.1 (nI s) 5) w (nI s), e.2.2.2)) (upd f (6 + s) (nI w)) := by
  obtain ⟨ha, hs2, hl, hg, hb⟩ := h
  exact ⟨evA_c ha (fun k hk => pk_un (by omega)), evS_stand hS hW hs2 hs hw hx, evL_c hW hl (fun k h1 h2 => pk_un (by omega)), evG_c hg (fun k h1 h2 => pk_un (by omega)), evB_c hb (fun k h1 h2 => pk_un (by omega))⟩
theorem ev_go (hS : S ≤ 6) (hW : W ≤ 5) (h : EvR S W e f) {s w : Nat} (hs : s < S) (hw : w < W) (hx : f (6 + s) = nI w) : EvR S W (e.1, (e.2.1, upd e.2.2.1 w (-1), e.2.2.2)) (upd f (6 + s) (-1)) := by
  obtain ⟨ha, hs2, hl, hg, hb⟩ := h
  exact ⟨evA_c ha (fun k hk => pk_un (by omega)), evS_go hS hW hs2 hs hw hx, evL_c hW hl (fun k h1 h2 => pk_un (by omega)), evG_c hg (fun k h1 h2 => pk_un (by omega)), evB_c hb (fun k h1 h2 => pk_un (by omega))⟩
end EVU
/-- a call of both: they answer alike, and stay alike -/
def pS (l : Launch) (θ : zH) (ea : Nat → Nat → Nat) (ad ad' : Nat → Nat) (yc : MethodName) (wc : List Cond) (kc : Nat) (ym : MethodName) (wm : List Cond) (km : Nat) (n : Nat → Nat) (g : Nat → Int32) (b : Nat → Bool) (r : Nat → Nat → Int32) (V : Nat → Ev) (n' : Nat → Nat) (g' : Int32) (r' : Nat → Nat → Int32) (As : List Value) : Prop :=
  ∃ (P P' : Int32 → va_W → Prop), cI l yc wc kc θ (.ref (ad 0) :: As) (CW θ ea ad n g b r V) P ∧ cI l ym wm km θ (.ref (ad' 0) :: As) (MW θ ad' n' g' r') P' ∧ ∀ (x : Int32) (Y : va_W) (x' : Int32) (Y' : va_W), P x Y → P' x' Y' → x = x' ∧ ∃ n1 g1 b1 r1 V1 n1' g1' r1', Y = CW θ ea ad n1 g1 b1 r1 V1 ∧ Y' = MW θ ad' n1' g1' r1' ∧ RR n1 g1 b1 r1 V1 n1' g1' r1'
theorem pS_of {l : Launch} {θ : zH} {ea : Nat → Nat → Nat} {ad ad' : Nat → Nat} {yc : MethodName} {wc : List Cond} {kc : Nat} {ym : MethodName} {wm : List Cond} {km : Nat} {n : Nat → Nat} {g : Nat → Int32} {b : Nat → Bool} {r : Nat → Nat → Int32} {V : Nat → Ev} {n' : Nat → Nat} {g' : Int32} {r' : Nat → Nat → Int32} {As : List Value} {n1 : Nat → Nat} {g1 : Nat → Int32} {b1 : Nat → Bool} {r1 : Nat → Nat → Int32} {V1 : Nat → Ev} {n1' : Nat → Nat} {g1' : Int32} {r1' : Nat → Nat → Int32} {v v' : Int32}
    (hc : cI l yc wc kc θ (.ref (ad 0) :: As) (CW θ ea ad n g b r V) (fun r0 Y => r0 = v ∧ Y = CW θ ea ad n1 g1 b1 r1 V1)) (hm : cI l ym wm km θ (.ref (ad' 0) :: As) (MW θ ad' n' g' r') (fun r0 Y => r0 = v' ∧ Y = MW θ ad' n1' g1' r1')) (hv : v = v') (hR : RR n1 g1 b1 r1 V1 n1' g1' r1') : pS l θ ea ad ad' yc wc kc ym wm km n g b r V n' g' r' As :=
  ⟨_, _, hc, hm, fun x Y x' Y' h1 h2 => ⟨by rw [h1.1, h2.1, hv], n1, g1, b1, r1, V1, n1', g1', r1', h1.2, h2.2, hR⟩⟩
