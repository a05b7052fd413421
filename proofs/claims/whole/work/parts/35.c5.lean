def evsR (θ : zH) (ea : Nat → Nat → Nat) (V : Nat → Ev) : Nat → va_W
  | 0 => []
  | k + 1 => evsR θ ea V k ++ evc θ ea k (V k)
theorem evs_R (θ : zH) (ea : Nat → Nat → Nat) (V : Nat → Ev) : evs θ ea V = evsR θ ea V 18 := by
  unfold evs
  simp only [evsR, List.nil_append, List.append_assoc]
theorem evR_len (θ : zH) (ea : Nat → Nat → Nat) (V : Nat → Ev) : ∀ N, (evsR θ ea V N).length = 7 * N
  | 0 => rfl
  | k + 1 => by
    show (evsR θ ea V k ++ evc θ ea k (V k)).length = _
    rw [List.length_append, evR_len θ ea V k]
    show 7 * k + 7 = _
    omega
theorem evR_get {θ : zH} {ea : Nat → Nat → Nat} {V : Nat → Ev} {i j : Nat} (hj : j < 7) : ∀ {N : Nat}, i < N → (evsR θ ea V N)[7 * i + j]? = (evc θ ea i (V i))[j]?
  | 0, h => absurd h (Nat.not_lt_zero _)
  | N + 1, h => by
    show (evsR θ ea V N ++ evc θ ea N (V N))[7 * i + j]? = _
    by_cases e : i = N
    · subst e
      rw [List.getElem?_append_right (by rw [evR_len]; omega), evR_len]
      congr 1
      omega
    · rw [List.getElem?_append_left (by rw [evR_len]; omega)]
      exact evR_get hj (by omega)
theorem evR_same {θ : zH} {ea : Nat → Nat → Nat} {V : Nat → Ev} {i : Nat} {e : Ev} : ∀ {N : Nat}, N ≤ i → evsR θ ea (va_up V i e) N = evsR θ ea V N
  | 0, _ => rfl
  | N + 1, h => by
    show evsR θ ea (va_up V i e) N ++ evc θ ea N (va_up V i e N) = evsR θ ea V N ++ evc θ ea N (V N)
    rw [evR_same (by omega), va_up_ne _ _ (by omega)]
theorem evR_set {θ : zH} {ea : Nat → Nat → Nat} {V : Nat → Ev} {i j : Nat} {e : Ev} {c : Nat × va_E} (hj : j < 7) (hc : (evc θ ea i (V i)).set j c = evc θ ea i e) : ∀ {N : Nat}, i < N → (evsR θ ea V N).set (7 * i + j) c = evsR θ ea (va_up V i e) N
  | 0, h => absurd h (Nat.not_lt_zero _)
  | N + 1, h => by
    show (evsR θ ea V N ++ evc θ ea N (V N)).set (7 * i + j) c = evsR θ ea (va_up V i e) N ++ evc θ ea N (va_up V i e N)
    by_cases e2 : i = N
    · subst e2
      rw [List.set_append_right _ _ (by rw [evR_len]; omega), evR_len, evR_same (Nat.le_refl _), va_up_self, ← hc]
      congr 2
      omega
    · rw [List.set_append_left _ _ (by rw [evR_len]; omega), evR_set hj hc (by omega), va_up_ne _ _ (by omega)]
section EV
variable {θ : zH} {ea : Nat → Nat → Nat} {ad n : Nat → Nat} {g : Nat → Int32} {b : Nat → Bool} {r : Nat → Nat → Int32} {V : Nat → Ev} {i : Nat} {e1 e2 : Ev}
theorem cfx_len : (cfx θ ea ad n g b r).length = 28 := rfl
theorem ev_get (hi : i < 18) {j : Nat} (hj : j < 7) : (CW θ ea ad n g b r V)[28 + (7 * i + j)]? = (evc θ ea i (V i))[j]? := by
  unfold CW
  rw [evs_R, List.getElem?_append_right (by rw [cfx_len]; omega), cfx_len]
  rw [show 28 + (7 * i + j) - 28 = 7 * i + j by omega]
  exact evR_get hj hi
theorem ev_set (hi : i < 18) {j : Nat} (hj : j < 7) {c : Nat × va_E} (hc : (evc θ ea i (V i)).set j c = evc θ ea i e2) : (CW θ ea ad n g b r V).set (28 + (7 * i + j)) c = CW θ ea ad n g b r (va_up V i e2) := by
  unfold CW
  rw [evs_R, evs_R, List.set_append_right _ _ (by rw [cfx_len]; omega), cfx_len]
  rw [show 28 + (7 * i + j) - 28 = 7 * i + j by omega, evR_set hj hc hi]
theorem ev_get1 (hi : i < 18) {j : Nat} (hj : j < 7) : (CW θ ea ad n g b r (va_up V i e1))[28 + (7 * i + j)]? = (evc θ ea i e1)[j]? := by
  rw [ev_get hi hj, va_up_self]
theorem ev_set1 (hi : i < 18) {j : Nat} (hj : j < 7) {c : Nat × va_E} (hc : (evc θ ea i e1).set j c = evc θ ea i e2) : (CW θ ea ad n g b r (va_up V i e1)).set (28 + (7 * i + j)) c = CW θ ea ad n g b r (va_up V i e2) := by
  rw [ev_set hi hj (e2 := e2) (by rw [va_up_self]; exact hc), bx_uu]
end EV
section ZE
variable {κ : zX} {l0 : Launch} {cc : ByteArray} {n0 : Nat} {own : String} {Ts : List Cond} {kf : Nat} {θ : zH} {X : va_W} {pc : Nat} {lv : List (Nat × Value)} {st : List Value}
theorem z_aald (C : zC κ l0 cc n0 own Ts kf θ) {a n v : Nat} {f : Nat → Option Nat} {i : Int32} (q0 : Nat) (he : X[q0]? = some (a, .inl (θ.2.2.2, n, .inr (.inr (.inr (.inr f)))))) (j : Nat) (hi : i = nI j) (hj : j < n) (hn : n < 2 ^ 31) (hv : f j = some v) (hd : decode cc pc = .ok (.aaload, 1)) (kk : Z κ X (pc + 1) lv (.ref v :: st)) : Z κ X pc lv (.int i :: .ref a :: st) := by
  obtain ⟨p, l, e, R, s, m, args, below, meth, c, Q, A, θ', n⟩ := κ
  obtain ⟨rfl, rfl, rfl, hR, hx, hb, hml, hown, hts, hK, hN, hA⟩ := C
  subst hR
  intro H locs ls hP hD hS hl
  subst hi
  refine va_aldq hx hb hK hP q0 2 he rfl (vp_in_nI hj hn) hd ?_
  rw [nI_clamp (Nat.lt_trans hj hn), hv]
  exact kk H locs ls hP hD hS hl
theorem z_ifnull (C : zC κ l0 cc n0 own Ts kf θ) {x : Nat} {off : Int} (hd : decode cc pc = .ok (.ifnull off, 3)) (kk : Z κ X (pc + 3) lv st) : Z κ X pc lv (.ref x :: st) := by
  obtain ⟨p, l, e, R, s, m, args, below, meth, c, Q, A, θ', n⟩ := κ
  obtain ⟨rfl, rfl, rfl, hR, hx, hb, hml, hown, hts, hK, hN, hA⟩ := C
  subst hR
  intro H locs ls hP hD hS hl
  exact lv_ifnull hx hb hd (kk H locs ls hP hD hS hl)
theorem z_ifnonnull (C : zC κ l0 cc n0 own Ts kf θ) {x : Nat} {off : Int} (tgt : Nat) (hd : decode cc pc = .ok (.ifnonnull off, 3)) (ht : (pc : Int) + off = (tgt : Int)) (kk : Z κ X tgt lv st) : Z κ X pc lv (.ref x :: st) := by
  obtain ⟨p, l, e, R, s, m, args, below, meth, c, Q, A, θ', n⟩ := κ
  obtain ⟨rfl, rfl, rfl, hR, hx, hb, hml, hown, hts, hK, hN, hA⟩ := C
  subst hR
  intro H locs ls hP hD hS hl
  exact lv_ifnonnull hx hb hd ht (kk H locs ls hP hD hS hl)
end ZE
set_option maxHeartbeats 4000000 in
set_option maxRecDepth 100000 in
theorem c_X1_copy_out (l : Launch) (θ : zH) (ea : Nat → Nat → Nat) (ad : Nat → Nat) (n : Nat → Nat) (g : Nat → Int32) (b : Nat → Bool) (r : Nat → Nat → Int32) (V : Nat → Ev) (i : Nat) (hi : i < 18) : cV l yX1_copy wsX1_copy 1 θ [.ref (ad 4), .ref (ea i 0)] (CW θ ea ad n g b r V) (fun Y => Y = CW θ ea ad n g b r (va_up V i ((g 3, g 4, g 5, b 2, g 6, n 13, n 14, n 15), (va_cpy (r 7) (V i).2.1 0 0 5, va_cpy (r 8) (V i).2.2.1 0 0 5, va_cpy (r 9) (V i).2.2.2.1 0 0 4, va_cpy (r 10) (V i).2.2.2.2.1 0 0 20, va_cpy (r 11) (V i).2.2.2.2.2.1 0 0 20, va_cpy (r 12) (V i).2.2.2.2.2.2 0 0 20)))) := by
  refine z_cV (by decide) rfl rfl (Nat.le_of_ble_eq_true rfl) (lv := [(0, .ref (ad 4)), (1, .ref (ea i 0))]) rfl (fun κ C E => ?_)
  have hinX1 : ∀ w ∈ wsX10, w ∈ wsX1_copy := by decide +kernel
  refine z_aload_n C dX1_copy_0 rfl (show zlk _ 0 = some (.ref (ad 4)) from rfl) ?_
  refine z_ifnull C dX1_copy_1 ?_
  refine z_aload_n C dX1_copy_4 rfl (show zlk _ 1 = some (.ref (ea i 0)) from rfl) ?_
  refine z_ifnonnull C 9 dX1_copy_5 (by decide) ?_
  refine z_aload_n C dX1_copy_9 rfl (show zlk _ 1 = some (.ref (ea i 0)) from rfl) ?_
  refine z_aload_n C dX1_copy_10 rfl (show zlk _ 0 = some (.ref (ad 4)) from rfl) ?_
  refine z_get C hinX1 4 cc_4 rfl 0 (by decide) (by decide +kernel) cg_4_0 dX1_copy_11 ?_
  refine z_put C hinX1 tyX1 tyX1_ok nmX1 (28 + (7 * i + 0)) ((ev_get (θ := θ) (ea := ea) (ad := ad) (V := V) (i := i) hi (j := 0) (by decide)).trans rfl) rfl 0 (by decide) (by decide +kernel) rfl rfl rfl rfl (Nat.le_of_ble_eq_true rfl) _ (ev_set (θ := θ) (ea := ea) (ad := ad) (V := V) (i := i) hi (j := 0) (by decide) (e2 := ((g 3, (V i).1.2.1, (V i).1.2.2.1, (V i).1.2.2.2.1, (V i).1.2.2.2.2.1, (V i).1.2.2.2.2.2.1, (V i).1.2.2.2.2.2.2.1, (V i).1.2.2.2.2.2.2.2), ((V i).2.1, (V i).2.2.1, (V i).2.2.2.1, (V i).2.2.2.2.1, (V i).2.2.2.2.2.1, (V i).2.2.2.2.2.2))) rfl) dX1_copy_14 ?_
  refine z_aload_n C dX1_copy_17 rfl (show zlk _ 1 = some (.ref (ea i 0)) from rfl) ?_
  refine z_aload_n C dX1_copy_18 rfl (show zlk _ 0 = some (.ref (ad 4)) from rfl) ?_
  refine z_get C hinX1 4 cc_4 rfl 1 (by decide) (by decide +kernel) cg_4_1 dX1_copy_19 ?_
  refine z_put C hinX1 tyX1 tyX1_ok nmX1 (28 + (7 * i + 0)) ((ev_get1 (θ := θ) (ea := ea) (ad := ad) (V := V) (i := i) (e1 := ((g 3, (V i).1.2.1, (V i).1.2.2.1, (V i).1.2.2.2.1, (V i).1.2.2.2.2.1, (V i).1.2.2.2.2.2.1, (V i).1.2.2.2.2.2.2.1, (V i).1.2.2.2.2.2.2.2), ((V i).2.1, (V i).2.2.1, (V i).2.2.2.1, (V i).2.2.2.2.1, (V i).2.2.2.2.2.1, (V i).2.2.2.2.2.2))) hi (j := 0) (by decide)).trans rfl) rfl 1 (by decide) (by decide +kernel) rfl rfl rfl rfl (Nat.le_of_ble_eq_true rfl) _ (ev_set1 (θ := θ) (ea := ea) (ad := ad) (V := V) (i := i) (e1 := ((g 3, (V i).1.2.1, (V i).1.2.2.1, (V i).1.2.2.2.1, (V i).1.2.2.2.2.1, (V i).1.2.2.2.2.2.1, (V i).1.2.2.2.2.2.2.1, (V i).1.2.2.2.2.2.2.2), ((V i).2.1, (V i).2.2.1, (V i).2.2.2.1, (V i).2.2.2.2.1, (V i).2.2.2.2.2.1, (V i).2.2.2.2.2.2))) hi (j := 0) (by decide) (e2 := ((g 3, g 4, (V i).1.2.2.1, (V i).1.2.2.2.1, (V i).1.2.2.2.2.1, (V i).1.2.2.2.2.2.1, (V i).1.2.2.2.2.2.2.1, (V i).1.2.2.2.2.2.2.2), ((V i).2.1, (V i).2.2.1, (V i).2.2.2.1, (V i).2.2.2.2.1, (V i).2.2.2.2.2.1, (V i).2.2.2.2.2.2))) rfl) dX1_copy_22 ?_
  refine z_aload_n C dX1_copy_25 rfl (show zlk _ 1 = some (.ref (ea i 0)) from rfl) ?_
  refine z_aload_n C dX1_copy_26 rfl (show zlk _ 0 = some (.ref (ad 4)) from rfl) ?_
  refine z_get C hinX1 4 cc_4 rfl 2 (by decide) (by decide +kernel) cg_4_2 dX1_copy_27 ?_
  refine z_put C hinX1 tyX1 tyX1_ok nmX1 (28 + (7 * i + 0)) ((ev_get1 (θ := θ) (ea := ea) (ad := ad) (V := V) (i := i) (e1 := ((g 3, g 4, (V i).1.2.2.1, (V i).1.2.2.2.1, (V i).1.2.2.2.2.1, (V i).1.2.2.2.2.2.1, (V i).1.2.2.2.2.2.2.1, (V i).1.2.2.2.2.2.2.2), ((V i).2.1, (V i).2.2.1, (V i).2.2.2.1, (V i).2.2.2.2.1, (V i).2.2.2.2.2.1, (V i).2.2.2.2.2.2))) hi (j := 0) (by decide)).trans rfl) rfl 2 (by decide) (by decide +kernel) rfl rfl rfl rfl (Nat.le_of_ble_eq_true rfl) _ (ev_set1 (θ := θ) (ea := ea) (ad := ad) (V := V) (i := i) (e1 := ((g 3, g 4, (V i).1.2.2.1, (V i).1.2.2.2.1, (V i).1.2.2.2.2.1, (V i).1.2.2.2.2.2.1, (V i).1.2.2.2.2.2.2.1, (V i).1.2.2.2.2.2.2.2), ((V i).2.1, (V i).2.2.1, (V i).2.2.2.1, (V i).2.2.2.2.1, (V i).2.2.2.2.2.1, (V i).2.2.2.2.2.2))) hi (j := 0) (by decide) (e2 := ((g 3, g 4, g 5, (V i).1.2.2.2.1, (V i).1.2.2.2.2.1, (V i).1.2.2.2.2.2.1, (V i).1.2.2.2.2.2.2.1, (V i).1.2.2.2.2.2.2.2), ((V i).2.1, (V i).2.2.1, (V i).2.2.2.1, (V i).2.2.2.2.1, (V i).2.2.2.2.2.1, (V i).2.2.2.2.2.2))) rfl) dX1_copy_30 ?_
  refine z_aload_n C dX1_copy_33 rfl (show zlk _ 1 = some (.ref (ea i 0)) from rfl) ?_
  refine z_aload_n C dX1_copy_34 rfl (show zlk _ 0 = some (.ref (ad 4)) from rfl) ?_
  refine z_get C hinX1 4 cc_4 rfl 3 (by decide) (by decide +kernel) cg_4_3 dX1_copy_35 ?_
  refine z_put C hinX1 tyX1 tyX1_ok nmX1 (28 + (7 * i + 0)) ((ev_get1 (θ := θ) (ea := ea) (ad := ad) (V := V) (i := i) (e1 := ((g 3, g 4, g 5, (V i).1.2.2.2.1, (V i).1.2.2.2.2.1, (V i).1.2.2.2.2.2.1, (V i).1.2.2.2.2.2.2.1, (V i).1.2.2.2.2.2.2.2), ((V i).2.1, (V i).2.2.1, (V i).2.2.2.1, (V i).2.2.2.2.1, (V i).2.2.2.2.2.1, (V i).2.2.2.2.2.2))) hi (j := 0) (by decide)).trans rfl) rfl 3 (by decide) (by decide +kernel) rfl rfl (bI_n _) (bI_f2 _) (Nat.le_of_ble_eq_true rfl) _ (ev_set1 (θ := θ) (ea := ea) (ad := ad) (V := V) (i := i) (e1 := ((g 3, g 4, g 5, (V i).1.2.2.2.1, (V i).1.2.2.2.2.1, (V i).1.2.2.2.2.2.1, (V i).1.2.2.2.2.2.2.1, (V i).1.2.2.2.2.2.2.2), ((V i).2.1, (V i).2.2.1, (V i).2.2.2.1, (V i).2.2.2.2.1, (V i).2.2.2.2.2.1, (V i).2.2.2.2.2.2))) hi (j := 0) (by decide) (e2 := ((g 3, g 4, g 5, b 2, (V i).1.2.2.2.2.1, (V i).1.2.2.2.2.2.1, (V i).1.2.2.2.2.2.2.1, (V i).1.2.2.2.2.2.2.2), ((V i).2.1, (V i).2.2.1, (V i).2.2.2.1, (V i).2.2.2.2.1, (V i).2.2.2.2.2.1, (V i).2.2.2.2.2.2))) rfl) dX1_copy_38 ?_
  refine z_aload_n C dX1_copy_41 rfl (show zlk _ 1 = some (.ref (ea i 0)) from rfl) ?_
  refine z_aload_n C dX1_copy_42 rfl (show zlk _ 0 = some (.ref (ad 4)) from rfl) ?_
  refine z_get C hinX1 4 cc_4 rfl 4 (by decide) (by decide +kernel) cg_4_4 dX1_copy_43 ?_
  refine z_put C hinX1 tyX1 tyX1_ok nmX1 (28 + (7 * i + 0)) ((ev_get1 (θ := θ) (ea := ea) (ad := ad) (V := V) (i := i) (e1 := ((g 3, g 4, g 5, b 2, (V i).1.2.2.2.2.1, (V i).1.2.2.2.2.2.1, (V i).1.2.2.2.2.2.2.1, (V i).1.2.2.2.2.2.2.2), ((V i).2.1, (V i).2.2.1, (V i).2.2.2.1, (V i).2.2.2.2.1, (V i).2.2.2.2.2.1, (V i).2.2.2.2.2.2))) hi (j := 0) (by decide)).trans rfl) rfl 4 (by decide) (by decide +kernel) rfl rfl rfl rfl (Nat.le_of_ble_eq_true rfl) _ (ev_set1 (θ := θ) (ea := ea) (ad := ad) (V := V) (i := i) (e1 := ((g 3, g 4, g 5, b 2, (V i).1.2.2.2.2.1, (V i).1.2.2.2.2.2.1, (V i).1.2.2.2.2.2.2.1, (V i).1.2.2.2.2.2.2.2), ((V i).2.1, (V i).2.2.1, (V i).2.2.2.1, (V i).2.2.2.2.1, (V i).2.2.2.2.2.1, (V i).2.2.2.2.2.2))) hi (j := 0) (by decide) (e2 := ((g 3, g 4, g 5, b 2, g 6, (V i).1.2.2.2.2.2.1, (V i).1.2.2.2.2.2.2.1, (V i).1.2.2.2.2.2.2.2), ((V i).2.1, (V i).2.2.1, (V i).2.2.2.1, (V i).2.2.2.2.1, (V i).2.2.2.2.2.1, (V i).2.2.2.2.2.2))) rfl) dX1_copy_46 ?_
  refine z_aload_n C dX1_copy_49 rfl (show zlk _ 1 = some (.ref (ea i 0)) from rfl) ?_
  refine z_aload_n C dX1_copy_50 rfl (show zlk _ 0 = some (.ref (ad 4)) from rfl) ?_
  refine z_get C hinX1 4 cc_4 rfl 5 (by decide) (by decide +kernel) cg_4_5 dX1_copy_51 ?_
  refine z_put C hinX1 tyX1 tyX1_ok nmX1 (28 + (7 * i + 0)) ((ev_get1 (θ := θ) (ea := ea) (ad := ad) (V := V) (i := i) (e1 := ((g 3, g 4, g 5, b 2, g 6, (V i).1.2.2.2.2.2.1, (V i).1.2.2.2.2.2.2.1, (V i).1.2.2.2.2.2.2.2), ((V i).2.1, (V i).2.2.1, (V i).2.2.2.1, (V i).2.2.2.2.1, (V i).2.2.2.2.2.1, (V i).2.2.2.2.2.2))) hi (j := 0) (by decide)).trans rfl) rfl 5 (by decide) (by decide +kernel) rfl rfl rfl rfl (Nat.le_of_ble_eq_true rfl) _ (ev_set1 (θ := θ) (ea := ea) (ad := ad) (V := V) (i := i) (e1 := ((g 3, g 4, g 5, b 2, g 6, (V i).1.2.2.2.2.2.1, (V i).1.2.2.2.2.2.2.1, (V i).1.2.2.2.2.2.2.2), ((V i).2.1, (V i).2.2.1, (V i).2.2.2.1, (V i).2.2.2.2.1, (V i).2.2.2.2.2.1, (V i).2.2.2.2.2.2))) hi (j := 0) (by decide) (e2 := ((g 3, g 4, g 5, b 2, g 6, n 13, (V i).1.2.2.2.2.2.2.1, (V i).1.2.2.2.2.2.2.2), ((V i).2.1, (V i).2.2.1, (V i).2.2.2.1, (V i).2.2.2.2.1, (V i).2.2.2.2.2.1, (V i).2.2.2.2.2.2))) rfl) dX1_copy_54 ?_
  refine z_aload_n C dX1_copy_57 rfl (show zlk _ 1 = some (.ref (ea i 0)) from rfl) ?_
  refine z_aload_n C dX1_copy_58 rfl (show zlk _ 0 = some (.ref (ad 4)) from rfl) ?_
  refine z_get C hinX1 4 cc_4 rfl 6 (by decide) (by decide +kernel) cg_4_6 dX1_copy_59 ?_
  refine z_put C hinX1 tyX1 tyX1_ok nmX1 (28 + (7 * i + 0)) ((ev_get1 (θ := θ) (ea := ea) (ad := ad) (V := V) (i := i) (e1 := ((g 3, g 4, g 5, b 2, g 6, n 13, (V i).1.2.2.2.2.2.2.1, (V i).1.2.2.2.2.2.2.2), ((V i).2.1, (V i).2.2.1, (V i).2.2.2.1, (V i).2.2.2.2.1, (V i).2.2.2.2.2.1, (V i).2.2.2.2.2.2))) hi (j := 0) (by decide)).trans rfl) rfl 6 (by decide) (by decide +kernel) rfl rfl rfl rfl (Nat.le_of_ble_eq_true rfl) _ (ev_set1 (θ := θ) (ea := ea) (ad := ad) (V := V) (i := i) (e1 := ((g 3, g 4, g 5, b 2, g 6, n 13, (V i).1.2.2.2.2.2.2.1, (V i).1.2.2.2.2.2.2.2), ((V i).2.1, (V i).2.2.1, (V i).2.2.2.1, (V i).2.2.2.2.1, (V i).2.2.2.2.2.1, (V i).2.2.2.2.2.2))) hi (j := 0) (by decide) (e2 := ((g 3, g 4, g 5, b 2, g 6, n 13, n 14, (V i).1.2.2.2.2.2.2.2), ((V i).2.1, (V i).2.2.1, (V i).2.2.2.1, (V i).2.2.2.2.1, (V i).2.2.2.2.2.1, (V i).2.2.2.2.2.2))) rfl) dX1_copy_62 ?_
  refine z_aload_n C dX1_copy_65 rfl (show zlk _ 1 = some (.ref (ea i 0)) from rfl) ?_
  refine z_aload_n C dX1_copy_66 rfl (show zlk _ 0 = some (.ref (ad 4)) from rfl) ?_
  refine z_get C hinX1 4 cc_4 rfl 7 (by decide) (by decide +kernel) cg_4_7 dX1_copy_67 ?_
  refine z_put C hinX1 tyX1 tyX1_ok nmX1 (28 + (7 * i + 0)) ((ev_get1 (θ := θ) (ea := ea) (ad := ad) (V := V) (i := i) (e1 := ((g 3, g 4, g 5, b 2, g 6, n 13, n 14, (V i).1.2.2.2.2.2.2.2), ((V i).2.1, (V i).2.2.1, (V i).2.2.2.1, (V i).2.2.2.2.1, (V i).2.2.2.2.2.1, (V i).2.2.2.2.2.2))) hi (j := 0) (by decide)).trans rfl) rfl 7 (by decide) (by decide +kernel) rfl rfl rfl rfl (Nat.le_of_ble_eq_true rfl) _ (ev_set1 (θ := θ) (ea := ea) (ad := ad) (V := V) (i := i) (e1 := ((g 3, g 4, g 5, b 2, g 6, n 13, n 14, (V i).1.2.2.2.2.2.2.2), ((V i).2.1, (V i).2.2.1, (V i).2.2.2.1, (V i).2.2.2.2.1, (V i).2.2.2.2.2.1, (V i).2.2.2.2.2.2))) hi (j := 0) (by decide) (e2 := ((g 3, g 4, g 5, b 2, g 6, n 13, n 14, n 15), ((V i).2.1, (V i).2.2.1, (V i).2.2.2.1, (V i).2.2.2.2.1, (V i).2.2.2.2.2.1, (V i).2.2.2.2.2.2))) rfl) dX1_copy_70 ?_
  refine z_aload_n C dX1_copy_73 rfl (show zlk _ 0 = some (.ref (ad 4)) from rfl) ?_
  refine z_get C hinX1 4 cc_4 rfl 8 (by decide) (by decide +kernel) cg_4_8 dX1_copy_74 ?_
  refine z_iconst C (v := nI 0) dX1_copy_77 (by decide) ?_
  refine z_aload_n C dX1_copy_78 rfl (show zlk _ 1 = some (.ref (ea i 0)) from rfl) ?_
  refine z_get C hinX1 (28 + (7 * i + 0)) ((ev_get1 (θ := θ) (ea := ea) (ad := ad) (V := V) (i := i) (e1 := ((g 3, g 4, g 5, b 2, g 6, n 13, n 14, n 15), ((V i).2.1, (V i).2.2.1, (V i).2.2.2.1, (V i).2.2.2.2.1, (V i).2.2.2.2.2.1, (V i).2.2.2.2.2.2))) hi (j := 0) (by decide)).trans rfl) rfl 8 (by decide) (by decide +kernel) (v := .ref (ea i 1)) rfl dX1_copy_79 ?_
  refine z_iconst C (v := nI 0) dX1_copy_82 (by decide) ?_
  refine z_iconst C (v := nI 5) dX1_copy_83 (by decide) ?_
  refine z_copy C (st := []) (f := (r 7)) (g := (V i).2.1) (by decide +kernel) (by decide +kernel) (by decide +kernel) (by decide +kernel) 18 (28 + (7 * i + 1)) ca_18 ((ev_get1 (θ := θ) (ea := ea) (ad := ad) (V := V) (i := i) (e1 := ((g 3, g 4, g 5, b 2, g 6, n 13, n 14, n 15), ((V i).2.1, (V i).2.2.1, (V i).2.2.2.1, (V i).2.2.2.2.1, (V i).2.2.2.2.2.1, (V i).2.2.2.2.2.2))) hi (j := 1) (by decide)).trans rfl) 5 (by decide) (by decide) (by decide) _ (ev_set1 (θ := θ) (ea := ea) (ad := ad) (V := V) (i := i) (e1 := ((g 3, g 4, g 5, b 2, g 6, n 13, n 14, n 15), ((V i).2.1, (V i).2.2.1, (V i).2.2.2.1, (V i).2.2.2.2.1, (V i).2.2.2.2.2.1, (V i).2.2.2.2.2.2))) hi (j := 1) (by decide) (e2 := ((g 3, g 4, g 5, b 2, g 6, n 13, n 14, n 15), ((va_cpy (r 7) ((V i).2.1) 0 0 5), (V i).2.2.1, (V i).2.2.2.1, (V i).2.2.2.2.1, (V i).2.2.2.2.2.1, (V i).2.2.2.2.2.2))) rfl) (by decide) (Nat.le_of_ble_eq_true rfl) dX1_copy_84 ?_
  refine z_aload_n C dX1_copy_87 rfl (show zlk _ 0 = some (.ref (ad 4)) from rfl) ?_
  refine z_get C hinX1 4 cc_4 rfl 9 (by decide) (by decide +kernel) cg_4_9 dX1_copy_88 ?_
  refine z_iconst C (v := nI 0) dX1_copy_91 (by decide) ?_
  refine z_aload_n C dX1_copy_92 rfl (show zlk _ 1 = some (.ref (ea i 0)) from rfl) ?_
  refine z_get C hinX1 (28 + (7 * i + 0)) ((ev_get1 (θ := θ) (ea := ea) (ad := ad) (V := V) (i := i) (e1 := ((g 3, g 4, g 5, b 2, g 6, n 13, n 14, n 15), ((va_cpy (r 7) ((V i).2.1) 0 0 5), (V i).2.2.1, (V i).2.2.2.1, (V i).2.2.2.2.1, (V i).2.2.2.2.2.1, (V i).2.2.2.2.2.2))) hi (j := 0) (by decide)).trans rfl) rfl 9 (by decide) (by decide +kernel) (v := .ref (ea i 2)) rfl dX1_copy_93 ?_
  refine z_iconst C (v := nI 0) dX1_copy_96 (by decide) ?_
  refine z_iconst C (v := nI 5) dX1_copy_97 (by decide) ?_
  refine z_copy C (st := []) (f := (r 8)) (g := (V i).2.2.1) (by decide +kernel) (by decide +kernel) (by decide +kernel) (by decide +kernel) 19 (28 + (7 * i + 2)) ca_19 ((ev_get1 (θ := θ) (ea := ea) (ad := ad) (V := V) (i := i) (e1 := ((g 3, g 4, g 5, b 2, g 6, n 13, n 14, n 15), ((va_cpy (r 7) ((V i).2.1) 0 0 5), (V i).2.2.1, (V i).2.2.2.1, (V i).2.2.2.2.1, (V i).2.2.2.2.2.1, (V i).2.2.2.2.2.2))) hi (j := 2) (by decide)).trans rfl) 5 (by decide) (by decide) (by decide) _ (ev_set1 (θ := θ) (ea := ea) (ad := ad) (V := V) (i := i) (e1 := ((g 3, g 4, g 5, b 2, g 6, n 13, n 14, n 15), ((va_cpy (r 7) ((V i).2.1) 0 0 5), (V i).2.2.1, (V i).2.2.2.1, (V i).2.2.2.2.1, (V i).2.2.2.2.2.1, (V i).2.2.2.2.2.2))) hi (j := 2) (by decide) (e2 := ((g 3, g 4, g 5, b 2, g 6, n 13, n 14, n 15), ((va_cpy (r 7) ((V i).2.1) 0 0 5), (va_cpy (r 8) ((V i).2.2.1) 0 0 5), (V i).2.2.2.1, (V i).2.2.2.2.1, (V i).2.2.2.2.2.1, (V i).2.2.2.2.2.2))) rfl) (by decide) (Nat.le_of_ble_eq_true rfl) dX1_copy_98 ?_
  refine z_aload_n C dX1_copy_101 rfl (show zlk _ 0 = some (.ref (ad 4)) from rfl) ?_
  refine z_get C hinX1 4 cc_4 rfl 10 (by decide) (by decide +kernel) cg_4_10 dX1_copy_102 ?_
  refine z_iconst C (v := nI 0) dX1_copy_105 (by decide) ?_
  refine z_aload_n C dX1_copy_106 rfl (show zlk _ 1 = some (.ref (ea i 0)) from rfl) ?_
  refine z_get C hinX1 (28 + (7 * i + 0)) ((ev_get1 (θ := θ) (ea := ea) (ad := ad) (V := V) (i := i) (e1 := ((g 3, g 4, g 5, b 2, g 6, n 13, n 14, n 15), ((va_cpy (r 7) ((V i).2.1) 0 0 5), (va_cpy (r 8) ((V i).2.2.1) 0 0 5), (V i).2.2.2.1, (V i).2.2.2.2.1, (V i).2.2.2.2.2.1, (V i).2.2.2.2.2.2))) hi (j := 0) (by decide)).trans rfl) rfl 10 (by decide) (by decide +kernel) (v := .ref (ea i 3)) rfl dX1_copy_107 ?_
  refine z_iconst C (v := nI 0) dX1_copy_110 (by decide) ?_
  refine z_iconst C (v := nI 4) dX1_copy_111 (by decide) ?_
  refine z_copy C (st := []) (f := (r 9)) (g := (V i).2.2.2.1) (by decide +kernel) (by decide +kernel) (by decide +kernel) (by decide +kernel) 20 (28 + (7 * i + 3)) ca_20 ((ev_get1 (θ := θ) (ea := ea) (ad := ad) (V := V) (i := i) (e1 := ((g 3, g 4, g 5, b 2, g 6, n 13, n 14, n 15), ((va_cpy (r 7) ((V i).2.1) 0 0 5), (va_cpy (r 8) ((V i).2.2.1) 0 0 5), (V i).2.2.2.1, (V i).2.2.2.2.1, (V i).2.2.2.2.2.1, (V i).2.2.2.2.2.2))) hi (j := 3) (by decide)).trans rfl) 4 (by decide) (by decide) (by decide) _ (ev_set1 (θ := θ) (ea := ea) (ad := ad) (V := V) (i := i) (e1 := ((g 3, g 4, g 5, b 2, g 6, n 13, n 14, n 15), ((va_cpy (r 7) ((V i).2.1) 0 0 5), (va_cpy (r 8) ((V i).2.2.1) 0 0 5), (V i).2.2.2.1, (V i).2.2.2.2.1, (V i).2.2.2.2.2.1, (V i).2.2.2.2.2.2))) hi (j := 3) (by decide) (e2 := ((g 3, g 4, g 5, b 2, g 6, n 13, n 14, n 15), ((va_cpy (r 7) ((V i).2.1) 0 0 5), (va_cpy (r 8) ((V i).2.2.1) 0 0 5), (va_cpy (r 9) ((V i).2.2.2.1) 0 0 4), (V i).2.2.2.2.1, (V i).2.2.2.2.2.1, (V i).2.2.2.2.2.2))) rfl) (by decide) (Nat.le_of_ble_eq_true rfl) dX1_copy_112 ?_
  refine z_aload_n C dX1_copy_115 rfl (show zlk _ 0 = some (.ref (ad 4)) from rfl) ?_
  refine z_get C hinX1 4 cc_4 rfl 11 (by decide) (by decide +kernel) cg_4_11 dX1_copy_116 ?_
  refine z_iconst C (v := nI 0) dX1_copy_119 (by decide) ?_
  refine z_aload_n C dX1_copy_120 rfl (show zlk _ 1 = some (.ref (ea i 0)) from rfl) ?_
  refine z_get C hinX1 (28 + (7 * i + 0)) ((ev_get1 (θ := θ) (ea := ea) (ad := ad) (V := V) (i := i) (e1 := ((g 3, g 4, g 5, b 2, g 6, n 13, n 14, n 15), ((va_cpy (r 7) ((V i).2.1) 0 0 5), (va_cpy (r 8) ((V i).2.2.1) 0 0 5), (va_cpy (r 9) ((V i).2.2.2.1) 0 0 4), (V i).2.2.2.2.1, (V i).2.2.2.2.2.1, (V i).2.2.2.2.2.2))) hi (j := 0) (by decide)).trans rfl) rfl 11 (by decide) (by decide +kernel) (v := .ref (ea i 4)) rfl dX1_copy_121 ?_
  refine z_iconst C (v := nI 0) dX1_copy_124 (by decide) ?_
  refine z_bipush C (v := nI 20) dX1_copy_125 (by decide) ?_
  refine z_copy C (st := []) (f := (r 10)) (g := (V i).2.2.2.2.1) (by decide +kernel) (by decide +kernel) (by decide +kernel) (by decide +kernel) 21 (28 + (7 * i + 4)) ca_21 ((ev_get1 (θ := θ) (ea := ea) (ad := ad) (V := V) (i := i) (e1 := ((g 3, g 4, g 5, b 2, g 6, n 13, n 14, n 15), ((va_cpy (r 7) ((V i).2.1) 0 0 5), (va_cpy (r 8) ((V i).2.2.1) 0 0 5), (va_cpy (r 9) ((V i).2.2.2.1) 0 0 4), (V i).2.2.2.2.1, (V i).2.2.2.2.2.1, (V i).2.2.2.2.2.2))) hi (j := 4) (by decide)).trans rfl) 20 (by decide) (by decide) (by decide) _ (ev_set1 (θ := θ) (ea := ea) (ad := ad) (V := V) (i := i) (e1 := ((g 3, g 4, g 5, b 2, g 6, n 13, n 14, n 15), ((va_cpy (r 7) ((V i).2.1) 0 0 5), (va_cpy (r 8) ((V i).2.2.1) 0 0 5), (va_cpy (r 9) ((V i).2.2.2.1) 0 0 4), (V i).2.2.2.2.1, (V i).2.2.2.2.2.1, (V i).2.2.2.2.2.2))) hi (j := 4) (by decide) (e2 := ((g 3, g 4, g 5, b 2, g 6, n 13, n 14, n 15), ((va_cpy (r 7) ((V i).2.1) 0 0 5), (va_cpy (r 8) ((V i).2.2.1) 0 0 5), (va_cpy (r 9) ((V i).2.2.2.1) 0 0 4), (va_cpy (r 10) ((V i).2.2.2.2.1) 0 0 20), (V i).2.2.2.2.2.1, (V i).2.2.2.2.2.2))) rfl) (by decide) (Nat.le_of_ble_eq_true rfl) dX1_copy_127 ?_
  refine z_aload_n C dX1_copy_130 rfl (show zlk _ 0 = some (.ref (ad 4)) from rfl) ?_
  refine z_get C hinX1 4 cc_4 rfl 12 (by decide) (by decide +kernel) cg_4_12 dX1_copy_131 ?_
  refine z_iconst C (v := nI 0) dX1_copy_134 (by decide) ?_
  refine z_aload_n C dX1_copy_135 rfl (show zlk _ 1 = some (.ref (ea i 0)) from rfl) ?_
  refine z_get C hinX1 (28 + (7 * i + 0)) ((ev_get1 (θ := θ) (ea := ea) (ad := ad) (V := V) (i := i) (e1 := ((g 3, g 4, g 5, b 2, g 6, n 13, n 14, n 15), ((va_cpy (r 7) ((V i).2.1) 0 0 5), (va_cpy (r 8) ((V i).2.2.1) 0 0 5), (va_cpy (r 9) ((V i).2.2.2.1) 0 0 4), (va_cpy (r 10) ((V i).2.2.2.2.1) 0 0 20), (V i).2.2.2.2.2.1, (V i).2.2.2.2.2.2))) hi (j := 0) (by decide)).trans rfl) rfl 12 (by decide) (by decide +kernel) (v := .ref (ea i 5)) rfl dX1_copy_136 ?_
  refine z_iconst C (v := nI 0) dX1_copy_139 (by decide) ?_
  refine z_bipush C (v := nI 20) dX1_copy_140 (by decide) ?_
  refine z_copy C (st := []) (f := (r 11)) (g := (V i).2.2.2.2.2.1) (by decide +kernel) (by decide +kernel) (by decide +kernel) (by decide +kernel) 22 (28 + (7 * i + 5)) ca_22 ((ev_get1 (θ := θ) (ea := ea) (ad := ad) (V := V) (i := i) (e1 := ((g 3, g 4, g 5, b 2, g 6, n 13, n 14, n 15), ((va_cpy (r 7) ((V i).2.1) 0 0 5), (va_cpy (r 8) ((V i).2.2.1) 0 0 5), (va_cpy (r 9) ((V i).2.2.2.1) 0 0 4), (va_cpy (r 10) ((V i).2.2.2.2.1) 0 0 20), (V i).2.2.2.2.2.1, (V i).2.2.2.2.2.2))) hi (j := 5) (by decide)).trans rfl) 20 (by decide) (by decide) (by decide) _ (ev_set1 (θ := θ) (ea := ea) (ad := ad) (V := V) (i := i) (e1 := ((g 3, g 4, g 5, b 2, g 6, n 13, n 14, n 15), ((va_cpy (r 7) ((V i).2.1) 0 0 5), (va_cpy (r 8) ((V i).2.2.1) 0 0 5), (va_cpy (r 9) ((V i).2.2.2.1) 0 0 4), (va_cpy (r 10) ((V i).2.2.2.2.1) 0 0 20), (V i).2.2.2.2.2.1, (V i).2.2.2.2.2.2))) hi (j := 5) (by decide) (e2 := ((g 3, g 4, g 5, b 2, g 6, n 13, n 14, n 15), ((va_cpy (r 7) ((V i).2.1) 0 0 5), (va_cpy (r 8) ((V i).2.2.1) 0 0 5), (va_cpy (r 9) ((V i).2.2.2.1) 0 0 4), (va_cpy (r 10) ((V i).2.2.2.2.1) 0 0 20), (va_cpy (r 11) ((V i).2.2.2.2.2.1) 0 0 20), (V i).2.2.2.2.2.2))) rfl) (by decide) (Nat.le_of_ble_eq_true rfl) dX1_copy_142 ?_
  refine z_aload_n C dX1_copy_145 rfl (show zlk _ 0 = some (.ref (ad 4)) from rfl) ?_
  refine z_get C hinX1 4 cc_4 rfl 13 (by decide) (by decide +kernel) cg_4_13 dX1_copy_146 ?_
  refine z_iconst C (v := nI 0) dX1_copy_149 (by decide) ?_
  refine z_aload_n C dX1_copy_150 rfl (show zlk _ 1 = some (.ref (ea i 0)) from rfl) ?_
  refine z_get C hinX1 (28 + (7 * i + 0)) ((ev_get1 (θ := θ) (ea := ea) (ad := ad) (V := V) (i := i) (e1 := ((g 3, g 4, g 5, b 2, g 6, n 13, n 14, n 15), ((va_cpy (r 7) ((V i).2.1) 0 0 5), (va_cpy (r 8) ((V i).2.2.1) 0 0 5), (va_cpy (r 9) ((V i).2.2.2.1) 0 0 4), (va_cpy (r 10) ((V i).2.2.2.2.1) 0 0 20), (va_cpy (r 11) ((V i).2.2.2.2.2.1) 0 0 20), (V i).2.2.2.2.2.2))) hi (j := 0) (by decide)).trans rfl) rfl 13 (by decide) (by decide +kernel) (v := .ref (ea i 6)) rfl dX1_copy_151 ?_
  refine z_iconst C (v := nI 0) dX1_copy_154 (by decide) ?_
  refine z_bipush C (v := nI 20) dX1_copy_155 (by decide) ?_
  refine z_copy C (st := []) (f := (r 12)) (g := (V i).2.2.2.2.2.2) (by decide +kernel) (by decide +kernel) (by decide +kernel) (by decide +kernel) 23 (28 + (7 * i + 6)) ca_23 ((ev_get1 (θ := θ) (ea := ea) (ad := ad) (V := V) (i := i) (e1 := ((g 3, g 4, g 5, b 2, g 6, n 13, n 14, n 15), ((va_cpy (r 7) ((V i).2.1) 0 0 5), (va_cpy (r 8) ((V i).2.2.1) 0 0 5), (va_cpy (r 9) ((V i).2.2.2.1) 0 0 4), (va_cpy (r 10) ((V i).2.2.2.2.1) 0 0 20), (va_cpy (r 11) ((V i).2.2.2.2.2.1) 0 0 20), (V i).2.2.2.2.2.2))) hi (j := 6) (by decide)).trans rfl) 20 (by decide) (by decide) (by decide) _ (ev_set1 (θ := θ) (ea := ea) (ad := ad) (V := V) (i := i) (e1 := ((g 3, g 4, g 5, b 2, g 6, n 13, n 14, n 15), ((va_cpy (r 7) ((V i).2.1) 0 0 5), (va_cpy (r 8) ((V i).2.2.1) 0 0 5), (va_cpy (r 9) ((V i).2.2.2.1) 0 0 4), (va_cpy (r 10) ((V i).2.2.2.2.1) 0 0 20), (va_cpy (r 11) ((V i).2.2.2.2.2.1) 0 0 20), (V i).2.2.2.2.2.2))) hi (j := 6) (by decide) (e2 := ((g 3, g 4, g 5, b 2, g 6, n 13, n 14, n 15), ((va_cpy (r 7) ((V i).2.1) 0 0 5), (va_cpy (r 8) ((V i).2.2.1) 0 0 5), (va_cpy (r 9) ((V i).2.2.2.1) 0 0 4), (va_cpy (r 10) ((V i).2.2.2.2.1) 0 0 20), (va_cpy (r 11) ((V i).2.2.2.2.2.1) 0 0 20), (va_cpy (r 12) ((V i).2.2.2.2.2.2) 0 0 20)))) rfl) (by decide) (Nat.le_of_ble_eq_true rfl) dX1_copy_157 ?_
  exact E _ _ _ ((cw_eq rfl rfl rfl rfl rfl rfl rfl rfl rfl rfl rfl rfl rfl rfl rfl rfl rfl rfl rfl rfl rfl rfl rfl rfl rfl rfl rfl rfl rfl rfl rfl rfl rfl rfl rfl rfl rfl rfl rfl rfl rfl rfl rfl rfl rfl rfl rfl rfl rfl rfl rfl)) dX1_copy_160

set_option maxHeartbeats 4000000 in
set_option maxRecDepth 100000 in
theorem c_X1_copy_in (l : Launch) (θ : zH) (ea : Nat → Nat → Nat) (ad : Nat → Nat) (n : Nat → Nat) (g : Nat → Int32) (b : Nat → Bool) (r : Nat → Nat → Int32) (V : Nat → Ev) (i : Nat) (hi : i < 18) : cV l yX1_copy wsX1_copy 1 θ [.ref (ea i 0), .ref (ad 4)] (CW θ ea ad n g b r V) (fun Y => Y = CW θ ea ad (cnv (n 0) (n 1) (n 2) (n 3) (n 4) (n 5) (n 6) (n 7) (n 8) (n 9) (n 10) (n 11) (n 12) ((V i).1.2.2.2.2.2.1) ((V i).1.2.2.2.2.2.2.1) ((V i).1.2.2.2.2.2.2.2) (n 16) (n 17) (n 18) (n 19) (n 20)) (cgv (g 0) (g 1) (g 2) ((V i).1.1) ((V i).1.2.1) ((V i).1.2.2.1) ((V i).1.2.2.2.2.1)) (cbv (b 0) (b 1) ((V i).1.2.2.2.1)) (crv (r 0) (r 1) (r 2) (r 3) (r 4) (r 5) (r 6) (va_cpy (V i).2.1 (r 7) 0 0 5) (va_cpy (V i).2.2.1 (r 8) 0 0 5) (va_cpy (V i).2.2.2.1 (r 9) 0 0 4) (va_cpy (V i).2.2.2.2.1 (r 10) 0 0 20) (va_cpy (V i).2.2.2.2.2.1 (r 11) 0 0 20) (va_cpy (V i).2.2.2.2.2.2 (r 12) 0 0 20) (r 13) (r 14) (r 15) (r 16) (r 17) (r 18)) V) := by
  refine z_cV (by decide) rfl rfl (Nat.le_of_ble_eq_true rfl) (lv := [(0, .ref (ea i 0)), (1, .ref (ad 4))]) rfl (fun κ C E => ?_)
  have hinX1 : ∀ w ∈ wsX10, w ∈ wsX1_copy := by decide +kernel
  refine z_aload_n C dX1_copy_0 rfl (show zlk _ 0 = some (.ref (ea i 0)) from rfl) ?_
  refine z_ifnull C dX1_copy_1 ?_
  refine z_aload_n C dX1_copy_4 rfl (show zlk _ 1 = some (.ref (ad 4)) from rfl) ?_
  refine z_ifnonnull C 9 dX1_copy_5 (by decide) ?_
  refine z_aload_n C dX1_copy_9 rfl (show zlk _ 1 = some (.ref (ad 4)) from rfl) ?_
  refine z_aload_n C dX1_copy_10 rfl (show zlk _ 0 = some (.ref (ea i 0)) from rfl) ?_
  refine z_get C hinX1 (28 + (7 * i + 0)) ((ev_get (θ := θ) (ea := ea) (ad := ad) (V := V) (i := i) hi (j := 0) (by decide)).trans rfl) rfl 0 (by decide) (by decide +kernel) (v := .int ((V i).1.1)) rfl dX1_copy_11 ?_
  refine z_put C hinX1 tyX1 tyX1_ok nmX1 4 cc_4 rfl 0 (by decide) (by decide +kernel) rfl rfl rfl rfl (Nat.le_of_ble_eq_true rfl) _ cp_4_0 dX1_copy_14 ?_
  refine z_aload_n C dX1_copy_17 rfl (show zlk _ 1 = some (.ref (ad 4)) from rfl) ?_
  refine z_aload_n C dX1_copy_18 rfl (show zlk _ 0 = some (.ref (ea i 0)) from rfl) ?_
  refine z_get C hinX1 (28 + (7 * i + 0)) ((ev_get (θ := θ) (ea := ea) (ad := ad) (V := V) (i := i) hi (j := 0) (by decide)).trans rfl) rfl 1 (by decide) (by decide +kernel) (v := .int ((V i).1.2.1)) rfl dX1_copy_19 ?_
  refine z_put C hinX1 tyX1 tyX1_ok nmX1 4 cc_4 rfl 1 (by decide) (by decide +kernel) rfl rfl rfl rfl (Nat.le_of_ble_eq_true rfl) _ cv_4_1 dX1_copy_22 ?_
  refine z_aload_n C dX1_copy_25 rfl (show zlk _ 1 = some (.ref (ad 4)) from rfl) ?_
  refine z_aload_n C dX1_copy_26 rfl (show zlk _ 0 = some (.ref (ea i 0)) from rfl) ?_
  refine z_get C hinX1 (28 + (7 * i + 0)) ((ev_get (θ := θ) (ea := ea) (ad := ad) (V := V) (i := i) hi (j := 0) (by decide)).trans rfl) rfl 2 (by decide) (by decide +kernel) (v := .int ((V i).1.2.2.1)) rfl dX1_copy_27 ?_
  refine z_put C hinX1 tyX1 tyX1_ok nmX1 4 cc_4 rfl 2 (by decide) (by decide +kernel) rfl rfl rfl rfl (Nat.le_of_ble_eq_true rfl) _ cv_4_2 dX1_copy_30 ?_
  refine z_aload_n C dX1_copy_33 rfl (show zlk _ 1 = some (.ref (ad 4)) from rfl) ?_
  refine z_aload_n C dX1_copy_34 rfl (show zlk _ 0 = some (.ref (ea i 0)) from rfl) ?_
  refine z_get C hinX1 (28 + (7 * i + 0)) ((ev_get (θ := θ) (ea := ea) (ad := ad) (V := V) (i := i) hi (j := 0) (by decide)).trans rfl) rfl 3 (by decide) (by decide +kernel) (v := .int (bI ((V i).1.2.2.2.1))) rfl dX1_copy_35 ?_
  refine z_put C hinX1 tyX1 tyX1_ok nmX1 4 cc_4 rfl 3 (by decide) (by decide +kernel) rfl rfl (bI_n _) (bI_f2 _) (Nat.le_of_ble_eq_true rfl) _ cp_4_3 dX1_copy_38 ?_
  refine z_aload_n C dX1_copy_41 rfl (show zlk _ 1 = some (.ref (ad 4)) from rfl) ?_
  refine z_aload_n C dX1_copy_42 rfl (show zlk _ 0 = some (.ref (ea i 0)) from rfl) ?_
  refine z_get C hinX1 (28 + (7 * i + 0)) ((ev_get (θ := θ) (ea := ea) (ad := ad) (V := V) (i := i) hi (j := 0) (by decide)).trans rfl) rfl 4 (by decide) (by decide +kernel) (v := .int ((V i).1.2.2.2.2.1)) rfl dX1_copy_43 ?_
  refine z_put C hinX1 tyX1 tyX1_ok nmX1 4 cc_4 rfl 4 (by decide) (by decide +kernel) rfl rfl rfl rfl (Nat.le_of_ble_eq_true rfl) _ cv_4_4 dX1_copy_46 ?_
  refine z_aload_n C dX1_copy_49 rfl (show zlk _ 1 = some (.ref (ad 4)) from rfl) ?_
  refine z_aload_n C dX1_copy_50 rfl (show zlk _ 0 = some (.ref (ea i 0)) from rfl) ?_
  refine z_get C hinX1 (28 + (7 * i + 0)) ((ev_get (θ := θ) (ea := ea) (ad := ad) (V := V) (i := i) hi (j := 0) (by decide)).trans rfl) rfl 5 (by decide) (by decide +kernel) (v := .int (nI ((V i).1.2.2.2.2.2.1))) rfl dX1_copy_51 ?_
  refine z_put C hinX1 tyX1 tyX1_ok nmX1 4 cc_4 rfl 5 (by decide) (by decide +kernel) rfl rfl rfl rfl (Nat.le_of_ble_eq_true rfl) _ cp_4_5 dX1_copy_54 ?_
  refine z_aload_n C dX1_copy_57 rfl (show zlk _ 1 = some (.ref (ad 4)) from rfl) ?_
  refine z_aload_n C dX1_copy_58 rfl (show zlk _ 0 = some (.ref (ea i 0)) from rfl) ?_
  refine z_get C hinX1 (28 + (7 * i + 0)) ((ev_get (θ := θ) (ea := ea) (ad := ad) (V := V) (i := i) hi (j := 0) (by decide)).trans rfl) rfl 6 (by decide) (by decide +kernel) (v := .int (nI ((V i).1.2.2.2.2.2.2.1))) rfl dX1_copy_59 ?_
  refine z_put C hinX1 tyX1 tyX1_ok nmX1 4 cc_4 rfl 6 (by decide) (by decide +kernel) rfl rfl rfl rfl (Nat.le_of_ble_eq_true rfl) _ cv_4_6 dX1_copy_62 ?_
  refine z_aload_n C dX1_copy_65 rfl (show zlk _ 1 = some (.ref (ad 4)) from rfl) ?_
  refine z_aload_n C dX1_copy_66 rfl (show zlk _ 0 = some (.ref (ea i 0)) from rfl) ?_
  refine z_get C hinX1 (28 + (7 * i + 0)) ((ev_get (θ := θ) (ea := ea) (ad := ad) (V := V) (i := i) hi (j := 0) (by decide)).trans rfl) rfl 7 (by decide) (by decide +kernel) (v := .int (nI ((V i).1.2.2.2.2.2.2.2))) rfl dX1_copy_67 ?_
  refine z_put C hinX1 tyX1 tyX1_ok nmX1 4 cc_4 rfl 7 (by decide) (by decide +kernel) rfl rfl rfl rfl (Nat.le_of_ble_eq_true rfl) _ cv_4_7 dX1_copy_70 ?_
  refine z_aload_n C dX1_copy_73 rfl (show zlk _ 0 = some (.ref (ea i 0)) from rfl) ?_
  refine z_get C hinX1 (28 + (7 * i + 0)) ((ev_get (θ := θ) (ea := ea) (ad := ad) (V := V) (i := i) hi (j := 0) (by decide)).trans rfl) rfl 8 (by decide) (by decide +kernel) (v := .ref (ea i 1)) rfl dX1_copy_74 ?_
  refine z_iconst C (v := nI 0) dX1_copy_77 (by decide) ?_
  refine z_aload_n C dX1_copy_78 rfl (show zlk _ 1 = some (.ref (ad 4)) from rfl) ?_
  refine z_get C hinX1 4 cc_4 rfl 8 (by decide) (by decide +kernel) cg_4_8 dX1_copy_79 ?_
  refine z_iconst C (v := nI 0) dX1_copy_82 (by decide) ?_
  refine z_iconst C (v := nI 5) dX1_copy_83 (by decide) ?_
  refine z_copy C (st := []) (f := (V i).2.1) (g := (r 7)) (by decide +kernel) (by decide +kernel) (by decide +kernel) (by decide +kernel) (28 + (7 * i + 1)) 18 ((ev_get (θ := θ) (ea := ea) (ad := ad) (V := V) (i := i) hi (j := 1) (by decide)).trans rfl) ca_18 5 (by decide) (by decide) (by decide) _ cs_18 (by decide) (Nat.le_of_ble_eq_true rfl) dX1_copy_84 ?_
  refine z_aload_n C dX1_copy_87 rfl (show zlk _ 0 = some (.ref (ea i 0)) from rfl) ?_
  refine z_get C hinX1 (28 + (7 * i + 0)) ((ev_get (θ := θ) (ea := ea) (ad := ad) (V := V) (i := i) hi (j := 0) (by decide)).trans rfl) rfl 9 (by decide) (by decide +kernel) (v := .ref (ea i 2)) rfl dX1_copy_88 ?_
  refine z_iconst C (v := nI 0) dX1_copy_91 (by decide) ?_
  refine z_aload_n C dX1_copy_92 rfl (show zlk _ 1 = some (.ref (ad 4)) from rfl) ?_
  refine z_get C hinX1 4 cc_4 rfl 9 (by decide) (by decide +kernel) cg_4_9 dX1_copy_93 ?_
  refine z_iconst C (v := nI 0) dX1_copy_96 (by decide) ?_
  refine z_iconst C (v := nI 5) dX1_copy_97 (by decide) ?_
  refine z_copy C (st := []) (f := (V i).2.2.1) (g := (r 8)) (by decide +kernel) (by decide +kernel) (by decide +kernel) (by decide +kernel) (28 + (7 * i + 2)) 19 ((ev_get (θ := θ) (ea := ea) (ad := ad) (V := V) (i := i) hi (j := 2) (by decide)).trans rfl) cav_19 5 (by decide) (by decide) (by decide) _ csv_19 (by decide) (Nat.le_of_ble_eq_true rfl) dX1_copy_98 ?_
  refine z_aload_n C dX1_copy_101 rfl (show zlk _ 0 = some (.ref (ea i 0)) from rfl) ?_
  refine z_get C hinX1 (28 + (7 * i + 0)) ((ev_get (θ := θ) (ea := ea) (ad := ad) (V := V) (i := i) hi (j := 0) (by decide)).trans rfl) rfl 10 (by decide) (by decide +kernel) (v := .ref (ea i 3)) rfl dX1_copy_102 ?_
  refine z_iconst C (v := nI 0) dX1_copy_105 (by decide) ?_
  refine z_aload_n C dX1_copy_106 rfl (show zlk _ 1 = some (.ref (ad 4)) from rfl) ?_
  refine z_get C hinX1 4 cc_4 rfl 10 (by decide) (by decide +kernel) cg_4_10 dX1_copy_107 ?_
  refine z_iconst C (v := nI 0) dX1_copy_110 (by decide) ?_
  refine z_iconst C (v := nI 4) dX1_copy_111 (by decide) ?_
  refine z_copy C (st := []) (f := (V i).2.2.2.1) (g := (r 9)) (by decide +kernel) (by decide +kernel) (by decide +kernel) (by decide +kernel) (28 + (7 * i + 3)) 20 ((ev_get (θ := θ) (ea := ea) (ad := ad) (V := V) (i := i) hi (j := 3) (by decide)).trans rfl) cav_20 4 (by decide) (by decide) (by decide) _ csv_20 (by decide) (Nat.le_of_ble_eq_true rfl) dX1_copy_112 ?_
  refine z_aload_n C dX1_copy_115 rfl (show zlk _ 0 = some (.ref (ea i 0)) from rfl) ?_
  refine z_get C hinX1 (28 + (7 * i + 0)) ((ev_get (θ := θ) (ea := ea) (ad := ad) (V := V) (i := i) hi (j := 0) (by decide)).trans rfl) rfl 11 (by decide) (by decide +kernel) (v := .ref (ea i 4)) rfl dX1_copy_116 ?_
  refine z_iconst C (v := nI 0) dX1_copy_119 (by decide) ?_
  refine z_aload_n C dX1_copy_120 rfl (show zlk _ 1 = some (.ref (ad 4)) from rfl) ?_
  refine z_get C hinX1 4 cc_4 rfl 11 (by decide) (by decide +kernel) cg_4_11 dX1_copy_121 ?_
  refine z_iconst C (v := nI 0) dX1_copy_124 (by decide) ?_
  refine z_bipush C (v := nI 20) dX1_copy_125 (by decide) ?_
  refine z_copy C (st := []) (f := (V i).2.2.2.2.1) (g := (r 10)) (by decide +kernel) (by decide +kernel) (by decide +kernel) (by decide +kernel) (28 + (7 * i + 4)) 21 ((ev_get (θ := θ) (ea := ea) (ad := ad) (V := V) (i := i) hi (j := 4) (by decide)).trans rfl) cav_21 20 (by decide) (by decide) (by decide) _ csv_21 (by decide) (Nat.le_of_ble_eq_true rfl) dX1_copy_127 ?_
  refine z_aload_n C dX1_copy_130 rfl (show zlk _ 0 = some (.ref (ea i 0)) from rfl) ?_
  refine z_get C hinX1 (28 + (7 * i + 0)) ((ev_get (θ := θ) (ea := ea) (ad := ad) (V := V) (i := i) hi (j := 0) (by decide)).trans rfl) rfl 12 (by decide) (by decide +kernel) (v := .ref (ea i 5)) rfl dX1_copy_131 ?_
  refine z_iconst C (v := nI 0) dX1_copy_134 (by decide) ?_
  refine z_aload_n C dX1_copy_135 rfl (show zlk _ 1 = some (.ref (ad 4)) from rfl) ?_
  refine z_get C hinX1 4 cc_4 rfl 12 (by decide) (by decide +kernel) cg_4_12 dX1_copy_136 ?_
  refine z_iconst C (v := nI 0) dX1_copy_139 (by decide) ?_
  refine z_bipush C (v := nI 20) dX1_copy_140 (by decide) ?_
  refine z_copy C (st := []) (f := (V i).2.2.2.2.2.1) (g := (r 11)) (by decide +kernel) (by decide +kernel) (by decide +kernel) (by decide +kernel) (28 + (7 * i + 5)) 22 ((ev_get (θ := θ) (ea := ea) (ad := ad) (V := V) (i := i) hi (j := 5) (by decide)).trans rfl) cav_22 20 (by decide) (by decide) (by decide) _ csv_22 (by decide) (Nat.le_of_ble_eq_true rfl) dX1_copy_142 ?_
  refine z_aload_n C dX1_copy_145 rfl (show zlk _ 0 = some (.ref (ea i 0)) from rfl) ?_
  refine z_get C hinX1 (28 + (7 * i + 0)) ((ev_get (θ := θ) (ea := ea) (ad := ad) (V := V) (i := i) hi (j := 0) (by decide)).trans rfl) rfl 13 (by decide) (by decide +kernel) (v := .ref (ea i 6)) rfl dX1_copy_146 ?_
  refine z_iconst C (v := nI 0) dX1_copy_149 (by decide) ?_
  refine z_aload_n C dX1_copy_150 rfl (show zlk _ 1 = some (.ref (ad 4)) from rfl) ?_
  refine z_get C hinX1 4 cc_4 rfl 13 (by decide) (by decide +kernel) cg_4_13 dX1_copy_151 ?_
  refine z_iconst C (v := nI 0) dX1_copy_154 (by decide) ?_
  refine z_bipush C (v := nI 20) dX1_copy_155 (by decide) ?_
  refine z_copy C (st := []) (f := (V i).2.2.2.2.2.2) (g := (r 12)) (by decide +kernel) (by decide +kernel) (by decide +kernel) (by decide +kernel) (28 + (7 * i + 6)) 23 ((ev_get (θ := θ) (ea := ea) (ad := ad) (V := V) (i := i) hi (j := 6) (by decide)).trans rfl) cav_23 20 (by decide) (by decide) (by decide) _ csv_23 (by decide) (Nat.le_of_ble_eq_true rfl) dX1_copy_157 ?_
  exact E _ _ _ ((cw_eq rfl rfl rfl rfl rfl rfl rfl rfl rfl rfl rfl rfl rfl rfl rfl rfl rfl rfl rfl rfl rfl rfl rfl rfl rfl rfl rfl rfl rfl rfl rfl rfl rfl rfl rfl rfl rfl rfl rfl rfl rfl rfl rfl rfl rfl rfl rfl rfl rfl rfl rfl)) dX1_copy_160

