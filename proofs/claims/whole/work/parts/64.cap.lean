set_option maxHeartbeats 2000000 in
theorem st_capital {l : Launch} {θ : zH} {ea : Nat → Nat → Nat} {ad ad' : Nat → Nat} {n : Nat → Nat} {g : Nat → Int32} {b : Nat → Bool} {r : Nat → Nat → Int32} {V : Nat → Ev} {n' : Nat → Nat} {g' : Int32} {r' : Nat → Nat → Int32} (h : RR n g b r V n' g' r') : pS l θ ea ad ad' yX5_capital wsX5_capital 6 yX6_capital wsX6_capital 5 n g b r V n' g' r' [] := by
  obtain ⟨hC, hT, hSd, hTo, hE, hPa, hI⟩ := id h
  obtain ⟨c1, c2, c3, c4, c5, c6, c7, c8, c9, c10, c11⟩ := id hC
  obtain ⟨t1, t2, t3, t4, t5⟩ := id hT
  obtain ⟨s1, s2⟩ := id hSd
  obtain ⟨o1, o2, o3, o4, o5⟩ := id hTo
  obtain ⟨p1, p2, p3, p4⟩ := id hPa
  obtain ⟨f0, fd, fu, f1, fv, f2, f3, f4, f5⟩ := id hE.1
  have ho : ∀ s, s < n 10 → r' 2 s = r 4 s := fun s hs => (c10 s hs).1
  have hoD : ∀ s, s < n 10 → isD (r 4 s) := fun s hs => (c10 s hs).2
  have w5 : n' 3 ≤ 5 := by omega
  have s6 : n' 1 ≤ 6 := by omega
  have g30 : n' 0 ≤ 30 := by omega
  have k6 : n' 5 ≤ 6 := by omega
  have t6 : n' 27 ≤ 6 := by omega
  have u16 : n' 22 ≤ 16 := by omega
  have zB : n 14 ≤ 20 := hE.2.2.2.2.2.1
  have nB : n 15 < 20 := hE.2.2.2.2.2.2.1
  have b1 : r' 7 21 = nI (n 14) := hE.2.2.2.2.1
  have d9 : n 13 ≤ 9060 := fd
  have d30 : n 13 < 2 ^ 30 := by omega
  refine ⟨_, _, c_X5_capital l θ ea ad n g b r V t2, c_X6_capital l θ ad' n' g' r' (by omega) (by rw [t1, t3]; exact t4), fun x Y x' Y' h1 h2 => ?_⟩
  have key : (pA (r' 9) (n' 10) (n' 10 + 1) (0, 0, 0, 0, 0, r' 17, r' 19, r' 21)).1 = (pA (r 0) (n 2) (n 2 + 1) (0, 0, 0, 0, 0, r 1, r 2, r 3)).1 ∧ PI (n 2) (pA (r 0) (n 2) (n 2 + 1) (0, 0, 0, 0, 0, r 1, r 2, r 3)).2 ∧ PP (pA (r 0) (n 2) (n 2 + 1) (0, 0, 0, 0, 0, r 1, r 2, r 3)).2 (pA (r' 9) (n' 10) (n' 10 + 1) (0, 0, 0, 0, 0, r' 17, r' 19, r' 21)).2 := by
    rw [t1, t3]
    exact pA_PP (n 2 + 1) _ _ ⟨Nat.zero_le _, ⟨Nat.zero_le _, Nat.zero_le _, Nat.zero_le _, Nat.zero_le _⟩, fun j hj => absurd hj (Nat.not_lt_zero _), fun j hj => absurd hj (Nat.not_lt_zero _), fun j hj => absurd hj (Nat.not_lt_zero _)⟩ ⟨rfl, rfl, rfl, rfl, rfl, fun j hj => absurd hj (Nat.not_lt_zero _), fun j hj => absurd hj (Nat.not_lt_zero _), fun j hj => absurd hj (Nat.not_lt_zero _)⟩
  generalize pA (r 0) (n 2) (n 2 + 1) (0, 0, 0, 0, 0, r 1, r 2, r 3) = A at h1 key
  generalize pA (r' 9) (n' 10) (n' 10 + 1) (0, 0, 0, 0, 0, r' 17, r' 19, r' 21) = A' at h2 key
  obtain ⟨k1, k2, k3⟩ := key
  rcases h1 with ⟨a1, a2, p, t, G0, S0, W0, C0, o, lm, lk, a3⟩ | ⟨a1, a2, p, a3⟩
  · rcases h2 with ⟨d1, d2, n1, r1, hJ, d3⟩ | ⟨d1, d2, p', x1, y1, d3⟩
    · obtain ⟨j0, j1, j3, j5, j8, j10, j22, j27, q2, q4, q6, q7, q9, q23, q24, q25, q26, q28, q29, q30, q31, q32⟩ := hJ
      refine ⟨by rw [a2, d2, k1], _, _, _, _, _, _, _, _, a3, d3, ?_, ?_, ?_, ?_, ?_, ?_, ?_⟩
      · show rCity (n 9) (n 10) (n 11) (n 12) (b 1) (r 4) (r 6) (n1 0) (n1 1) (n1 3) (n1 5) (r1 2) (r1 6)
        rw [j0, j1, j3, j5, q2, q6]; exact hC
      · show rText 0 (r 0) (nI A.1.2) 0 (r1 9) (nI A'.1.2)
        rw [q9, k1]
        exact ⟨rfl, Nat.zero_le _, t3, fun q hq => absurd hq (Nat.not_lt_zero _), rfl⟩
      · show rSeed (n 0) (n1 8)
        rw [j8]; exact hSd
      · show rTold (n 1) (g 0) (g 1) (n1 27) (r1 28) (r1 29)
        rw [j27, q28, q29]; exact hTo
      · show EvR (n 10) (n 11) (nowE n g b r) (r1 7)
        rw [q7]; exact hE
      · show rPast (n 10) (n 11) (n 16) (n 17) V (n1 22) (r1 23)
        rw [j22, q23]; exact hPa
      · show rImg (n 10) (n 11) V (r 18) (r 17) (r1 31) (r1 32)
        rw [q31, q32]; exact hI
    · exact absurd (by rw [← k1, d1]) a1
  · rcases h2 with ⟨d1, d2, n1, r1, hJ, d3⟩ | ⟨d1, d2, p', x1, y1, d3⟩
    · exact absurd (by rw [k1, a1]) d1
    · obtain ⟨-, ⟨i1, i2, i3, i4⟩, i5, i6, i7⟩ := k2
      obtain ⟨-, m1, m2, m3, m4, m5, m6, m7⟩ := k3
      refine ⟨by rw [a2, d2, m2], _, _, _, _, _, _, _, _, a3, d3, ?_, ?_, ?_, ?_, ?_, ?_, ?_⟩
      · refine ⟨m1, i1, m2, i2, m3, i3, m4, i4, rfl, fun s hs => ?_, fun c hc => ?_⟩
        · show m_cq (r' 2) A'.2.2.2.2.2.2.1 6 s = va_cpy A.2.2.2.2.2.2.1 (r 4) 0 0 6 s ∧ isD (va_cpy A.2.2.2.2.2.2.1 (r 4) 0 0 6 s)
          have hs' : s < A.2.2.2.1 := hs
          rw [cq_at, if_pos (by omega), cpy0 (by omega)]
          exact ⟨m5 s hs', i5 s hs'⟩
        · show m_cq (r' 6) A'.2.2.2.2.2.2.2.2 6 c = va_cpy A.2.2.2.2.2.2.2.2 (r 6) 0 0 6 c ∧ ∃ v : Nat, v < 64 ∧ va_cpy A.2.2.2.2.2.2.2.2 (r 6) 0 0 6 c = nI v
          have hc' : c < A.2.2.2.2.2.1 := hc
          rw [cq_at, if_pos (by omega), cpy0 (by omega)]
          exact ⟨m7 c hc', i7 c hc'⟩
      · exact ⟨rfl, Nat.zero_le _, t3, fun q hq => absurd hq (Nat.not_lt_zero _), rfl⟩
      · exact hSd
      · exact told_0
      · show EvR A.2.2.2.1 A.2.2.2.2.1 ((nI 0, nI 0, nI 0, false, nI 0, 0, 0, 0), (m_cq (r 7) (va_cpy A.2.2.2.2.2.2.2.1 (r 5) 0 0 5) 5, k_nn (r 8) 5, k_tz (r 9) 4, r 10, r 11, r 12)) (m_lm (m_emp (r' 7)) A'.2.2.2.2.2.2.2.1 A'.2.2.2.2.1)
        rw [m3]
        refine begin_eq i2 i3 (l := A.2.2.2.2.2.2.2.1) (fun w hw => ⟨m6 w hw, ?_, i6 w hw⟩) (fun w hw => nn_at _ 5 w hw) (fun q hq => tz_at _ 4 q hq)
        have hw' : w < A.2.2.2.2.1 := hw
        rw [cq_at, if_pos (by omega), cpy0 (by omega)]
      · exact past_0
      · exact img_0 hI
