set_option maxHeartbeats 1000000 in
theorem st_feed {l : Launch} {θ : zH} {ea : Nat → Nat → Nat} {ad ad' : Nat → Nat} {n : Nat → Nat} {g : Nat → Int32} {b : Nat → Bool} {r : Nat → Nat → Int32} {V : Nat → Ev} {n' : Nat → Nat} {g' : Int32} {r' : Nat → Nat → Int32} (h : RR n g b r V n' g' r') (x : Int32) : pS l θ ea ad ad' yX5_feed wsX5_feed 1 yX6_feed wsX6_feed 1 n g b r V n' g' r' [.int x] := by
  obtain ⟨hC, hT, hSd, hTo, hE, hPa, hI⟩ := id h
  obtain ⟨c1, c2, c3, c4, c5, c6, c7, c8, c9, c10, c11⟩ := id hC
  obtain ⟨t1, t2, t3, t4, t5⟩ := id hT
  obtain ⟨s1, s2⟩ := id hSd
  obtain ⟨o1, o2, o3, o4, o5⟩ := id hTo
  obtain ⟨p1, p2, p3, p4⟩ := id hPa
  obtain ⟨f0, fd, fu, f1, fv, f2, f3, f4, f5⟩ := id hE.1
  have ho : ∀ s, s < n 10 → r' 2 s = r 4 s := fun s hs => (c10 s hs).1
  have hoD : ∀ s, s < n 10 → isD (r 4 s) := fun s hs => (c10 s hs).2
  have w5 : n' 3 ≤ 5 := by omega
  have s6 : n' 1 ≤ 6 := by omega
  have g30 : n' 0 ≤ 30 := by omega
  have k6 : n' 5 ≤ 6 := by omega
  have t6 : n' 27 ≤ 6 := by omega
  have u16 : n' 22 ≤ 16 := by omega
  have zB : n 14 ≤ 20 := hE.2.2.2.2.2.1
  have nB : n 15 < 20 := hE.2.2.2.2.2.2.1
  have b1 : r' 7 21 = nI (n 14) := hE.2.2.2.2.1
  have d9 : n 13 ≤ 9060 := fd
  have d30 : n 13 < 2 ^ 30 := by omega
  cases hx : okN x 256 with
  | false =>
    exact pS_of (c_X5_feed_1 l θ ea ad n g b r V x hx) (c_X6_feed_1 l θ ad' n' g' r' x hx) (rfl) (h)
  | true =>
    by_cases hL : n 2 = 240
    · exact pS_of (c_X5_feed_2 l θ ea ad n g b r V x hx (by omega)) (c_X6_feed_2 l θ ad' n' g' r' x hx (by omega)) (rfl) (h)
    · exact pS_of (c_X5_feed_3 l θ ea ad n g b r V x hx (by omega)) (c_X6_feed_3 l θ ad' n' g' r' x hx (by omega)) (by rw [t1]) (⟨hC, text_feed hT (by omega) hx, hSd, hTo, hE, hPa, hI⟩)
set_option maxHeartbeats 1000000 in
theorem st_fault {l : Launch} {θ : zH} {ea : Nat → Nat → Nat} {ad ad' : Nat → Nat} {n : Nat → Nat} {g : Nat → Int32} {b : Nat → Bool} {r : Nat → Nat → Int32} {V : Nat → Ev} {n' : Nat → Nat} {g' : Int32} {r' : Nat → Nat → Int32} (h : RR n g b r V n' g' r')  : pS l θ ea ad ad' yX5_fault wsX5_fault 0 yX6_fault wsX6_fault 0 n g b r V n' g' r' [] := by
  obtain ⟨hC, hT, hSd, hTo, hE, hPa, hI⟩ := id h
  obtain ⟨c1, c2, c3, c4, c5, c6, c7, c8, c9, c10, c11⟩ := id hC
  obtain ⟨t1, t2, t3, t4, t5⟩ := id hT
  obtain ⟨s1, s2⟩ := id hSd
  obtain ⟨o1, o2, o3, o4, o5⟩ := id hTo
  obtain ⟨p1, p2, p3, p4⟩ := id hPa
  obtain ⟨f0, fd, fu, f1, fv, f2, f3, f4, f5⟩ := id hE.1
  have ho : ∀ s, s < n 10 → r' 2 s = r 4 s := fun s hs => (c10 s hs).1
  have hoD : ∀ s, s < n 10 → isD (r 4 s) := fun s hs => (c10 s hs).2
  have w5 : n' 3 ≤ 5 := by omega
  have s6 : n' 1 ≤ 6 := by omega
  have g30 : n' 0 ≤ 30 := by omega
  have k6 : n' 5 ≤ 6 := by omega
  have t6 : n' 27 ≤ 6 := by omega
  have u16 : n' 22 ≤ 16 := by omega
  have zB : n 14 ≤ 20 := hE.2.2.2.2.2.1
  have nB : n 15 < 20 := hE.2.2.2.2.2.2.1
  have b1 : r' 7 21 = nI (n 14) := hE.2.2.2.2.1
  have d9 : n 13 ≤ 9060 := fd
  have d30 : n 13 < 2 ^ 30 := by omega
  exact pS_of (c_X5_fault l θ ea ad n g b r V) (c_X6_fault l θ ad' n' g' r') (t5.symm) (h)
set_option maxHeartbeats 1000000 in
theorem st_told {l : Launch} {θ : zH} {ea : Nat → Nat → Nat} {ad ad' : Nat → Nat} {n : Nat → Nat} {g : Nat → Int32} {b : Nat → Bool} {r : Nat → Nat → Int32} {V : Nat → Ev} {n' : Nat → Nat} {g' : Int32} {r' : Nat → Nat → Int32} (h : RR n g b r V n' g' r') (x : Int32) : pS l θ ea ad ad' yX5_told wsX5_told 4 yX6_told wsX6_told 5 n g b r V n' g' r' [.int x] := by
  obtain ⟨hC, hT, hSd, hTo, hE, hPa, hI⟩ := id h
  obtain ⟨c1, c2, c3, c4, c5, c6, c7, c8, c9, c10, c11⟩ := id hC
  obtain ⟨t1, t2, t3, t4, t5⟩ := id hT
  obtain ⟨s1, s2⟩ := id hSd
  obtain ⟨o1, o2, o3, o4, o5⟩ := id hTo
  obtain ⟨p1, p2, p3, p4⟩ := id hPa
  obtain ⟨f0, fd, fu, f1, fv, f2, f3, f4, f5⟩ := id hE.1
  have ho : ∀ s, s < n 10 → r' 2 s = r 4 s := fun s hs => (c10 s hs).1
  have hoD : ∀ s, s < n 10 → isD (r 4 s) := fun s hs => (c10 s hs).2
  have w5 : n' 3 ≤ 5 := by omega
  have s6 : n' 1 ≤ 6 := by omega
  have g30 : n' 0 ≤ 30 := by omega
  have k6 : n' 5 ≤ 6 := by omega
  have t6 : n' 27 ≤ 6 := by omega
  have u16 : n' 22 ≤ 16 := by omega
  have zB : n 14 ≤ 20 := hE.2.2.2.2.2.1
  have nB : n 15 < 20 := hE.2.2.2.2.2.2.1
  have b1 : r' 7 21 = nI (n 14) := hE.2.2.2.2.1
  have d9 : n 13 ≤ 9060 := fd
  have d30 : n 13 < 2 ^ 30 := by omega
  cases hx : okN x 16 with
  | false =>
    exact pS_of (c_X5_told_x l θ ea ad n g b r V x hx) (c_X6_told_x l θ ad' n' g' r' x hx) (rfl) (h)
  | true =>
    obtain ⟨q, q_lt, rfl⟩ := okN_of hx (by decide)
    rcases (show q = 0 ∨ q = 1 ∨ q = 2 ∨ q = 3 ∨ q = 4 ∨ q = 5 ∨ q = 6 ∨ q = 7 ∨ q = 8 ∨ q = 9 ∨ q = 10 ∨ q = 11 ∨ q = 12 ∨ q = 13 ∨ q = 14 ∨ q = 15 by omega) with rfl | rfl | rfl | rfl | rfl | rfl | rfl | rfl | rfl | rfl | rfl | rfl | rfl | rfl | rfl | rfl
    · exact pS_of (c_X5_told_0 l θ ea ad n g b r V c6 c4 c2) (c_X6_told_0 l θ ad' n' g' r' w5 s6 g30 t6) (by rw [c1]) (h)
    · exact pS_of (c_X5_told_1 l θ ea ad n g b r V c6 c4 c2) (c_X6_told_1 l θ ad' n' g' r' w5 s6 g30 t6) (by rw [c3]) (h)
    · exact pS_of (c_X5_told_2 l θ ea ad n g b r V c6 c4 c2) (c_X6_told_2 l θ ad' n' g' r' w5 s6 g30 t6) (by rw [c5]) (h)
    · exact pS_of (c_X5_told_3 l θ ea ad n g b r V c6 c4 c2) (c_X6_told_3 l θ ad' n' g' r' w5 s6 g30 t6) (by rw [c7]) (h)
    · exact pS_of (c_X5_told_4 l θ ea ad n g b r V c6 c4 c2) (c_X6_told_4 l θ ad' n' g' r' w5 s6 g30 t6) (by rw [t1]) (h)
    · exact pS_of (c_X5_told_5 l θ ea ad n g b r V c6 c4 c2) (c_X6_told_5 l θ ad' n' g' r' w5 s6 g30 t6) (f0.symm) (h)
    · exact pS_of (c_X5_told_6 l θ ea ad n g b r V c6 c4 c2) (c_X6_told_6 l θ ad' n' g' r' w5 s6 g30 t6) (by rw [f1]; rfl) (h)
    · exact pS_of (c_X5_told_7 l θ ea ad n g b r V c6 c4 c2) (c_X6_told_7 l θ ad' n' g' r' w5 s6 g30 t6) (f2.symm) (h)
    · exact pS_of (c_X5_told_8 l θ ea ad n g b r V c6 c4 c2) (c_X6_told_8 l θ ad' n' g' r' w5 s6 g30 t6) (f3.symm) (h)
    · exact pS_of (c_X5_told_9 l θ ea ad n g b r V c6 c4 c2) (c_X6_told_9 l θ ad' n' g' r' w5 s6 g30 t6) (f4.symm) (h)
    · exact pS_of (c_X5_told_10 l θ ea ad n g b r V c6 c4 c2) (c_X6_told_10 l θ ad' n' g' r' w5 s6 g30 t6) (f5.symm) (h)
    · exact pS_of (c_X5_told_11 l θ ea ad n g b r V c6 c4 c2) (c_X6_told_11 l θ ad' n' g' r' w5 s6 g30 t6) (by rw [c5]; exact cloud_eq c4 c6 hE rfl c3 c1 ho (n 11) (Nat.le_refl _)) (h)
    · exact pS_of (c_X5_told_12 l θ ea ad n g b r V c6 c4 c2) (c_X6_told_12 l θ ad' n' g' r' w5 s6 g30 t6) (b1.symm) (h)
    · exact pS_of (c_X5_told_13 l θ ea ad n g b r V c6 c4 c2) (c_X6_told_13 l θ ad' n' g' r' w5 s6 g30 t6) (by rw [o1]) (h)
    · exact pS_of (c_X5_told_14 l θ ea ad n g b r V c6 c4 c2) (c_X6_told_14 l θ ad' n' g' r' w5 s6 g30 t6) (by rw [c3]; exact sf_eq (by rw [o1]; exact ⟨rfl, hTo.2⟩) ho (n 10) (Nat.le_refl _)) (h)
    · exact pS_of (c_X5_told_15 l θ ea ad n g b r V c6 c4 c2) (c_X6_told_15 l θ ad' n' g' r' w5 s6 g30 t6) (by rw [p1]) (h)
set_option maxHeartbeats 1000000 in
theorem st_sitter {l : Launch} {θ : zH} {ea : Nat → Nat → Nat} {ad ad' : Nat → Nat} {n : Nat → Nat} {g : Nat → Int32} {b : Nat → Bool} {r : Nat → Nat → Int32} {V : Nat → Ev} {n' : Nat → Nat} {g' : Int32} {r' : Nat → Nat → Int32} (h : RR n g b r V n' g' r') (s x : Int32) : pS l θ ea ad ad' yX5_sitter wsX5_sitter 3 yX6_sitter wsX6_sitter 2 n g b r V n' g' r' [.int s, .int x] := by
  obtain ⟨hC, hT, hSd, hTo, hE, hPa, hI⟩ := id h
  obtain ⟨c1, c2, c3, c4, c5, c6, c7, c8, c9, c10, c11⟩ := id hC
  obtain ⟨t1, t2, t3, t4, t5⟩ := id hT
  obtain ⟨s1, s2⟩ := id hSd
  obtain ⟨o1, o2, o3, o4, o5⟩ := id hTo
  obtain ⟨p1, p2, p3, p4⟩ := id hPa
  obtain ⟨f0, fd, fu, f1, fv, f2, f3, f4, f5⟩ := id hE.1
  have ho : ∀ s, s < n 10 → r' 2 s = r 4 s := fun s hs => (c10 s hs).1
  have hoD : ∀ s, s < n 10 → isD (r 4 s) := fun s hs => (c10 s hs).2
  have w5 : n' 3 ≤ 5 := by omega
  have s6 : n' 1 ≤ 6 := by omega
  have g30 : n' 0 ≤ 30 := by omega
  have k6 : n' 5 ≤ 6 := by omega
  have t6 : n' 27 ≤ 6 := by omega
  have u16 : n' 22 ≤ 16 := by omega
  have zB : n 14 ≤ 20 := hE.2.2.2.2.2.1
  have nB : n 15 < 20 := hE.2.2.2.2.2.2.1
  have b1 : r' 7 21 = nI (n 14) := hE.2.2.2.2.1
  have d9 : n 13 ≤ 9060 := fd
  have d30 : n 13 < 2 ^ 30 := by omega
  cases hj : okN s (n 10) with
  | false =>
    exact pS_of (c_X5_sitter_1 l θ ea ad n g b r V s x c4 hj) (c_X6_sitter_1 l θ ad' n' g' r' s x s6 (by rw [c3]; exact hj)) (rfl) (h)
  | true =>
    obtain ⟨j, j_lt, rfl⟩ := okN_of hj (by omega)
    cases hx : okN x 3 with
    | false =>
      exact pS_of (c_X5_sitter_3 l θ ea ad n g b r V j x c4 (by omega) hx) (c_X6_sitter_3 l θ ad' n' g' r' j x s6 (by omega) hx) (rfl) (h)
    | true =>
      obtain ⟨q, q_lt, rfl⟩ := okN_of hx (by decide)
      rcases (show q = 0 ∨ q = 1 ∨ q = 2 by omega) with rfl | rfl | rfl
      · exact pS_of (c_X5_sitter_20 l θ ea ad n g b r V j c4 (by omega) nB zB) (c_X6_sitter_20 l θ ad' n' g' r' j (n 14) s6 (by omega) b1 zB) ((c10 j j_lt).1.symm) (h)
      · exact pS_of (c_X5_sitter_21 l θ ea ad n g b r V j c4 (by omega) nB zB) (c_X6_sitter_21 l θ ad' n' g' r' j (n 14) s6 (by omega) b1 zB) (wo_eq c4 c6 hE.2.1 j_lt) (h)
      · exact pS_of (c_X5_sitter_22 l θ ea ad n g b r V j c4 (by omega) nB zB) (c_X6_sitter_22 l θ ad' n' g' r' j (n 14) s6 (by omega) b1 zB) (oft_eq hE.2.2.2.2 (nI j)) (h)
set_option maxHeartbeats 1000000 in
theorem st_window {l : Launch} {θ : zH} {ea : Nat → Nat → Nat} {ad ad' : Nat → Nat} {n : Nat → Nat} {g : Nat → Int32} {b : Nat → Bool} {r : Nat → Nat → Int32} {V : Nat → Ev} {n' : Nat → Nat} {g' : Int32} {r' : Nat → Nat → Int32} (h : RR n g b r V n' g' r') (w x : Int32) : pS l θ ea ad ad' yX5_window wsX5_window 3 yX6_window wsX6_window 4 n g b r V n' g' r' [.int w, .int x] := by
  obtain ⟨hC, hT, hSd, hTo, hE, hPa, hI⟩ := id h
  obtain ⟨c1, c2, c3, c4, c5, c6, c7, c8, c9, c10, c11⟩ := id hC
  obtain ⟨t1, t2, t3, t4, t5⟩ := id hT
  obtain ⟨s1, s2⟩ := id hSd
  obtain ⟨o1, o2, o3, o4, o5⟩ := id hTo
  obtain ⟨p1, p2, p3, p4⟩ := id hPa
  obtain ⟨f0, fd, fu, f1, fv, f2, f3, f4, f5⟩ := id hE.1
  have ho : ∀ s, s < n 10 → r' 2 s = r 4 s := fun s hs => (c10 s hs).1
  have hoD : ∀ s, s < n 10 → isD (r 4 s) := fun s hs => (c10 s hs).2
  have w5 : n' 3 ≤ 5 := by omega
  have s6 : n' 1 ≤ 6 := by omega
  have g30 : n' 0 ≤ 30 := by omega
  have k6 : n' 5 ≤ 6 := by omega
  have t6 : n' 27 ≤ 6 := by omega
  have u16 : n' 22 ≤ 16 := by omega
  have zB : n 14 ≤ 20 := hE.2.2.2.2.2.1
  have nB : n 15 < 20 := hE.2.2.2.2.2.2.1
  have b1 : r' 7 21 = nI (n 14) := hE.2.2.2.2.1
  have d9 : n 13 ≤ 9060 := fd
  have d30 : n 13 < 2 ^ 30 := by omega
  cases hw : okN w (n 11) with
  | false =>
    exact pS_of (c_X5_window_1 l θ ea ad n g b r V w x c6 hw) (c_X6_window_1 l θ ad' n' g' r' w x w5 (by rw [c5]; exact hw)) (rfl) (h)
  | true =>
    obtain ⟨w, w_lt, rfl⟩ := okN_of hw (by omega)
    cases hx : okN x 4 with
    | false =>
      exact pS_of (c_X5_window_3 l θ ea ad n g b r V w x c6 (by omega) hx) (c_X6_window_3 l θ ad' n' g' r' w x w5 (by omega) hx) (rfl) (h)
    | true =>
      obtain ⟨q, q_lt, rfl⟩ := okN_of hx (by decide)
      rcases (show q = 0 ∨ q = 1 ∨ q = 2 ∨ q = 3 by omega) with rfl | rfl | rfl | rfl
      · exact pS_of (c_X5_window_20 l θ ea ad n g b r V w c6 (by omega) c4 c2) (c_X6_window_20 l θ ad' n' g' r' w w5 (by omega) s6 g30) ((hE.2.2.1 w w_lt).1.symm) (h)
      · exact pS_of (c_X5_window_21 l θ ea ad n g b r V w c6 (by omega) c4 c2) (c_X6_window_21 l θ ad' n' g' r' w w5 (by omega) s6 g30) (by rw [c3]; exact (who_eq c4 hE.2.1 (show w < 5 by omega)).symm) (h)
      · exact pS_of (c_X5_window_22 l θ ea ad n g b r V w c6 (by omega) c4 c2) (c_X6_window_22 l θ ad' n' g' r' w w5 (by omega) s6 g30) (dat_eq c4 c6 hE c3 c1 ho w_lt) (h)
      · exact pS_of (c_X5_window_23 l θ ea ad n g b r V w c6 (by omega) c4 c2) (c_X6_window_23 l θ ad' n' g' r' w w5 (by omega) s6 g30) (by rw [← (dat_eq c4 c6 hE c3 c1 ho w_lt), c3, (ml_eq ho (fun s hs => isD_and (isD_xor (hoD s hs) dat_D)) (n 10) (Nat.le_refl _)).1]) (h)
set_option maxHeartbeats 1000000 in
theorem st_album {l : Launch} {θ : zH} {ea : Nat → Nat → Nat} {ad ad' : Nat → Nat} {n : Nat → Nat} {g : Nat → Int32} {b : Nat → Bool} {r : Nat → Nat → Int32} {V : Nat → Ev} {n' : Nat → Nat} {g' : Int32} {r' : Nat → Nat → Int32} (h : RR n g b r V n' g' r') (i x : Int32) : pS l θ ea ad ad' yX5_album wsX5_album 2 yX6_album wsX6_album 1 n g b r V n' g' r' [.int i, .int x] := by
  obtain ⟨hC, hT, hSd, hTo, hE, hPa, hI⟩ := id h
  obtain ⟨c1, c2, c3, c4, c5, c6, c7, c8, c9, c10, c11⟩ := id hC
  obtain ⟨t1, t2, t3, t4, t5⟩ := id hT
  obtain ⟨s1, s2⟩ := id hSd
  obtain ⟨o1, o2, o3, o4, o5⟩ := id hTo
  obtain ⟨p1, p2, p3, p4⟩ := id hPa
  obtain ⟨f0, fd, fu, f1, fv, f2, f3, f4, f5⟩ := id hE.1
  have ho : ∀ s, s < n 10 → r' 2 s = r 4 s := fun s hs => (c10 s hs).1
  have hoD : ∀ s, s < n 10 → isD (r 4 s) := fun s hs => (c10 s hs).2
  have w5 : n' 3 ≤ 5 := by omega
  have s6 : n' 1 ≤ 6 := by omega
  have g30 : n' 0 ≤ 30 := by omega
  have k6 : n' 5 ≤ 6 := by omega
  have t6 : n' 27 ≤ 6 := by omega
  have u16 : n' 22 ≤ 16 := by omega
  have zB : n 14 ≤ 20 := hE.2.2.2.2.2.1
  have nB : n 15 < 20 := hE.2.2.2.2.2.2.1
  have b1 : r' 7 21 = nI (n 14) := hE.2.2.2.2.1
  have d9 : n 13 ≤ 9060 := fd
  have d30 : n 13 < 2 ^ 30 := by omega
  cases hx : okN x 3 with
  | false =>
    exact pS_of (c_X5_album_1 l θ ea ad n g b r V i x hx) (c_X6_album_1 l θ ad' n' g' r' i x hx) (rfl) (h)
  | true =>
    cases hi : okN i (n 14) with
    | false =>
      exact pS_of (c_X5_album_2 l θ ea ad n g b r V i x hx hi zB) (c_X6_album_2 l θ ad' n' g' r' i x (n 14) hx b1 zB hi) (rfl) (h)
    | true =>
      obtain ⟨q, q_lt, rfl⟩ := okN_of hx (by decide)
      obtain ⟨i, i_lt, rfl⟩ := okN_of hi (by omega)
      rcases (show q = 0 ∨ q = 1 ∨ q = 2 by omega) with rfl | rfl | rfl
      · exact pS_of (c_X5_album_30 l θ ea ad n g b r V i (by omega) nB zB) (c_X6_album_3 l θ ad' n' g' r' i 0 (n 14) (by decide) b1 zB (by omega)) (((hE.2.2.2.2.2.2.2 i i_lt).1).symm) (h)
      · exact pS_of (c_X5_album_31 l θ ea ad n g b r V i (by omega) nB zB) (c_X6_album_3 l θ ad' n' g' r' i 1 (n 14) (by decide) b1 zB (by omega)) (((hE.2.2.2.2.2.2.2 i i_lt).2.1).symm) (h)
      · exact pS_of (c_X5_album_32 l θ ea ad n g b r V i (by omega) nB zB) (c_X6_album_3 l θ ad' n' g' r' i 2 (n 14) (by decide) b1 zB (by omega)) (((hE.2.2.2.2.2.2.2 i i_lt).2.2).symm) (h)
set_option maxHeartbeats 1000000 in
theorem st_glass {l : Launch} {θ : zH} {ea : Nat → Nat → Nat} {ad ad' : Nat → Nat} {n : Nat → Nat} {g : Nat → Int32} {b : Nat → Bool} {r : Nat → Nat → Int32} {V : Nat → Ev} {n' : Nat → Nat} {g' : Int32} {r' : Nat → Nat → Int32} (h : RR n g b r V n' g' r') (v : Int32) : pS l θ ea ad ad' yX5_glass wsX5_glass 1 yX6_glass wsX6_glass 1 n g b r V n' g' r' [.int v] := by
  obtain ⟨hC, hT, hSd, hTo, hE, hPa, hI⟩ := id h
  obtain ⟨c1, c2, c3, c4, c5, c6, c7, c8, c9, c10, c11⟩ := id hC
  obtain ⟨t1, t2, t3, t4, t5⟩ := id hT
  obtain ⟨s1, s2⟩ := id hSd
  obtain ⟨o1, o2, o3, o4, o5⟩ := id hTo
  obtain ⟨p1, p2, p3, p4⟩ := id hPa
  obtain ⟨f0, fd, fu, f1, fv, f2, f3, f4, f5⟩ := id hE.1
  have ho : ∀ s, s < n 10 → r' 2 s = r 4 s := fun s hs => (c10 s hs).1
  have hoD : ∀ s, s < n 10 → isD (r 4 s) := fun s hs => (c10 s hs).2
  have w5 : n' 3 ≤ 5 := by omega
  have s6 : n' 1 ≤ 6 := by omega
  have g30 : n' 0 ≤ 30 := by omega
  have k6 : n' 5 ≤ 6 := by omega
  have t6 : n' 27 ≤ 6 := by omega
  have u16 : n' 22 ≤ 16 := by omega
  have zB : n 14 ≤ 20 := hE.2.2.2.2.2.1
  have nB : n 15 < 20 := hE.2.2.2.2.2.2.1
  have b1 : r' 7 21 = nI (n 14) := hE.2.2.2.2.1
  have d9 : n 13 ≤ 9060 := fd
  have d30 : n 13 < 2 ^ 30 := by omega
  cases hv : okN v 4 with
  | false =>
    exact pS_of (c_X5_glass_1 l θ ea ad n g b r V v hv) (c_X6_glass_1 l θ ad' n' g' r' v hv) (rfl) (h)
  | true =>
    obtain ⟨v, v_lt, rfl⟩ := okN_of hv (by decide)
    exact pS_of (c_X5_glass_2 l θ ea ad n g b r V v (by omega)) (c_X6_glass_2 l θ ad' n' g' r' v (by omega)) ((hE.2.2.2.1 v v_lt).symm) (h)
set_option maxHeartbeats 1000000 in
theorem st_stand {l : Launch} {θ : zH} {ea : Nat → Nat → Nat} {ad ad' : Nat → Nat} {n : Nat → Nat} {g : Nat → Int32} {b : Nat → Bool} {r : Nat → Nat → Int32} {V : Nat → Ev} {n' : Nat → Nat} {g' : Int32} {r' : Nat → Nat → Int32} (h : RR n g b r V n' g' r') (s w : Int32) : pS l θ ea ad ad' yX5_stand wsX5_stand 3 yX6_stand wsX6_stand 2 n g b r V n' g' r' [.int s, .int w] := by
  obtain ⟨hC, hT, hSd, hTo, hE, hPa, hI⟩ := id h
  obtain ⟨c1, c2, c3, c4, c5, c6, c7, c8, c9, c10, c11⟩ := id hC
  obtain ⟨t1, t2, t3, t4, t5⟩ := id hT
  obtain ⟨s1, s2⟩ := id hSd
  obtain ⟨o1, o2, o3, o4, o5⟩ := id hTo
  obtain ⟨p1, p2, p3, p4⟩ := id hPa
  obtain ⟨f0, fd, fu, f1, fv, f2, f3, f4, f5⟩ := id hE.1
  have ho : ∀ s, s < n 10 → r' 2 s = r 4 s := fun s hs => (c10 s hs).1
  have hoD : ∀ s, s < n 10 → isD (r 4 s) := fun s hs => (c10 s hs).2
  have w5 : n' 3 ≤ 5 := by omega
  have s6 : n' 1 ≤ 6 := by omega
  have g30 : n' 0 ≤ 30 := by omega
  have k6 : n' 5 ≤ 6 := by omega
  have t6 : n' 27 ≤ 6 := by omega
  have u16 : n' 22 ≤ 16 := by omega
  have zB : n 14 ≤ 20 := hE.2.2.2.2.2.1
  have nB : n 15 < 20 := hE.2.2.2.2.2.2.1
  have b1 : r' 7 21 = nI (n 14) := hE.2.2.2.2.1
  have d9 : n 13 ≤ 9060 := fd
  have d30 : n 13 < 2 ^ 30 := by omega
  cases hj : okN s (n 10) with
  | false =>
    exact pS_of (c_X5_stand_1 l θ ea ad n g b r V s w c4 hj) (c_X6_stand_1 l θ ad' n' g' r' s w s6 (by rw [c3]; exact hj)) (rfl) (h)
  | true =>
    cases hw : okN w (n 11) with
    | false =>
      exact pS_of (c_X5_stand_2 l θ ea ad n g b r V s w c4 c6 hj hw) (c_X6_stand_2 l θ ad' n' g' r' s w s6 w5 (by rw [c3]; exact hj) (by rw [c5]; exact hw)) (rfl) (h)
    | true =>
      obtain ⟨j, j_lt, rfl⟩ := okN_of hj (by omega)
      obtain ⟨w, w_lt, rfl⟩ := okN_of hw (by omega)
      have hwho : m_who (r' 7) (nI w) (n' 1) = r 8 w := by rw [c3]; exact who_eq c4 hE.2.1 (show w < 5 by omega)
      by_cases hx : r 8 w = (-1)
      · exact pS_of (c_X5_stand_4 l θ ea ad n g b r V j w c4 c6 (by omega) (by omega) (by first | exact hx | omega) p3 p2) (c_X6_stand_4 l θ ad' n' g' r' j w s6 w5 (by omega) (by omega) (hwho.trans hx) u16) (wo_eq c4 c6 hE.2.1 j_lt) (⟨hC, hT, hSd, hTo, ev_stand c4 c6 hE j_lt w_lt hx, past_rem c4 c6 hPa hE, img_rem hI⟩)
      · exact pS_of (c_X5_stand_3 l θ ea ad n g b r V j w c4 c6 (by omega) (by omega) (by first | exact hx | omega)) (c_X6_stand_3 l θ ad' n' g' r' j w s6 w5 (by omega) (by omega) (by rw [hwho]; exact hx)) (rfl) (h)
set_option maxHeartbeats 1000000 in
theorem st_go {l : Launch} {θ : zH} {ea : Nat → Nat → Nat} {ad ad' : Nat → Nat} {n : Nat → Nat} {g : Nat → Int32} {b : Nat → Bool} {r : Nat → Nat → Int32} {V : Nat → Ev} {n' : Nat → Nat} {g' : Int32} {r' : Nat → Nat → Int32} (h : RR n g b r V n' g' r') (s : Int32) : pS l θ ea ad ad' yX5_go wsX5_go 3 yX6_go wsX6_go 2 n g b r V n' g' r' [.int s] := by
  obtain ⟨hC, hT, hSd, hTo, hE, hPa, hI⟩ := id h
  obtain ⟨c1, c2, c3, c4, c5, c6, c7, c8, c9, c10, c11⟩ := id hC
  obtain ⟨t1, t2, t3, t4, t5⟩ := id hT
  obtain ⟨s1, s2⟩ := id hSd
  obtain ⟨o1, o2, o3, o4, o5⟩ := id hTo
  obtain ⟨p1, p2, p3, p4⟩ := id hPa
  obtain ⟨f0, fd, fu, f1, fv, f2, f3, f4, f5⟩ := id hE.1
  have ho : ∀ s, s < n 10 → r' 2 s = r 4 s := fun s hs => (c10 s hs).1
  have hoD : ∀ s, s < n 10 → isD (r 4 s) := fun s hs => (c10 s hs).2
  have w5 : n' 3 ≤ 5 := by omega
  have s6 : n' 1 ≤ 6 := by omega
  have g30 : n' 0 ≤ 30 := by omega
  have k6 : n' 5 ≤ 6 := by omega
  have t6 : n' 27 ≤ 6 := by omega
  have u16 : n' 22 ≤ 16 := by omega
  have zB : n 14 ≤ 20 := hE.2.2.2.2.2.1
  have nB : n 15 < 20 := hE.2.2.2.2.2.2.1
  have b1 : r' 7 21 = nI (n 14) := hE.2.2.2.2.1
  have d9 : n 13 ≤ 9060 := fd
  have d30 : n 13 < 2 ^ 30 := by omega
  cases hj : okN s (n 10) with
  | false =>
    exact pS_of (c_X5_go_1 l θ ea ad n g b r V s c4 hj) (c_X6_go_1 l θ ad' n' g' r' s s6 (by rw [c3]; exact hj)) (rfl) (h)
  | true =>
    obtain ⟨j, j_lt, rfl⟩ := okN_of hj (by omega)
    have hwo : k_wo (r 8) (nI j) = r' 7 (6 + j) := wo_eq c4 c6 hE.2.1 j_lt
    rcases hE.2.1.1 j j_lt with e | ⟨q, q_lt, e⟩
    · exact pS_of (c_X5_go_2 l θ ea ad n g b r V j c4 c6 (by omega) (by rw [hwo, e]; exact okN_f1 (by decide))) (c_X6_go_2 l θ ad' n' g' r' j s6 (by omega) e) (rfl) (h)
    · exact pS_of (c_X5_go_3 l θ ea ad n g b r V j q c4 c6 (by omega) (hwo.trans e) (by omega) p3 p2) (c_X6_go_3 l θ ad' n' g' r' j s6 (by omega) (by rw [e]; exact nI_nm1 (by omega)) u16) (e.symm) (⟨hC, hT, hSd, hTo, ev_go c4 c6 hE j_lt q_lt e, past_rem c4 c6 hPa hE, img_rem hI⟩)
set_option maxHeartbeats 1000000 in
theorem st_lamp {l : Launch} {θ : zH} {ea : Nat → Nat → Nat} {ad ad' : Nat → Nat} {n : Nat → Nat} {g : Nat → Int32} {b : Nat → Bool} {r : Nat → Nat → Int32} {V : Nat → Ev} {n' : Nat → Nat} {g' : Int32} {r' : Nat → Nat → Int32} (h : RR n g b r V n' g' r') (w x : Int32) : pS l θ ea ad ad' yX5_lamp wsX5_lamp 3 yX6_lamp wsX6_lamp 2 n g b r V n' g' r' [.int w, .int x] := by
  obtain ⟨hC, hT, hSd, hTo, hE, hPa, hI⟩ := id h
  obtain ⟨c1, c2, c3, c4, c5, c6, c7, c8, c9, c10, c11⟩ := id hC
  obtain ⟨t1, t2, t3, t4, t5⟩ := id hT
  obtain ⟨s1, s2⟩ := id hSd
  obtain ⟨o1, o2, o3, o4, o5⟩ := id hTo
  obtain ⟨p1, p2, p3, p4⟩ := id hPa
  obtain ⟨f0, fd, fu, f1, fv, f2, f3, f4, f5⟩ := id hE.1
  have ho : ∀ s, s < n 10 → r' 2 s = r 4 s := fun s hs => (c10 s hs).1
  have hoD : ∀ s, s < n 10 → isD (r 4 s) := fun s hs => (c10 s hs).2
  have w5 : n' 3 ≤ 5 := by omega
  have s6 : n' 1 ≤ 6 := by omega
  have g30 : n' 0 ≤ 30 := by omega
  have k6 : n' 5 ≤ 6 := by omega
  have t6 : n' 27 ≤ 6 := by omega
  have u16 : n' 22 ≤ 16 := by omega
  have zB : n 14 ≤ 20 := hE.2.2.2.2.2.1
  have nB : n 15 < 20 := hE.2.2.2.2.2.2.1
  have b1 : r' 7 21 = nI (n 14) := hE.2.2.2.2.1
  have d9 : n 13 ≤ 9060 := fd
  have d30 : n 13 < 2 ^ 30 := by omega
  cases hw : okN w (n 11) with
  | false =>
    exact pS_of (c_X5_lamp_1 l θ ea ad n g b r V w x c6 hw) (c_X6_lamp_1 l θ ad' n' g' r' w x w5 (by rw [c5]; exact hw)) (rfl) (h)
  | true =>
    cases hx : okN x 6 with
    | false =>
      exact pS_of (c_X5_lamp_2 l θ ea ad n g b r V w x c6 hw hx) (c_X6_lamp_2 l θ ad' n' g' r' w x w5 (by rw [c5]; exact hw) hx) (rfl) (h)
    | true =>
      obtain ⟨w, w_lt, rfl⟩ := okN_of hw (by omega)
      obtain ⟨v, v_lt, rfl⟩ := okN_of hx (by decide)
      exact pS_of (c_X5_lamp_3 l θ ea ad n g b r V w (nI v) c6 (by omega) hx p3 p2) (c_X6_lamp_3 l θ ad' n' g' r' w (nI v) w5 (by omega) hx u16) ((hE.2.2.1 w w_lt).1.symm) (⟨hC, hT, hSd, hTo, ev_lamp c4 c6 hE w_lt (by omega), past_rem c4 c6 hPa hE, img_rem hI⟩)
set_option maxHeartbeats 1000000 in
theorem st_wind {l : Launch} {θ : zH} {ea : Nat → Nat → Nat} {ad ad' : Nat → Nat} {n : Nat → Nat} {g : Nat → Int32} {b : Nat → Bool} {r : Nat → Nat → Int32} {V : Nat → Ev} {n' : Nat → Nat} {g' : Int32} {r' : Nat → Nat → Int32} (h : RR n g b r V n' g' r') (x : Int32) : pS l θ ea ad ad' yX5_wind wsX5_wind 3 yX6_wind wsX6_wind 2 n g b r V n' g' r' [.int x] := by
  obtain ⟨hC, hT, hSd, hTo, hE, hPa, hI⟩ := id h
  obtain ⟨c1, c2, c3, c4, c5, c6, c7, c8, c9, c10, c11⟩ := id hC
  obtain ⟨t1, t2, t3, t4, t5⟩ := id hT
  obtain ⟨s1, s2⟩ := id hSd
  obtain ⟨o1, o2, o3, o4, o5⟩ := id hTo
  obtain ⟨p1, p2, p3, p4⟩ := id hPa
  obtain ⟨f0, fd, fu, f1, fv, f2, f3, f4, f5⟩ := id hE.1
  have ho : ∀ s, s < n 10 → r' 2 s = r 4 s := fun s hs => (c10 s hs).1
  have hoD : ∀ s, s < n 10 → isD (r 4 s) := fun s hs => (c10 s hs).2
  have w5 : n' 3 ≤ 5 := by omega
  have s6 : n' 1 ≤ 6 := by omega
  have g30 : n' 0 ≤ 30 := by omega
  have k6 : n' 5 ≤ 6 := by omega
  have t6 : n' 27 ≤ 6 := by omega
  have u16 : n' 22 ≤ 16 := by omega
  have zB : n 14 ≤ 20 := hE.2.2.2.2.2.1
  have nB : n 15 < 20 := hE.2.2.2.2.2.2.1
  have b1 : r' 7 21 = nI (n 14) := hE.2.2.2.2.1
  have d9 : n 13 ≤ 9060 := fd
  have d30 : n 13 < 2 ^ 30 := by omega
  cases hx : m_in (Int32.toInt64 x) (-3) (3) with
  | false =>
    exact pS_of (c_X5_wind_1 l θ ea ad n g b r V x hx) (c_X6_wind_1 l θ ad' n' g' r' x hx) (rfl) (h)
  | true =>
    cases hg : b 1 with
    | false =>
      have hg6 : decide (0 < n' 0) = false := by rw [c1, ← c9]; exact hg
      exact pS_of (c_X5_wind_2 l θ ea ad n g b r V x hx (by first | exact hg | omega)) (c_X6_wind_2 l θ ad' n' g' r' x hx hg6 g30) (rfl) (h)
    | true =>
      have hg6 : decide (0 < n' 0) = true := by rw [c1, ← c9]; exact hg
      obtain ⟨u, u_le, rfl⟩ := in_wind hx
      exact pS_of (c_X5_wind_3 l θ ea ad n g b r V (m_by u) hx (by first | exact hg | omega) p3 p2) (c_X6_wind_3 l θ ad' n' g' r' (m_by u) hx hg6 g30 u16) (by rw [f1]; rfl) (⟨hC, hT, hSd, hTo, ev_wind c4 c6 hE u_le, past_rem c4 c6 hPa hE, img_rem hI⟩)
set_option maxHeartbeats 1000000 in
theorem st_bats {l : Launch} {θ : zH} {ea : Nat → Nat → Nat} {ad ad' : Nat → Nat} {n : Nat → Nat} {g : Nat → Int32} {b : Nat → Bool} {r : Nat → Nat → Int32} {V : Nat → Ev} {n' : Nat → Nat} {g' : Int32} {r' : Nat → Nat → Int32} (h : RR n g b r V n' g' r') (x : Int32) : pS l θ ea ad ad' yX5_bats wsX5_bats 3 yX6_bats wsX6_bats 2 n g b r V n' g' r' [.int x] := by
  obtain ⟨hC, hT, hSd, hTo, hE, hPa, hI⟩ := id h
  obtain ⟨c1, c2, c3, c4, c5, c6, c7, c8, c9, c10, c11⟩ := id hC
  obtain ⟨t1, t2, t3, t4, t5⟩ := id hT
  obtain ⟨s1, s2⟩ := id hSd
  obtain ⟨o1, o2, o3, o4, o5⟩ := id hTo
  obtain ⟨p1, p2, p3, p4⟩ := id hPa
  obtain ⟨f0, fd, fu, f1, fv, f2, f3, f4, f5⟩ := id hE.1
  have ho : ∀ s, s < n 10 → r' 2 s = r 4 s := fun s hs => (c10 s hs).1
  have hoD : ∀ s, s < n 10 → isD (r 4 s) := fun s hs => (c10 s hs).2
  have w5 : n' 3 ≤ 5 := by omega
  have s6 : n' 1 ≤ 6 := by omega
  have g30 : n' 0 ≤ 30 := by omega
  have k6 : n' 5 ≤ 6 := by omega
  have t6 : n' 27 ≤ 6 := by omega
  have u16 : n' 22 ≤ 16 := by omega
  have zB : n 14 ≤ 20 := hE.2.2.2.2.2.1
  have nB : n 15 < 20 := hE.2.2.2.2.2.2.1
  have b1 : r' 7 21 = nI (n 14) := hE.2.2.2.2.1
  have d9 : n 13 ≤ 9060 := fd
  have d30 : n 13 < 2 ^ 30 := by omega
  cases hx : okN x 64 with
  | false =>
    exact pS_of (c_X5_bats_1 l θ ea ad n g b r V x hx) (c_X6_bats_1 l θ ad' n' g' r' x hx) (rfl) (h)
  | true =>
    cases hg : b 1 with
    | false =>
      have hg6 : decide (0 < n' 0) = false := by rw [c1, ← c9]; exact hg
      exact pS_of (c_X5_bats_2 l θ ea ad n g b r V x hx (by first | exact hg | omega)) (c_X6_bats_2 l θ ad' n' g' r' x hx hg6 g30) (rfl) (h)
    | true =>
      have hg6 : decide (0 < n' 0) = true := by rw [c1, ← c9]; exact hg
      obtain ⟨v, v_lt, rfl⟩ := okN_of hx (by decide)
      exact pS_of (c_X5_bats_3 l θ ea ad n g b r V (nI v) hx (by first | exact hg | omega) p3 p2) (c_X6_bats_3 l θ ad' n' g' r' (nI v) hx hg6 g30 u16) (f2.symm) (⟨hC, hT, hSd, hTo, ev_bats c4 c6 hE v_lt, past_rem c4 c6 hPa hE, img_rem hI⟩)
set_option maxHeartbeats 1000000 in
theorem st_eye {l : Launch} {θ : zH} {ea : Nat → Nat → Nat} {ad ad' : Nat → Nat} {n : Nat → Nat} {g : Nat → Int32} {b : Nat → Bool} {r : Nat → Nat → Int32} {V : Nat → Ev} {n' : Nat → Nat} {g' : Int32} {r' : Nat → Nat → Int32} (h : RR n g b r V n' g' r') (x : Int32) : pS l θ ea ad ad' yX5_eye wsX5_eye 3 yX6_eye wsX6_eye 2 n g b r V n' g' r' [.int x] := by
  obtain ⟨hC, hT, hSd, hTo, hE, hPa, hI⟩ := id h
  obtain ⟨c1, c2, c3, c4, c5, c6, c7, c8, c9, c10, c11⟩ := id hC
  obtain ⟨t1, t2, t3, t4, t5⟩ := id hT
  obtain ⟨s1, s2⟩ := id hSd
  obtain ⟨o1, o2, o3, o4, o5⟩ := id hTo
  obtain ⟨p1, p2, p3, p4⟩ := id hPa
  obtain ⟨f0, fd, fu, f1, fv, f2, f3, f4, f5⟩ := id hE.1
  have ho : ∀ s, s < n 10 → r' 2 s = r 4 s := fun s hs => (c10 s hs).1
  have hoD : ∀ s, s < n 10 → isD (r 4 s) := fun s hs => (c10 s hs).2
  have w5 : n' 3 ≤ 5 := by omega
  have s6 : n' 1 ≤ 6 := by omega
  have g30 : n' 0 ≤ 30 := by omega
  have k6 : n' 5 ≤ 6 := by omega
  have t6 : n' 27 ≤ 6 := by omega
  have u16 : n' 22 ≤ 16 := by omega
  have zB : n 14 ≤ 20 := hE.2.2.2.2.2.1
  have nB : n 15 < 20 := hE.2.2.2.2.2.2.1
  have b1 : r' 7 21 = nI (n 14) := hE.2.2.2.2.1
  have d9 : n 13 ≤ 9060 := fd
  have d30 : n 13 < 2 ^ 30 := by omega
  cases hx : okN x 30 with
  | false =>
    exact pS_of (c_X5_eye_1 l θ ea ad n g b r V x hx) (c_X6_eye_1 l θ ad' n' g' r' x hx) (rfl) (h)
  | true =>
    cases hg : b 1 with
    | false =>
      have hg6 : decide (0 < n' 0) = false := by rw [c1, ← c9]; exact hg
      exact pS_of (c_X5_eye_2 l θ ea ad n g b r V x hx (by first | exact hg | omega)) (c_X6_eye_2 l θ ad' n' g' r' x hx hg6 g30) (rfl) (h)
    | true =>
      have hg6 : decide (0 < n' 0) = true := by rw [c1, ← c9]; exact hg
      exact pS_of (c_X5_eye_3 l θ ea ad n g b r V x hx (by first | exact hg | omega) p3 p2) (c_X6_eye_3 l θ ad' n' g' r' x hx hg6 g30 u16) (by rw [f3]; rfl) (⟨hC, hT, hSd, hTo, ev_eyes c4 c6 hE (by rw [f3]; rfl), past_rem c4 c6 hPa hE, img_rem hI⟩)
set_option maxHeartbeats 1000000 in
theorem st_rain_0 {l : Launch} {θ : zH} {ea : Nat → Nat → Nat} {ad ad' : Nat → Nat} {n : Nat → Nat} {g : Nat → Int32} {b : Nat → Bool} {r : Nat → Nat → Int32} {V : Nat → Ev} {n' : Nat → Nat} {g' : Int32} {r' : Nat → Nat → Int32} (h : RR n g b r V n' g' r')  : pS l θ ea ad ad' yX5_rain wsX5_rain 3 yX6_rain wsX6_rain 2 n g b r V n' g' r' [.int (nI 0)] := by
  obtain ⟨hC, hT, hSd, hTo, hE, hPa, hI⟩ := id h
  obtain ⟨c1, c2, c3, c4, c5, c6, c7, c8, c9, c10, c11⟩ := id hC
  obtain ⟨t1, t2, t3, t4, t5⟩ := id hT
  obtain ⟨s1, s2⟩ := id hSd
  obtain ⟨o1, o2, o3, o4, o5⟩ := id hTo
  obtain ⟨p1, p2, p3, p4⟩ := id hPa
  obtain ⟨f0, fd, fu, f1, fv, f2, f3, f4, f5⟩ := id hE.1
  have ho : ∀ s, s < n 10 → r' 2 s = r 4 s := fun s hs => (c10 s hs).1
  have hoD : ∀ s, s < n 10 → isD (r 4 s) := fun s hs => (c10 s hs).2
  have w5 : n' 3 ≤ 5 := by omega
  have s6 : n' 1 ≤ 6 := by omega
  have g30 : n' 0 ≤ 30 := by omega
  have k6 : n' 5 ≤ 6 := by omega
  have t6 : n' 27 ≤ 6 := by omega
  have u16 : n' 22 ≤ 16 := by omega
  have zB : n 14 ≤ 20 := hE.2.2.2.2.2.1
  have nB : n 15 < 20 := hE.2.2.2.2.2.2.1
  have b1 : r' 7 21 = nI (n 14) := hE.2.2.2.2.1
  have d9 : n 13 ≤ 9060 := fd
  have d30 : n 13 < 2 ^ 30 := by omega
  cases hg : b 1 with
  | false =>
    have hg6 : decide (0 < n' 0) = false := by rw [c1, ← c9]; exact hg
    exact pS_of (c_X5_rain_1 l θ ea ad n g b r V (nI 0) (by first | exact hg | omega)) (c_X6_rain_1 l θ ad' n' g' r' (nI 0) hg6 g30) (rfl) (h)
  | true =>
    have hg6 : decide (0 < n' 0) = true := by rw [c1, ← c9]; exact hg
    exact pS_of (c_X5_rain_20 l θ ea ad n g b r V (by first | exact hg | omega) p3 p2) (c_X6_rain_20 l θ ad' n' g' r' hg6 g30 u16) (f4.symm) (⟨hC, hT, hSd, hTo, ev_rain c4 c6 hE false, past_rem c4 c6 hPa hE, img_rem hI⟩)
set_option maxHeartbeats 1000000 in
theorem st_smoke_0 {l : Launch} {θ : zH} {ea : Nat → Nat → Nat} {ad ad' : Nat → Nat} {n : Nat → Nat} {g : Nat → Int32} {b : Nat → Bool} {r : Nat → Nat → Int32} {V : Nat → Ev} {n' : Nat → Nat} {g' : Int32} {r' : Nat → Nat → Int32} (h : RR n g b r V n' g' r') (w : Int32) : pS l θ ea ad ad' yX5_smoke wsX5_smoke 3 yX6_smoke wsX6_smoke 2 n g b r V n' g' r' [.int w, .int (nI 0)] := by
  obtain ⟨hC, hT, hSd, hTo, hE, hPa, hI⟩ := id h
  obtain ⟨c1, c2, c3, c4, c5, c6, c7, c8, c9, c10, c11⟩ := id hC
  obtain ⟨t1, t2, t3, t4, t5⟩ := id hT
  obtain ⟨s1, s2⟩ := id hSd
  obtain ⟨o1, o2, o3, o4, o5⟩ := id hTo
  obtain ⟨p1, p2, p3, p4⟩ := id hPa
  obtain ⟨f0, fd, fu, f1, fv, f2, f3, f4, f5⟩ := id hE.1
  have ho : ∀ s, s < n 10 → r' 2 s = r 4 s := fun s hs => (c10 s hs).1
  have hoD : ∀ s, s < n 10 → isD (r 4 s) := fun s hs => (c10 s hs).2
  have w5 : n' 3 ≤ 5 := by omega
  have s6 : n' 1 ≤ 6 := by omega
  have g30 : n' 0 ≤ 30 := by omega
  have k6 : n' 5 ≤ 6 := by omega
  have t6 : n' 27 ≤ 6 := by omega
  have u16 : n' 22 ≤ 16 := by omega
  have zB : n 14 ≤ 20 := hE.2.2.2.2.2.1
  have nB : n 15 < 20 := hE.2.2.2.2.2.2.1
  have b1 : r' 7 21 = nI (n 14) := hE.2.2.2.2.1
  have d9 : n 13 ≤ 9060 := fd
  have d30 : n 13 < 2 ^ 30 := by omega
  cases hw : okN w (n 11) with
  | false =>
    exact pS_of (c_X5_smoke_1 l θ ea ad n g b r V w (nI 0) c6 hw) (c_X6_smoke_1 l θ ad' n' g' r' w (nI 0) w5 (by rw [c5]; exact hw)) (rfl) (h)
  | true =>
    obtain ⟨w, w_lt, rfl⟩ := okN_of hw (by omega)
    exact pS_of (c_X5_smoke_20 l θ ea ad n g b r V w c6 (by omega) p3 p2) (c_X6_smoke_20 l θ ad' n' g' r' w w5 (by omega) u16) (by rw [f5]; rfl) (⟨hC, hT, hSd, hTo, ev_smoke c4 c6 hE (by rw [f5]; rfl), past_rem c4 c6 hPa hE, img_rem hI⟩)
set_option maxHeartbeats 1000000 in
theorem st_rain_1 {l : Launch} {θ : zH} {ea : Nat → Nat → Nat} {ad ad' : Nat → Nat} {n : Nat → Nat} {g : Nat → Int32} {b : Nat → Bool} {r : Nat → Nat → Int32} {V : Nat → Ev} {n' : Nat → Nat} {g' : Int32} {r' : Nat → Nat → Int32} (h : RR n g b r V n' g' r')  : pS l θ ea ad ad' yX5_rain wsX5_rain 3 yX6_rain wsX6_rain 2 n g b r V n' g' r' [.int (nI 1)] := by
  obtain ⟨hC, hT, hSd, hTo, hE, hPa, hI⟩ := id h
  obtain ⟨c1, c2, c3, c4, c5, c6, c7, c8, c9, c10, c11⟩ := id hC
  obtain ⟨t1, t2, t3, t4, t5⟩ := id hT
  obtain ⟨s1, s2⟩ := id hSd
  obtain ⟨o1, o2, o3, o4, o5⟩ := id hTo
  obtain ⟨p1, p2, p3, p4⟩ := id hPa
  obtain ⟨f0, fd, fu, f1, fv, f2, f3, f4, f5⟩ := id hE.1
  have ho : ∀ s, s < n 10 → r' 2 s = r 4 s := fun s hs => (c10 s hs).1
  have hoD : ∀ s, s < n 10 → isD (r 4 s) := fun s hs => (c10 s hs).2
  have w5 : n' 3 ≤ 5 := by omega
  have s6 : n' 1 ≤ 6 := by omega
  have g30 : n' 0 ≤ 30 := by omega
  have k6 : n' 5 ≤ 6 := by omega
  have t6 : n' 27 ≤ 6 := by omega
  have u16 : n' 22 ≤ 16 := by omega
  have zB : n 14 ≤ 20 := hE.2.2.2.2.2.1
  have nB : n 15 < 20 := hE.2.2.2.2.2.2.1
  have b1 : r' 7 21 = nI (n 14) := hE.2.2.2.2.1
  have d9 : n 13 ≤ 9060 := fd
  have d30 : n 13 < 2 ^ 30 := by omega
  cases hg : b 1 with
  | false =>
    have hg6 : decide (0 < n' 0) = false := by rw [c1, ← c9]; exact hg
    exact pS_of (c_X5_rain_1 l θ ea ad n g b r V (nI 1) (by first | exact hg | omega)) (c_X6_rain_1 l θ ad' n' g' r' (nI 1) hg6 g30) (rfl) (h)
  | true =>
    have hg6 : decide (0 < n' 0) = true := by rw [c1, ← c9]; exact hg
    exact pS_of (c_X5_rain_21 l θ ea ad n g b r V (by first | exact hg | omega) p3 p2) (c_X6_rain_21 l θ ad' n' g' r' hg6 g30 u16) (f4.symm) (⟨hC, hT, hSd, hTo, ev_rain c4 c6 hE true, past_rem c4 c6 hPa hE, img_rem hI⟩)
set_option maxHeartbeats 1000000 in
theorem st_smoke_1 {l : Launch} {θ : zH} {ea : Nat → Nat → Nat} {ad ad' : Nat → Nat} {n : Nat → Nat} {g : Nat → Int32} {b : Nat → Bool} {r : Nat → Nat → Int32} {V : Nat → Ev} {n' : Nat → Nat} {g' : Int32} {r' : Nat → Nat → Int32} (h : RR n g b r V n' g' r') (w : Int32) : pS l θ ea ad ad' yX5_smoke wsX5_smoke 3 yX6_smoke wsX6_smoke 2 n g b r V n' g' r' [.int w, .int (nI 1)] := by
  obtain ⟨hC, hT, hSd, hTo, hE, hPa, hI⟩ := id h
  obtain ⟨c1, c2, c3, c4, c5, c6, c7, c8, c9, c10, c11⟩ := id hC
  obtain ⟨t1, t2, t3, t4, t5⟩ := id hT
  obtain ⟨s1, s2⟩ := id hSd
  obtain ⟨o1, o2, o3, o4, o5⟩ := id hTo
  obtain ⟨p1, p2, p3, p4⟩ := id hPa
  obtain ⟨f0, fd, fu, f1, fv, f2, f3, f4, f5⟩ := id hE.1
  have ho : ∀ s, s < n 10 → r' 2 s = r 4 s := fun s hs => (c10 s hs).1
  have hoD : ∀ s, s < n 10 → isD (r 4 s) := fun s hs => (c10 s hs).2
  have w5 : n' 3 ≤ 5 := by omega
  have s6 : n' 1 ≤ 6 := by omega
  have g30 : n' 0 ≤ 30 := by omega
  have k6 : n' 5 ≤ 6 := by omega
  have t6 : n' 27 ≤ 6 := by omega
  have u16 : n' 22 ≤ 16 := by omega
  have zB : n 14 ≤ 20 := hE.2.2.2.2.2.1
  have nB : n 15 < 20 := hE.2.2.2.2.2.2.1
  have b1 : r' 7 21 = nI (n 14) := hE.2.2.2.2.1
  have d9 : n 13 ≤ 9060 := fd
  have d30 : n 13 < 2 ^ 30 := by omega
  cases hw : okN w (n 11) with
  | false =>
    exact pS_of (c_X5_smoke_1 l θ ea ad n g b r V w (nI 1) c6 hw) (c_X6_smoke_1 l θ ad' n' g' r' w (nI 1) w5 (by rw [c5]; exact hw)) (rfl) (h)
  | true =>
    obtain ⟨w, w_lt, rfl⟩ := okN_of hw (by omega)
    exact pS_of (c_X5_smoke_21 l θ ea ad n g b r V w c6 (by omega) p3 p2) (c_X6_smoke_21 l θ ad' n' g' r' w w5 (by omega) u16) (by rw [f5]; rfl) (⟨hC, hT, hSd, hTo, ev_smoke c4 c6 hE (by rw [f5]; rfl), past_rem c4 c6 hPa hE, img_rem hI⟩)
set_option maxHeartbeats 1000000 in
theorem st_press {l : Launch} {θ : zH} {ea : Nat → Nat → Nat} {ad ad' : Nat → Nat} {n : Nat → Nat} {g : Nat → Int32} {b : Nat → Bool} {r : Nat → Nat → Int32} {V : Nat → Ev} {n' : Nat → Nat} {g' : Int32} {r' : Nat → Nat → Int32} (h : RR n g b r V n' g' r') (v w : Int32) : pS l θ ea ad ad' yX5_press wsX5_press 3 yX6_press wsX6_press 4 n g b r V n' g' r' [.int v, .int w] := by
  obtain ⟨hC, hT, hSd, hTo, hE, hPa, hI⟩ := id h
  obtain ⟨c1, c2, c3, c4, c5, c6, c7, c8, c9, c10, c11⟩ := id hC
  obtain ⟨t1, t2, t3, t4, t5⟩ := id hT
  obtain ⟨s1, s2⟩ := id hSd
  obtain ⟨o1, o2, o3, o4, o5⟩ := id hTo
  obtain ⟨p1, p2, p3, p4⟩ := id hPa
  obtain ⟨f0, fd, fu, f1, fv, f2, f3, f4, f5⟩ := id hE.1
  have ho : ∀ s, s < n 10 → r' 2 s = r 4 s := fun s hs => (c10 s hs).1
  have hoD : ∀ s, s < n 10 → isD (r 4 s) := fun s hs => (c10 s hs).2
  have w5 : n' 3 ≤ 5 := by omega
  have s6 : n' 1 ≤ 6 := by omega
  have g30 : n' 0 ≤ 30 := by omega
  have k6 : n' 5 ≤ 6 := by omega
  have t6 : n' 27 ≤ 6 := by omega
  have u16 : n' 22 ≤ 16 := by omega
  have zB : n 14 ≤ 20 := hE.2.2.2.2.2.1
  have nB : n 15 < 20 := hE.2.2.2.2.2.2.1
  have b1 : r' 7 21 = nI (n 14) := hE.2.2.2.2.1
  have d9 : n 13 ≤ 9060 := fd
  have d30 : n 13 < 2 ^ 30 := by omega
  cases hv : okN v 4 with
  | false =>
    exact pS_of (c_X5_press_1 l θ ea ad n g b r V v w hv) (c_X6_press_1 l θ ad' n' g' r' v w hv) (rfl) (h)
  | true =>
    cases hw : okN w (n 11) with
    | false =>
      exact pS_of (c_X5_press_2 l θ ea ad n g b r V v w c6 hv hw) (c_X6_press_2 l θ ad' n' g' r' v w w5 hv (by rw [c5]; exact hw)) (rfl) (h)
    | true =>
      obtain ⟨v, v_lt, rfl⟩ := okN_of hv (by decide)
      obtain ⟨w, w_lt, rfl⟩ := okN_of hw (by omega)
      exact pS_of (c_X5_press_3 l θ ea ad n g b r V v w c6 (by omega) (by omega) c4 c2 p3 p2) (c_X6_press_3 l θ ad' n' g' r' v w w5 (by omega) (by omega) s6 g30 u16) ((hE.2.2.2.1 v v_lt).symm) (⟨hC, hT, hSd, hTo, ev_glass c4 c6 hE v_lt (dat_eq c4 c6 hE c3 c1 ho w_lt).symm, past_rem c4 c6 hPa hE, img_rem hI⟩)
set_option maxHeartbeats 1000000 in
theorem st_dusk {l : Launch} {θ : zH} {ea : Nat → Nat → Nat} {ad ad' : Nat → Nat} {n : Nat → Nat} {g : Nat → Int32} {b : Nat → Bool} {r : Nat → Nat → Int32} {V : Nat → Ev} {n' : Nat → Nat} {g' : Int32} {r' : Nat → Nat → Int32} (h : RR n g b r V n' g' r') (x : Int32) : pS l θ ea ad ad' yX5_dusk wsX5_dusk 5 yX6_dusk wsX6_dusk 5 n g b r V n' g' r' [.int x] := by
  obtain ⟨hC, hT, hSd, hTo, hE, hPa, hI⟩ := id h
  obtain ⟨c1, c2, c3, c4, c5, c6, c7, c8, c9, c10, c11⟩ := id hC
  obtain ⟨t1, t2, t3, t4, t5⟩ := id hT
  obtain ⟨s1, s2⟩ := id hSd
  obtain ⟨o1, o2, o3, o4, o5⟩ := id hTo
  obtain ⟨p1, p2, p3, p4⟩ := id hPa
  obtain ⟨f0, fd, fu, f1, fv, f2, f3, f4, f5⟩ := id hE.1
  have ho : ∀ s, s < n 10 → r' 2 s = r 4 s := fun s hs => (c10 s hs).1
  have hoD : ∀ s, s < n 10 → isD (r 4 s) := fun s hs => (c10 s hs).2
  have w5 : n' 3 ≤ 5 := by omega
  have s6 : n' 1 ≤ 6 := by omega
  have g30 : n' 0 ≤ 30 := by omega
  have k6 : n' 5 ≤ 6 := by omega
  have t6 : n' 27 ≤ 6 := by omega
  have u16 : n' 22 ≤ 16 := by omega
  have zB : n 14 ≤ 20 := hE.2.2.2.2.2.1
  have nB : n 15 < 20 := hE.2.2.2.2.2.2.1
  have b1 : r' 7 21 = nI (n 14) := hE.2.2.2.2.1
  have d9 : n 13 ≤ 9060 := fd
  have d30 : n 13 < 2 ^ 30 := by omega
  cases hx : m_in (Int32.toInt64 x) 1 (60) with
  | false =>
    exact pS_of (c_X5_dusk_1 l θ ea ad n g b r V x hx) (c_X6_dusk_1 l θ ad' n' g' r' x hx) (rfl) (h)
  | true =>
    cases hg : b 1 with
    | false =>
      have hg6 : decide (0 < n' 0) = false := by rw [c1, ← c9]; exact hg
      exact pS_of (c_X5_dusk_2 l θ ea ad n g b r V x hx (by first | exact hg | omega)) (c_X6_dusk_2 l θ ad' n' g' r' x hx hg6 g30) (rfl) (h)
    | true =>
      have hg6 : decide (0 < n' 0) = true := by rw [c1, ← c9]; exact hg
      by_cases hl : 9000 < n 13
      · exact pS_of (c_X5_dusk_3 l θ ea ad n g b r V x hx (by first | exact hg | omega) d30 (by omega)) (c_X6_dusk_3 l θ ad' n' g' r' x (n 13) hx hg6 g30 f0 d30 (by omega)) (rfl) (h)
      · obtain ⟨m, hm, hm2, rfl⟩ := in_dusk hx
        have hl2 : n 13 ≤ 9000 := by omega
        have key : EvR (n 10) (n 11) (eIt (n 10) (n 9) (n 11) (r 4) (nowE n g b r) m) (m_ps (n' 1) (n' 0) (n' 3) (r' 2) (r' 7) (n 13) m) := by rw [c1, c3, c5]; exact ps_eq c4 c6 hE (n 9) ho rfl hl2 m hm2
        exact pS_of (c_X5_dusk_4 l θ ea ad n g b r V m (by omega) (by omega) c6 c4 c2 zB nB d30 (by first | exact hg | omega) (by omega) p3 p2) (c_X6_dusk_4 l θ ad' n' g' r' m (n 13) (by omega) (by omega) s6 w5 hg6 g30 f0 d30 u16 (cOk_ev hE) (by omega)) (by rw [cN_ev key]) (⟨hC, hT, hSd, hTo, key, past_rem c4 c6 hPa hE, img_rem hI⟩)
set_option maxHeartbeats 1000000 in
theorem st_drift {l : Launch} {θ : zH} {ea : Nat → Nat → Nat} {ad ad' : Nat → Nat} {n : Nat → Nat} {g : Nat → Int32} {b : Nat → Bool} {r : Nat → Nat → Int32} {V : Nat → Ev} {n' : Nat → Nat} {g' : Int32} {r' : Nat → Nat → Int32} (h : RR n g b r V n' g' r') (x : Int32) : pS l θ ea ad ad' yX5_drift wsX5_drift 5 yX6_drift wsX6_drift 5 n g b r V n' g' r' [.int x] := by
  obtain ⟨hC, hT, hSd, hTo, hE, hPa, hI⟩ := id h
  obtain ⟨c1, c2, c3, c4, c5, c6, c7, c8, c9, c10, c11⟩ := id hC
  obtain ⟨t1, t2, t3, t4, t5⟩ := id hT
  obtain ⟨s1, s2⟩ := id hSd
  obtain ⟨o1, o2, o3, o4, o5⟩ := id hTo
  obtain ⟨p1, p2, p3, p4⟩ := id hPa
  obtain ⟨f0, fd, fu, f1, fv, f2, f3, f4, f5⟩ := id hE.1
  have ho : ∀ s, s < n 10 → r' 2 s = r 4 s := fun s hs => (c10 s hs).1
  have hoD : ∀ s, s < n 10 → isD (r 4 s) := fun s hs => (c10 s hs).2
  have w5 : n' 3 ≤ 5 := by omega
  have s6 : n' 1 ≤ 6 := by omega
  have g30 : n' 0 ≤ 30 := by omega
  have k6 : n' 5 ≤ 6 := by omega
  have t6 : n' 27 ≤ 6 := by omega
  have u16 : n' 22 ≤ 16 := by omega
  have zB : n 14 ≤ 20 := hE.2.2.2.2.2.1
  have nB : n 15 < 20 := hE.2.2.2.2.2.2.1
  have b1 : r' 7 21 = nI (n 14) := hE.2.2.2.2.1
  have d9 : n 13 ≤ 9060 := fd
  have d30 : n 13 < 2 ^ 30 := by omega
  cases hx : m_in (Int32.toInt64 x) 1 (60) with
  | false =>
    exact pS_of (c_X5_drift_1 l θ ea ad n g b r V x hx) (c_X6_drift_1 l θ ad' n' g' r' x hx) (rfl) (h)
  | true =>
    cases hg : b 1 with
    | false =>
      have hg6 : decide (0 < n' 0) = false := by rw [c1, ← c9]; exact hg
      exact pS_of (c_X5_drift_2 l θ ea ad n g b r V x hx (by first | exact hg | omega)) (c_X6_drift_2 l θ ad' n' g' r' x hx hg6 g30) (rfl) (h)
    | true =>
      have hg6 : decide (0 < n' 0) = true := by rw [c1, ← c9]; exact hg
      by_cases hl : 9000 < n 13
      · exact pS_of (c_X5_drift_3 l θ ea ad n g b r V x hx (by first | exact hg | omega) d30 (by omega)) (c_X6_drift_3 l θ ad' n' g' r' x (n 13) hx hg6 g30 f0 d30 (by omega)) (rfl) (h)
      · obtain ⟨m, hm, hm2, rfl⟩ := in_dusk hx
        have hl2 : n 13 ≤ 9000 := by omega
        have key : (eDf (n 10) (n 9) (n 11) (r 4) (n 0) (nowE n g b r) m).1 = (m_df (n' 1) (n' 0) (n' 3) (r' 2) (n' 8) (r' 7) (n 13) m).1 ∧ EvR (n 10) (n 11) (eDf (n 10) (n 9) (n 11) (r 4) (n 0) (nowE n g b r) m).2 (m_df (n' 1) (n' 0) (n' 3) (r' 2) (n' 8) (r' 7) (n 13) m).2 := by rw [c1, c3, c5, s1]; exact df_eq c4 c6 hE (n 9) ho rfl hl2 m hm2
        exact pS_of (c_X5_drift_4 l θ ea ad n g b r V m (by omega) (by omega) c6 c4 c2 zB nB d30 (by first | exact hg | omega) (by omega) p3 p2 s2) (c_X6_drift_4 l θ ad' n' g' r' m (n 13) (by omega) (by omega) s6 w5 hg6 g30 f0 d30 u16 (cOk_ev hE) (by omega) (by rw [s1]; exact s2)) (by rw [cN_ev key.2]) (⟨hC, hT, ⟨key.1.symm, eDf_s s2 m⟩, hTo, key.2, past_rem c4 c6 hPa hE, img_rem hI⟩)
set_option maxHeartbeats 1000000 in
theorem st_undo {l : Launch} {θ : zH} {ea : Nat → Nat → Nat} {ad ad' : Nat → Nat} {n : Nat → Nat} {g : Nat → Int32} {b : Nat → Bool} {r : Nat → Nat → Int32} {V : Nat → Ev} {n' : Nat → Nat} {g' : Int32} {r' : Nat → Nat → Int32} (h : RR n g b r V n' g' r')  : pS l θ ea ad ad' yX5_undo wsX5_undo 3 yX6_undo wsX6_undo 0 n g b r V n' g' r' [] := by
  obtain ⟨hC, hT, hSd, hTo, hE, hPa, hI⟩ := id h
  obtain ⟨c1, c2, c3, c4, c5, c6, c7, c8, c9, c10, c11⟩ := id hC
  obtain ⟨t1, t2, t3, t4, t5⟩ := id hT
  obtain ⟨s1, s2⟩ := id hSd
  obtain ⟨o1, o2, o3, o4, o5⟩ := id hTo
  obtain ⟨p1, p2, p3, p4⟩ := id hPa
  obtain ⟨f0, fd, fu, f1, fv, f2, f3, f4, f5⟩ := id hE.1
  have ho : ∀ s, s < n 10 → r' 2 s = r 4 s := fun s hs => (c10 s hs).1
  have hoD : ∀ s, s < n 10 → isD (r 4 s) := fun s hs => (c10 s hs).2
  have w5 : n' 3 ≤ 5 := by omega
  have s6 : n' 1 ≤ 6 := by omega
  have g30 : n' 0 ≤ 30 := by omega
  have k6 : n' 5 ≤ 6 := by omega
  have t6 : n' 27 ≤ 6 := by omega
  have u16 : n' 22 ≤ 16 := by omega
  have zB : n 14 ≤ 20 := hE.2.2.2.2.2.1
  have nB : n 15 < 20 := hE.2.2.2.2.2.2.1
  have b1 : r' 7 21 = nI (n 14) := hE.2.2.2.2.1
  have d9 : n 13 ≤ 9060 := fd
  have d30 : n 13 < 2 ^ 30 := by omega
  by_cases hz : n 16 = 0
  · exact pS_of (c_X5_undo_1 l θ ea ad n g b r V hz) (c_X6_undo_1 l θ ad' n' g' r' (by omega)) (rfl) (h)
  · obtain ⟨v, hv⟩ : ∃ v, n 16 = v + 1 := ⟨n 16 - 1, by omega⟩
    have key := past_rec (f := r' 7) (o := nowE n g b r) c4 c6 hPa hv
    exact pS_of (c_X5_undo_2 l θ ea ad n g b r V p3 p2 (by omega)) (c_X6_undo_2 l θ ad' n' g' r' v (by omega) (by omega)) (congrArg nI (by omega)) (⟨hC, hT, hSd, hTo, key.1, key.2, hI⟩)
set_option maxHeartbeats 1000000 in
theorem st_like {l : Launch} {θ : zH} {ea : Nat → Nat → Nat} {ad ad' : Nat → Nat} {n : Nat → Nat} {g : Nat → Int32} {b : Nat → Bool} {r : Nat → Nat → Int32} {V : Nat → Ev} {n' : Nat → Nat} {g' : Int32} {r' : Nat → Nat → Int32} (h : RR n g b r V n' g' r') (s set : Int32) : pS l θ ea ad ad' yX5_like wsX5_like 2 yX6_like wsX6_like 2 n g b r V n' g' r' [.int s, .int set] := by
  obtain ⟨hC, hT, hSd, hTo, hE, hPa, hI⟩ := id h
  obtain ⟨c1, c2, c3, c4, c5, c6, c7, c8, c9, c10, c11⟩ := id hC
  obtain ⟨t1, t2, t3, t4, t5⟩ := id hT
  obtain ⟨s1, s2⟩ := id hSd
  obtain ⟨o1, o2, o3, o4, o5⟩ := id hTo
  obtain ⟨p1, p2, p3, p4⟩ := id hPa
  obtain ⟨f0, fd, fu, f1, fv, f2, f3, f4, f5⟩ := id hE.1
  have ho : ∀ s, s < n 10 → r' 2 s = r 4 s := fun s hs => (c10 s hs).1
  have hoD : ∀ s, s < n 10 → isD (r 4 s) := fun s hs => (c10 s hs).2
  have w5 : n' 3 ≤ 5 := by omega
  have s6 : n' 1 ≤ 6 := by omega
  have g30 : n' 0 ≤ 30 := by omega
  have k6 : n' 5 ≤ 6 := by omega
  have t6 : n' 27 ≤ 6 := by omega
  have u16 : n' 22 ≤ 16 := by omega
  have zB : n 14 ≤ 20 := hE.2.2.2.2.2.1
  have nB : n 15 < 20 := hE.2.2.2.2.2.2.1
  have b1 : r' 7 21 = nI (n 14) := hE.2.2.2.2.1
  have d9 : n 13 ≤ 9060 := fd
  have d30 : n 13 < 2 ^ 30 := by omega
  cases hj : okN s (n 10) with
  | false =>
    exact pS_of (c_X5_like_1 l θ ea ad n g b r V s set c4 hj) (c_X6_like_1 l θ ad' n' g' r' s set s6 (by rw [c3]; exact hj)) (rfl) (h)
  | true =>
    cases hs : okN set 1073741824 with
    | false =>
      exact pS_of (c_X5_like_2 l θ ea ad n g b r V s set c4 hj hs) (c_X6_like_2 l θ ad' n' g' r' s set s6 (by rw [c3]; exact hj) hs) (rfl) (h)
    | true =>
      obtain ⟨j, j_lt, rfl⟩ := okN_of hj (by omega)
      exact pS_of (c_X5_like_3 l θ ea ad n g b r V j set c4 (by omega) hs) (c_X6_like_3 l θ ad' n' g' r' j set s6 (by omega) hs) (by rw [(c10 j j_lt).1, bcn_ones (isD_xor (hoD j j_lt) (isD_ok hs))]) (h)
set_option maxHeartbeats 1000000 in
theorem st_seenAs {l : Launch} {θ : zH} {ea : Nat → Nat → Nat} {ad ad' : Nat → Nat} {n : Nat → Nat} {g : Nat → Int32} {b : Nat → Bool} {r : Nat → Nat → Int32} {V : Nat → Ev} {n' : Nat → Nat} {g' : Int32} {r' : Nat → Nat → Int32} (h : RR n g b r V n' g' r') (set : Int32) : pS l θ ea ad ad' yX5_seenAs wsX5_seenAs 2 yX6_seenAs wsX6_seenAs 2 n g b r V n' g' r' [.int set] := by
  obtain ⟨hC, hT, hSd, hTo, hE, hPa, hI⟩ := id h
  obtain ⟨c1, c2, c3, c4, c5, c6, c7, c8, c9, c10, c11⟩ := id hC
  obtain ⟨t1, t2, t3, t4, t5⟩ := id hT
  obtain ⟨s1, s2⟩ := id hSd
  obtain ⟨o1, o2, o3, o4, o5⟩ := id hTo
  obtain ⟨p1, p2, p3, p4⟩ := id hPa
  obtain ⟨f0, fd, fu, f1, fv, f2, f3, f4, f5⟩ := id hE.1
  have ho : ∀ s, s < n 10 → r' 2 s = r 4 s := fun s hs => (c10 s hs).1
  have hoD : ∀ s, s < n 10 → isD (r 4 s) := fun s hs => (c10 s hs).2
  have w5 : n' 3 ≤ 5 := by omega
  have s6 : n' 1 ≤ 6 := by omega
  have g30 : n' 0 ≤ 30 := by omega
  have k6 : n' 5 ≤ 6 := by omega
  have t6 : n' 27 ≤ 6 := by omega
  have u16 : n' 22 ≤ 16 := by omega
  have zB : n 14 ≤ 20 := hE.2.2.2.2.2.1
  have nB : n 15 < 20 := hE.2.2.2.2.2.2.1
  have b1 : r' 7 21 = nI (n 14) := hE.2.2.2.2.1
  have d9 : n 13 ≤ 9060 := fd
  have d30 : n 13 < 2 ^ 30 := by omega
  cases hs : okN set 1073741824 with
  | false =>
    exact pS_of (c_X5_seenAs_1 l θ ea ad n g b r V set hs) (c_X6_seenAs_1 l θ ad' n' g' r' set hs) (rfl) (h)
  | true =>
    exact pS_of (c_X5_seenAs_2 l θ ea ad n g b r V set c4 hs) (c_X6_seenAs_2 l θ ad' n' g' r' set s6 hs) (by rw [c3]; exact (ml_eq ho (fun s hs2 => isD_and (isD_xor (hoD s hs2) (isD_ok hs))) (n 10) (Nat.le_refl _)).1) (h)
set_option maxHeartbeats 1000000 in
theorem st_bestLamp {l : Launch} {θ : zH} {ea : Nat → Nat → Nat} {ad ad' : Nat → Nat} {n : Nat → Nat} {g : Nat → Int32} {b : Nat → Bool} {r : Nat → Nat → Int32} {V : Nat → Ev} {n' : Nat → Nat} {g' : Int32} {r' : Nat → Nat → Int32} (h : RR n g b r V n' g' r') (w s x : Int32) : pS l θ ea ad ad' yX5_bestLamp wsX5_bestLamp 3 yX6_bestLamp wsX6_bestLamp 3 n g b r V n' g' r' [.int w, .int s, .int x] := by
  obtain ⟨hC, hT, hSd, hTo, hE, hPa, hI⟩ := id h
  obtain ⟨c1, c2, c3, c4, c5, c6, c7, c8, c9, c10, c11⟩ := id hC
  obtain ⟨t1, t2, t3, t4, t5⟩ := id hT
  obtain ⟨s1, s2⟩ := id hSd
  obtain ⟨o1, o2, o3, o4, o5⟩ := id hTo
  obtain ⟨p1, p2, p3, p4⟩ := id hPa
  obtain ⟨f0, fd, fu, f1, fv, f2, f3, f4, f5⟩ := id hE.1
  have ho : ∀ s, s < n 10 → r' 2 s = r 4 s := fun s hs => (c10 s hs).1
  have hoD : ∀ s, s < n 10 → isD (r 4 s) := fun s hs => (c10 s hs).2
  have w5 : n' 3 ≤ 5 := by omega
  have s6 : n' 1 ≤ 6 := by omega
  have g30 : n' 0 ≤ 30 := by omega
  have k6 : n' 5 ≤ 6 := by omega
  have t6 : n' 27 ≤ 6 := by omega
  have u16 : n' 22 ≤ 16 := by omega
  have zB : n 14 ≤ 20 := hE.2.2.2.2.2.1
  have nB : n 15 < 20 := hE.2.2.2.2.2.2.1
  have b1 : r' 7 21 = nI (n 14) := hE.2.2.2.2.1
  have d9 : n 13 ≤ 9060 := fd
  have d30 : n 13 < 2 ^ 30 := by omega
  cases hw : okN w (n 11) with
  | false =>
    exact pS_of (c_X5_bestLamp_1 l θ ea ad n g b r V w s x c6 hw) (c_X6_bestLamp_1 l θ ad' n' g' r' w s x w5 (by rw [c5]; exact hw)) (rfl) (h)
  | true =>
    cases hj : okN s (n 10) with
    | false =>
      exact pS_of (c_X5_bestLamp_2 l θ ea ad n g b r V w s x c6 c4 hw hj) (c_X6_bestLamp_2 l θ ad' n' g' r' w s x w5 s6 (by rw [c5]; exact hw) (by rw [c3]; exact hj)) (rfl) (h)
    | true =>
      cases hx : okN x 2 with
      | false =>
        exact pS_of (c_X5_bestLamp_3 l θ ea ad n g b r V w s x c6 c4 hw hj hx) (c_X6_bestLamp_3 l θ ad' n' g' r' w s x w5 s6 (by rw [c5]; exact hw) (by rw [c3]; exact hj) hx) (rfl) (h)
      | true =>
        obtain ⟨j, j_lt, rfl⟩ := okN_of hj (by omega)
        obtain ⟨q, q_lt, rfl⟩ := okN_of hx (by decide)
        have e6 : k_bl (n 9) g (r 4 j) 6 = m_bl n' r' j 6 := bl_eq (W := n 11) (S := n 10) hE c1 (c10 j j_lt).1 (c10 j j_lt).2 5 (by decide)
        rcases (show q = 0 ∨ q = 1 by omega) with rfl | rfl
        · exact pS_of (c_X5_bestLamp_40 l θ ea ad n g b r V w j c6 c4 hw (by omega) c2) (c_X6_bestLamp_40 l θ ad' n' g' r' w j w5 s6 (by rw [c5]; exact hw) (by omega) g30) (by rw [e6]) (h)
        · exact pS_of (c_X5_bestLamp_41 l θ ea ad n g b r V w j c6 c4 hw (by omega) c2) (c_X6_bestLamp_41 l θ ad' n' g' r' w j w5 s6 (by rw [c5]; exact hw) (by omega) g30) (by rw [e6]) (h)
set_option maxHeartbeats 1000000 in
theorem st_who {l : Launch} {θ : zH} {ea : Nat → Nat → Nat} {ad ad' : Nat → Nat} {n : Nat → Nat} {g : Nat → Int32} {b : Nat → Bool} {r : Nat → Nat → Int32} {V : Nat → Ev} {n' : Nat → Nat} {g' : Int32} {r' : Nat → Nat → Int32} (h : RR n g b r V n' g' r') (set x : Int32) : pS l θ ea ad ad' yX5_who wsX5_who 2 yX6_who wsX6_who 2 n g b r V n' g' r' [.int set, .int x] := by
  obtain ⟨hC, hT, hSd, hTo, hE, hPa, hI⟩ := id h
  obtain ⟨c1, c2, c3, c4, c5, c6, c7, c8, c9, c10, c11⟩ := id hC
  obtain ⟨t1, t2, t3, t4, t5⟩ := id hT
  obtain ⟨s1, s2⟩ := id hSd
  obtain ⟨o1, o2, o3, o4, o5⟩ := id hTo
  obtain ⟨p1, p2, p3, p4⟩ := id hPa
  obtain ⟨f0, fd, fu, f1, fv, f2, f3, f4, f5⟩ := id hE.1
  have ho : ∀ s, s < n 10 → r' 2 s = r 4 s := fun s hs => (c10 s hs).1
  have hoD : ∀ s, s < n 10 → isD (r 4 s) := fun s hs => (c10 s hs).2
  have w5 : n' 3 ≤ 5 := by omega
  have s6 : n' 1 ≤ 6 := by omega
  have g30 : n' 0 ≤ 30 := by omega
  have k6 : n' 5 ≤ 6 := by omega
  have t6 : n' 27 ≤ 6 := by omega
  have u16 : n' 22 ≤ 16 := by omega
  have zB : n 14 ≤ 20 := hE.2.2.2.2.2.1
  have nB : n 15 < 20 := hE.2.2.2.2.2.2.1
  have b1 : r' 7 21 = nI (n 14) := hE.2.2.2.2.1
  have d9 : n 13 ≤ 9060 := fd
  have d30 : n 13 < 2 ^ 30 := by omega
  cases hs : okN set 1073741824 with
  | false =>
    exact pS_of (c_X5_who_1 l θ ea ad n g b r V set x hs) (c_X6_who_1 l θ ad' n' g' r' set x hs) (rfl) (h)
  | true =>
    cases hx : okN x 3 with
    | false =>
      exact pS_of (c_X5_who_2 l θ ea ad n g b r V set x hs hx) (c_X6_who_2 l θ ad' n' g' r' set x hs hx) (rfl) (h)
    | true =>
      obtain ⟨q, q_lt, rfl⟩ := okN_of hx (by decide)
      rcases (show q = 0 ∨ q = 1 ∨ q = 2 by omega) with rfl | rfl | rfl
      · exact pS_of (c_X5_who_30 l θ ea ad n g b r V set c4 hs) (c_X6_who_30 l θ ad' n' g' r' set s6 hs) (by rw [c3, whO_eq ho (n 10) (Nat.le_refl _)]) (h)
      · exact pS_of (c_X5_who_31 l θ ea ad n g b r V set c4 hs) (c_X6_who_31 l θ ad' n' g' r' set s6 hs) (by rw [c3, whO_eq ho (n 10) (Nat.le_refl _)]) (h)
      · exact pS_of (c_X5_who_32 l θ ea ad n g b r V set c4 hs) (c_X6_who_32 l θ ad' n' g' r' set s6 hs) (by rw [c3, whO_eq ho (n 10) (Nat.le_refl _)]) (h)
set_option maxHeartbeats 1000000 in
theorem st_parted {l : Launch} {θ : zH} {ea : Nat → Nat → Nat} {ad ad' : Nat → Nat} {n : Nat → Nat} {g : Nat → Int32} {b : Nat → Bool} {r : Nat → Nat → Int32} {V : Nat → Ev} {n' : Nat → Nat} {g' : Int32} {r' : Nat → Nat → Int32} (h : RR n g b r V n' g' r') (set x : Int32) : pS l θ ea ad ad' yX5_parted wsX5_parted 2 yX6_parted wsX6_parted 2 n g b r V n' g' r' [.int set, .int x] := by
  obtain ⟨hC, hT, hSd, hTo, hE, hPa, hI⟩ := id h
  obtain ⟨c1, c2, c3, c4, c5, c6, c7, c8, c9, c10, c11⟩ := id hC
  obtain ⟨t1, t2, t3, t4, t5⟩ := id hT
  obtain ⟨s1, s2⟩ := id hSd
  obtain ⟨o1, o2, o3, o4, o5⟩ := id hTo
  obtain ⟨p1, p2, p3, p4⟩ := id hPa
  obtain ⟨f0, fd, fu, f1, fv, f2, f3, f4, f5⟩ := id hE.1
  have ho : ∀ s, s < n 10 → r' 2 s = r 4 s := fun s hs => (c10 s hs).1
  have hoD : ∀ s, s < n 10 → isD (r 4 s) := fun s hs => (c10 s hs).2
  have w5 : n' 3 ≤ 5 := by omega
  have s6 : n' 1 ≤ 6 := by omega
  have g30 : n' 0 ≤ 30 := by omega
  have k6 : n' 5 ≤ 6 := by omega
  have t6 : n' 27 ≤ 6 := by omega
  have u16 : n' 22 ≤ 16 := by omega
  have zB : n 14 ≤ 20 := hE.2.2.2.2.2.1
  have nB : n 15 < 20 := hE.2.2.2.2.2.2.1
  have b1 : r' 7 21 = nI (n 14) := hE.2.2.2.2.1
  have d9 : n 13 ≤ 9060 := fd
  have d30 : n 13 < 2 ^ 30 := by omega
  cases hs : okN set 1073741824 with
  | false =>
    exact pS_of (c_X5_parted_1 l θ ea ad n g b r V set x hs) (c_X6_parted_1 l θ ad' n' g' r' set x hs) (rfl) (h)
  | true =>
    cases hx : okN x 2 with
    | false =>
      exact pS_of (c_X5_parted_2 l θ ea ad n g b r V set x hs hx) (c_X6_parted_2 l θ ad' n' g' r' set x hs hx) (rfl) (h)
    | true =>
      obtain ⟨q, q_lt, rfl⟩ := okN_of hx (by decide)
      rcases (show q = 0 ∨ q = 1 by omega) with rfl | rfl
      · exact pS_of (c_X5_parted_30 l θ ea ad n g b r V set c4 hs) (c_X6_parted_30 l θ ad' n' g' r' set s6 hs) (by rw [c3, paO_eq ho (n 10) (Nat.le_refl _)]) (h)
      · exact pS_of (c_X5_parted_31 l θ ea ad n g b r V set c4 hs) (c_X6_parted_31 l θ ad' n' g' r' set s6 hs) (by rw [c3, paO_eq ho (n 10) (Nat.le_refl _)]) (h)
set_option maxHeartbeats 1000000 in
theorem st_places {l : Launch} {θ : zH} {ea : Nat → Nat → Nat} {ad ad' : Nat → Nat} {n : Nat → Nat} {g : Nat → Int32} {b : Nat → Bool} {r : Nat → Nat → Int32} {V : Nat → Ev} {n' : Nat → Nat} {g' : Int32} {r' : Nat → Nat → Int32} (h : RR n g b r V n' g' r') (w : Int32) : pS l θ ea ad ad' yX5_places wsX5_places 7 yX6_places wsX6_places 4 n g b r V n' g' r' [.int w] := by
  obtain ⟨hC, hT, hSd, hTo, hE, hPa, hI⟩ := id h
  obtain ⟨c1, c2, c3, c4, c5, c6, c7, c8, c9, c10, c11⟩ := id hC
  obtain ⟨t1, t2, t3, t4, t5⟩ := id hT
  obtain ⟨s1, s2⟩ := id hSd
  obtain ⟨o1, o2, o3, o4, o5⟩ := id hTo
  obtain ⟨p1, p2, p3, p4⟩ := id hPa
  obtain ⟨f0, fd, fu, f1, fv, f2, f3, f4, f5⟩ := id hE.1
  have ho : ∀ s, s < n 10 → r' 2 s = r 4 s := fun s hs => (c10 s hs).1
  have hoD : ∀ s, s < n 10 → isD (r 4 s) := fun s hs => (c10 s hs).2
  have w5 : n' 3 ≤ 5 := by omega
  have s6 : n' 1 ≤ 6 := by omega
  have g30 : n' 0 ≤ 30 := by omega
  have k6 : n' 5 ≤ 6 := by omega
  have t6 : n' 27 ≤ 6 := by omega
  have u16 : n' 22 ≤ 16 := by omega
  have zB : n 14 ≤ 20 := hE.2.2.2.2.2.1
  have nB : n 15 < 20 := hE.2.2.2.2.2.2.1
  have b1 : r' 7 21 = nI (n 14) := hE.2.2.2.2.1
  have d9 : n 13 ≤ 9060 := fd
  have d30 : n 13 < 2 ^ 30 := by omega
  have hdr : ∀ a s, a < n 11 → s < n 10 → fiO (m_pv (n' 0) (r' 2) (r' 7)) (n' 1) (r' 26) (n' 3) (a * 6 + s) = fiO (k_pv (n 9) g (r 4) (r 7)) (n 10) (r 13) (n 11) (a * 6 + s) := fun a s ha hs => by
    rw [fiO_at _ (by omega) _ (by omega) _ _ (by omega), fiO_at _ c4 _ hs _ _ ha]
    obtain ⟨l1, v, hv, l2⟩ := hE.2.2.1 a ha
    have l2' : r 7 a = nI v := l2
    show dW (r' 2) (r' 7) (n' 0) s (r' 7 (12 + a) + r' 7 1) = eB (n 9) (nowE n g b r) (r 4 s) (r 7 a)
    rw [c1, l1]
    show dW (r' 2) (r' 7) (n 9) s (r 7 a + r' 7 1) = _
    rw [l2']
    exact (eB_eq hE (n 9) (ho s hs) hv).symm
  have key := places_eq c4 c6 hdr (r 14) (r 15) (r' 25) (fun _ => 0)
  have key2 : pq (n' 1) (n' 3) (fiO (m_pv (n' 0) (r' 2) (r' 7)) (n' 1) (r' 26) (n' 3)) (n' 3) 0 (nI 0) (nI 0) 0 (chP (n' 1) (fun _ => 0)) ((-1), r' 25) = pq (n 10) (n 11) (fiO (m_pv (n' 0) (r' 2) (r' 7)) (n' 1) (r' 26) (n' 3)) (n 11) 0 (nI 0) (nI 0) 0 (chP (n 10) (fun _ => 0)) ((-1), r' 25) := by rw [c3, c5]
  by_cases h1 : w = (-1)
  · subst h1
    exact ⟨_, _, (c_X5_places_2 l θ ea ad n g b r V c6 c4 c2), (c_X6_places_2 l θ ad' n' g' r' w5 s6 g30), fun x Y x' Y' q1 q2 => by
      obtain ⟨a1, a2⟩ := q1
      obtain ⟨d1, tr, d2⟩ := q2
      exact ⟨by rw [a1, d1, key2]; exact key.1, _, _, _, _, _, _, _, _, a2, d2, ⟨hC, hT, hSd, hTo, hE, hPa, hI⟩⟩⟩
  · cases hw : okN w (n 11) with
    | false =>
      exact pS_of (c_X5_places_1 l θ ea ad n g b r V w c6 (by first | exact h1 | omega) hw) (c_X6_places_1 l θ ad' n' g' r' w w5 (by first | exact h1 | omega) (by rw [c5]; exact hw)) (rfl) (h)
    | true =>
      obtain ⟨w, w_lt, rfl⟩ := okN_of hw (by omega)
      exact ⟨_, _, (c_X5_places_3 l θ ea ad n g b r V w c6 c4 c2 (by omega)), (c_X6_places_3 l θ ad' n' g' r' w w5 s6 g30 (by omega)), fun x Y x' Y' q1 q2 => by
        obtain ⟨a1, a2⟩ := q1
        obtain ⟨d1, tr, d2⟩ := q2
        exact ⟨by rw [a1, d1, key2]; exact key.2 w w_lt, _, _, _, _, _, _, _, _, a2, d2, ⟨hC, hT, hSd, hTo, hE, hPa, hI⟩⟩⟩
set_option maxHeartbeats 1000000 in
theorem st_apart {l : Launch} {θ : zH} {ea : Nat → Nat → Nat} {ad ad' : Nat → Nat} {n : Nat → Nat} {g : Nat → Int32} {b : Nat → Bool} {r : Nat → Nat → Int32} {V : Nat → Ev} {n' : Nat → Nat} {g' : Int32} {r' : Nat → Nat → Int32} (h : RR n g b r V n' g' r') (s q x : Int32) : pS l θ ea ad ad' yX5_apart wsX5_apart 2 yX6_apart wsX6_apart 2 n g b r V n' g' r' [.int s, .int q, .int x] := by
  obtain ⟨hC, hT, hSd, hTo, hE, hPa, hI⟩ := id h
  obtain ⟨c1, c2, c3, c4, c5, c6, c7, c8, c9, c10, c11⟩ := id hC
  obtain ⟨t1, t2, t3, t4, t5⟩ := id hT
  obtain ⟨s1, s2⟩ := id hSd
  obtain ⟨o1, o2, o3, o4, o5⟩ := id hTo
  obtain ⟨p1, p2, p3, p4⟩ := id hPa
  obtain ⟨f0, fd, fu, f1, fv, f2, f3, f4, f5⟩ := id hE.1
  have ho : ∀ s, s < n 10 → r' 2 s = r 4 s := fun s hs => (c10 s hs).1
  have hoD : ∀ s, s < n 10 → isD (r 4 s) := fun s hs => (c10 s hs).2
  have w5 : n' 3 ≤ 5 := by omega
  have s6 : n' 1 ≤ 6 := by omega
  have g30 : n' 0 ≤ 30 := by omega
  have k6 : n' 5 ≤ 6 := by omega
  have t6 : n' 27 ≤ 6 := by omega
  have u16 : n' 22 ≤ 16 := by omega
  have zB : n 14 ≤ 20 := hE.2.2.2.2.2.1
  have nB : n 15 < 20 := hE.2.2.2.2.2.2.1
  have b1 : r' 7 21 = nI (n 14) := hE.2.2.2.2.1
  have d9 : n 13 ≤ 9060 := fd
  have d30 : n 13 < 2 ^ 30 := by omega
  cases hj : okN s (n 10) with
  | false =>
    exact pS_of (c_X5_apart_1 l θ ea ad n g b r V s q x c4 hj) (c_X6_apart_1 l θ ad' n' g' r' s q x s6 (by rw [c3]; exact hj)) (rfl) (h)
  | true =>
    cases hq : okN q (n 10) with
    | false =>
      exact pS_of (c_X5_apart_2 l θ ea ad n g b r V s q x c4 hj hq) (c_X6_apart_2 l θ ad' n' g' r' s q x s6 (by rw [c3]; exact hj) (by rw [c3]; exact hq)) (rfl) (h)
    | true =>
      by_cases e : s = q
      · subst e
        exact pS_of (c_X5_apart_3 l θ ea ad n g b r V s x c4 hj) (c_X6_apart_3 l θ ad' n' g' r' s x s6 (by rw [c3]; exact hj)) (rfl) (h)
      · obtain ⟨j, j_lt, rfl⟩ := okN_of hj (by omega)
        obtain ⟨q, q_lt, rfl⟩ := okN_of hq (by omega)
        have hne : ¬ j = q := fun z => e (by rw [z])
        cases hx : okN x 3 with
        | false =>
          exact pS_of (c_X5_apart_5 l θ ea ad n g b r V j q x c4 (by omega) (by omega) (by first | exact hne | omega) hx) (c_X6_apart_5 l θ ad' n' g' r' j q x s6 (by omega) (by omega) (by first | exact hne | omega) hx) (rfl) (h)
        | true =>
          obtain ⟨y, y_lt, rfl⟩ := okN_of hx (by decide)
          rcases (show y = 0 ∨ y = 1 ∨ y = 2 by omega) with rfl | rfl | rfl
          · exact pS_of (c_X5_apart_40 l θ ea ad n g b r V j q c4 (by omega) (by omega) (by first | exact hne | omega)) (c_X6_apart_40 l θ ad' n' g' r' j q s6 (by omega) (by omega) (by first | exact hne | omega)) (by rw [(c10 j j_lt).1, (c10 q q_lt).1]) (h)
          · exact pS_of (c_X5_apart_41 l θ ea ad n g b r V j q c4 (by omega) (by omega) (by first | exact hne | omega)) (c_X6_apart_41 l θ ad' n' g' r' j q s6 (by omega) (by omega) (by first | exact hne | omega)) (by rw [(c10 j j_lt).1, (c10 q q_lt).1, bcn_ones (isD_xor (hoD j j_lt) (hoD q q_lt))]) (h)
          · exact pS_of (c_X5_apart_42 l θ ea ad n g b r V j q c4 (by omega) (by omega) (by first | exact hne | omega)) (c_X6_apart_42 l θ ad' n' g' r' j q s6 (by omega) (by omega) (by first | exact hne | omega)) (by rw [(c10 j j_lt).1, (c10 q q_lt).1]) (h)
set_option maxHeartbeats 1000000 in
theorem st_turned {l : Launch} {θ : zH} {ea : Nat → Nat → Nat} {ad ad' : Nat → Nat} {n : Nat → Nat} {g : Nat → Int32} {b : Nat → Bool} {r : Nat → Nat → Int32} {V : Nat → Ev} {n' : Nat → Nat} {g' : Int32} {r' : Nat → Nat → Int32} (h : RR n g b r V n' g' r') (set x : Int32) : pS l θ ea ad ad' yX5_turned wsX5_turned 2 yX6_turned wsX6_turned 2 n g b r V n' g' r' [.int set, .int x] := by
  obtain ⟨hC, hT, hSd, hTo, hE, hPa, hI⟩ := id h
  obtain ⟨c1, c2, c3, c4, c5, c6, c7, c8, c9, c10, c11⟩ := id hC
  obtain ⟨t1, t2, t3, t4, t5⟩ := id hT
  obtain ⟨s1, s2⟩ := id hSd
  obtain ⟨o1, o2, o3, o4, o5⟩ := id hTo
  obtain ⟨p1, p2, p3, p4⟩ := id hPa
  obtain ⟨f0, fd, fu, f1, fv, f2, f3, f4, f5⟩ := id hE.1
  have ho : ∀ s, s < n 10 → r' 2 s = r 4 s := fun s hs => (c10 s hs).1
  have hoD : ∀ s, s < n 10 → isD (r 4 s) := fun s hs => (c10 s hs).2
  have w5 : n' 3 ≤ 5 := by omega
  have s6 : n' 1 ≤ 6 := by omega
  have g30 : n' 0 ≤ 30 := by omega
  have k6 : n' 5 ≤ 6 := by omega
  have t6 : n' 27 ≤ 6 := by omega
  have u16 : n' 22 ≤ 16 := by omega
  have zB : n 14 ≤ 20 := hE.2.2.2.2.2.1
  have nB : n 15 < 20 := hE.2.2.2.2.2.2.1
  have b1 : r' 7 21 = nI (n 14) := hE.2.2.2.2.1
  have d9 : n 13 ≤ 9060 := fd
  have d30 : n 13 < 2 ^ 30 := by omega
  cases hs : okN set 1073741824 with
  | false =>
    exact pS_of (c_X5_turned_1 l θ ea ad n g b r V set x hs) (c_X6_turned_1 l θ ad' n' g' r' set x hs) (rfl) (h)
  | true =>
    cases hx : okN x 2 with
    | false =>
      exact pS_of (c_X5_turned_2 l θ ea ad n g b r V set x hs hx) (c_X6_turned_2 l θ ad' n' g' r' set x hs hx) (rfl) (h)
    | true =>
      obtain ⟨q, q_lt, rfl⟩ := okN_of hx (by decide)
      rcases (show q = 0 ∨ q = 1 by omega) with rfl | rfl
      · exact pS_of (c_X5_turned_30 l θ ea ad n g b r V set hs) (c_X6_turned_30 l θ ad' n' g' r' set hs) (ho_eq set 30 (Nat.le_refl _)) (h)
      · exact pS_of (c_X5_turned_31 l θ ea ad n g b r V set hs) (c_X6_turned_31 l θ ad' n' g' r' set hs) (mi_eq set) (h)
set_option maxHeartbeats 1000000 in
theorem st_votes {l : Launch} {θ : zH} {ea : Nat → Nat → Nat} {ad ad' : Nat → Nat} {n : Nat → Nat} {g : Nat → Int32} {b : Nat → Bool} {r : Nat → Nat → Int32} {V : Nat → Ev} {n' : Nat → Nat} {g' : Int32} {r' : Nat → Nat → Int32} (h : RR n g b r V n' g' r') (set s : Int32) : pS l θ ea ad ad' yX5_votes wsX5_votes 3 yX6_votes wsX6_votes 3 n g b r V n' g' r' [.int set, .int s] := by
  obtain ⟨hC, hT, hSd, hTo, hE, hPa, hI⟩ := id h
  obtain ⟨c1, c2, c3, c4, c5, c6, c7, c8, c9, c10, c11⟩ := id hC
  obtain ⟨t1, t2, t3, t4, t5⟩ := id hT
  obtain ⟨s1, s2⟩ := id hSd
  obtain ⟨o1, o2, o3, o4, o5⟩ := id hTo
  obtain ⟨p1, p2, p3, p4⟩ := id hPa
  obtain ⟨f0, fd, fu, f1, fv, f2, f3, f4, f5⟩ := id hE.1
  have ho : ∀ s, s < n 10 → r' 2 s = r 4 s := fun s hs => (c10 s hs).1
  have hoD : ∀ s, s < n 10 → isD (r 4 s) := fun s hs => (c10 s hs).2
  have w5 : n' 3 ≤ 5 := by omega
  have s6 : n' 1 ≤ 6 := by omega
  have g30 : n' 0 ≤ 30 := by omega
  have k6 : n' 5 ≤ 6 := by omega
  have t6 : n' 27 ≤ 6 := by omega
  have u16 : n' 22 ≤ 16 := by omega
  have zB : n 14 ≤ 20 := hE.2.2.2.2.2.1
  have nB : n 15 < 20 := hE.2.2.2.2.2.2.1
  have b1 : r' 7 21 = nI (n 14) := hE.2.2.2.2.1
  have d9 : n 13 ≤ 9060 := fd
  have d30 : n 13 < 2 ^ 30 := by omega
  have tv : okN set 1073741824 = true → ∀ j, j < n 10 → k_tv (r 4) (r 6) set (n 10) (r 16) (n 12) j = m_vf n' r' set (nI j) (n' 5) := fun hs j hj => by rw [c7]; exact tv_eq c4 c3 ho hoD (isD_ok hs) c11 (r 16) hj (n 12) (Nat.le_refl _)
  by_cases h1 : s = (-1)
  · subst h1
    cases hs : okN set 1073741824 with
    | false =>
      exact pS_of (c_X5_votes_3 l θ ea ad n g b r V set hs) (c_X6_votes_3 l θ ad' n' g' r' set hs) (rfl) (h)
    | true =>
      exact pS_of (c_X5_votes_5 l θ ea ad n g b r V set c4 c8 hs) (c_X6_votes_5 l θ ad' n' g' r' set s6 k6 hs) (by rw [c3, el_eq (tv hs) (n 10) (Nat.le_refl _)]) (⟨hC, hT, hSd, hTo, hE, hPa, hI⟩)
  · cases hj : okN s (n 10) with
    | false =>
      exact pS_of (c_X5_votes_1 l θ ea ad n g b r V set s c4 (by first | exact h1 | omega) hj) (c_X6_votes_1 l θ ad' n' g' r' set s s6 (by first | exact h1 | omega) (by rw [c3]; exact hj)) (rfl) (h)
    | true =>
      cases hs : okN set 1073741824 with
      | false =>
        exact pS_of (c_X5_votes_2 l θ ea ad n g b r V set s c4 (by first | exact h1 | omega) hj hs) (c_X6_votes_2 l θ ad' n' g' r' set s s6 (by first | exact h1 | omega) (by rw [c3]; exact hj) hs) (rfl) (h)
      | true =>
        obtain ⟨j, j_lt, rfl⟩ := okN_of hj (by omega)
        exact pS_of (c_X5_votes_4 l θ ea ad n g b r V set j c4 c8 (by omega) hs) (c_X6_votes_4 l θ ad' n' g' r' set j s6 k6 (by omega) hs) (tv hs j j_lt) (⟨hC, hT, hSd, hTo, hE, hPa, hI⟩)
set_option maxHeartbeats 1000000 in
theorem st_clear {l : Launch} {θ : zH} {ea : Nat → Nat → Nat} {ad ad' : Nat → Nat} {n : Nat → Nat} {g : Nat → Int32} {b : Nat → Bool} {r : Nat → Nat → Int32} {V : Nat → Ev} {n' : Nat → Nat} {g' : Int32} {r' : Nat → Nat → Int32} (h : RR n g b r V n' g' r') (x y : Int32) : pS l θ ea ad ad' yX5_clear wsX5_clear 1 yX6_clear wsX6_clear 1 n g b r V n' g' r' [.int x, .int y] := by
  obtain ⟨hC, hT, hSd, hTo, hE, hPa, hI⟩ := id h
  obtain ⟨c1, c2, c3, c4, c5, c6, c7, c8, c9, c10, c11⟩ := id hC
  obtain ⟨t1, t2, t3, t4, t5⟩ := id hT
  obtain ⟨s1, s2⟩ := id hSd
  obtain ⟨o1, o2, o3, o4, o5⟩ := id hTo
  obtain ⟨p1, p2, p3, p4⟩ := id hPa
  obtain ⟨f0, fd, fu, f1, fv, f2, f3, f4, f5⟩ := id hE.1
  have ho : ∀ s, s < n 10 → r' 2 s = r 4 s := fun s hs => (c10 s hs).1
  have hoD : ∀ s, s < n 10 → isD (r 4 s) := fun s hs => (c10 s hs).2
  have w5 : n' 3 ≤ 5 := by omega
  have s6 : n' 1 ≤ 6 := by omega
  have g30 : n' 0 ≤ 30 := by omega
  have k6 : n' 5 ≤ 6 := by omega
  have t6 : n' 27 ≤ 6 := by omega
  have u16 : n' 22 ≤ 16 := by omega
  have zB : n 14 ≤ 20 := hE.2.2.2.2.2.1
  have nB : n 15 < 20 := hE.2.2.2.2.2.2.1
  have b1 : r' 7 21 = nI (n 14) := hE.2.2.2.2.1
  have d9 : n 13 ≤ 9060 := fd
  have d30 : n 13 < 2 ^ 30 := by omega
  cases hx : okN x 61 with
  | false =>
    exact pS_of (c_X5_clear_1 l θ ea ad n g b r V x y hx) (c_X6_clear_1 l θ ad' n' g' r' x y hx) (rfl) (h)
  | true =>
    cases hy : okN y 101 with
    | false =>
      exact pS_of (c_X5_clear_2 l θ ea ad n g b r V x y hx hy) (c_X6_clear_2 l θ ad' n' g' r' x y hx hy) (rfl) (h)
    | true =>
      obtain ⟨m, m_lt, rfl⟩ := okN_of hx (by decide)
      obtain ⟨q, q_lt, rfl⟩ := okN_of hy (by decide)
      exact pS_of (c_X5_clear_3 l θ ea ad n g b r V m q (by omega) (by omega)) (c_X6_clear_3 l θ ad' n' g' r' m q (by omega) (by omega)) (rfl) (h)
set_option maxHeartbeats 1000000 in
theorem st_tellOf_0 {l : Launch} {θ : zH} {ea : Nat → Nat → Nat} {ad ad' : Nat → Nat} {n : Nat → Nat} {g : Nat → Int32} {b : Nat → Bool} {r : Nat → Nat → Int32} {V : Nat → Ev} {n' : Nat → Nat} {g' : Int32} {r' : Nat → Nat → Int32} (h : RR n g b r V n' g' r') (x : Int32) : pS l θ ea ad ad' yX5_tellOf wsX5_tellOf 1 yX6_tellOf wsX6_tellOf 1 n g b r V n' g' r' [.int x, .int (nI 0)] := by
  obtain ⟨hC, hT, hSd, hTo, hE, hPa, hI⟩ := id h
  obtain ⟨c1, c2, c3, c4, c5, c6, c7, c8, c9, c10, c11⟩ := id hC
  obtain ⟨t1, t2, t3, t4, t5⟩ := id hT
  obtain ⟨s1, s2⟩ := id hSd
  obtain ⟨o1, o2, o3, o4, o5⟩ := id hTo
  obtain ⟨p1, p2, p3, p4⟩ := id hPa
  obtain ⟨f0, fd, fu, f1, fv, f2, f3, f4, f5⟩ := id hE.1
  have ho : ∀ s, s < n 10 → r' 2 s = r 4 s := fun s hs => (c10 s hs).1
  have hoD : ∀ s, s < n 10 → isD (r 4 s) := fun s hs => (c10 s hs).2
  have w5 : n' 3 ≤ 5 := by omega
  have s6 : n' 1 ≤ 6 := by omega
  have g30 : n' 0 ≤ 30 := by omega
  have k6 : n' 5 ≤ 6 := by omega
  have t6 : n' 27 ≤ 6 := by omega
  have u16 : n' 22 ≤ 16 := by omega
  have zB : n 14 ≤ 20 := hE.2.2.2.2.2.1
  have nB : n 15 < 20 := hE.2.2.2.2.2.2.1
  have b1 : r' 7 21 = nI (n 14) := hE.2.2.2.2.1
  have d9 : n 13 ≤ 9060 := fd
  have d30 : n 13 < 2 ^ 30 := by omega
  cases hx : okN x 30 with
  | false =>
    exact pS_of (c_X5_tellOf_1 l θ ea ad n g b r V x (nI 0) hx) (c_X6_tellOf_1 l θ ad' n' g' r' x (nI 0) hx) (rfl) (h)
  | true =>
    by_cases ht : n 1 = 6
    · exact pS_of (c_X5_tellOf_2 l θ ea ad n g b r V x (nI 0) hx (by omega)) (c_X6_tellOf_2 l θ ad' n' g' r' x (nI 0) hx (by omega)) (rfl) (h)
    · obtain ⟨v, v_lt, rfl⟩ := okN_of hx (by decide)
      exact pS_of (c_X5_tellOf_30 l θ ea ad n g b r V (nI v) hx (by omega)) (c_X6_tellOf_30 l θ ad' n' g' r' (nI v) hx (by omega)) (by rw [o1]) (⟨hC, hT, hSd, (told_1 hTo (by omega) v_lt).2, hE, hPa, hI⟩)
set_option maxHeartbeats 1000000 in
theorem st_tellOf_1 {l : Launch} {θ : zH} {ea : Nat → Nat → Nat} {ad ad' : Nat → Nat} {n : Nat → Nat} {g : Nat → Int32} {b : Nat → Bool} {r : Nat → Nat → Int32} {V : Nat → Ev} {n' : Nat → Nat} {g' : Int32} {r' : Nat → Nat → Int32} (h : RR n g b r V n' g' r') (x : Int32) : pS l θ ea ad ad' yX5_tellOf wsX5_tellOf 1 yX6_tellOf wsX6_tellOf 1 n g b r V n' g' r' [.int x, .int (nI 1)] := by
  obtain ⟨hC, hT, hSd, hTo, hE, hPa, hI⟩ := id h
  obtain ⟨c1, c2, c3, c4, c5, c6, c7, c8, c9, c10, c11⟩ := id hC
  obtain ⟨t1, t2, t3, t4, t5⟩ := id hT
  obtain ⟨s1, s2⟩ := id hSd
  obtain ⟨o1, o2, o3, o4, o5⟩ := id hTo
  obtain ⟨p1, p2, p3, p4⟩ := id hPa
  obtain ⟨f0, fd, fu, f1, fv, f2, f3, f4, f5⟩ := id hE.1
  have ho : ∀ s, s < n 10 → r' 2 s = r 4 s := fun s hs => (c10 s hs).1
  have hoD : ∀ s, s < n 10 → isD (r 4 s) := fun s hs => (c10 s hs).2
  have w5 : n' 3 ≤ 5 := by omega
  have s6 : n' 1 ≤ 6 := by omega
  have g30 : n' 0 ≤ 30 := by omega
  have k6 : n' 5 ≤ 6 := by omega
  have t6 : n' 27 ≤ 6 := by omega
  have u16 : n' 22 ≤ 16 := by omega
  have zB : n 14 ≤ 20 := hE.2.2.2.2.2.1
  have nB : n 15 < 20 := hE.2.2.2.2.2.2.1
  have b1 : r' 7 21 = nI (n 14) := hE.2.2.2.2.1
  have d9 : n 13 ≤ 9060 := fd
  have d30 : n 13 < 2 ^ 30 := by omega
  cases hx : okN x 30 with
  | false =>
    exact pS_of (c_X5_tellOf_1 l θ ea ad n g b r V x (nI 1) hx) (c_X6_tellOf_1 l θ ad' n' g' r' x (nI 1) hx) (rfl) (h)
  | true =>
    by_cases ht : n 1 = 6
    · exact pS_of (c_X5_tellOf_2 l θ ea ad n g b r V x (nI 1) hx (by omega)) (c_X6_tellOf_2 l θ ad' n' g' r' x (nI 1) hx (by omega)) (rfl) (h)
    · obtain ⟨v, v_lt, rfl⟩ := okN_of hx (by decide)
      exact pS_of (c_X5_tellOf_31 l θ ea ad n g b r V (nI v) hx (by omega)) (c_X6_tellOf_31 l θ ad' n' g' r' (nI v) hx (by omega)) (by rw [o1]) (⟨hC, hT, hSd, (told_1 hTo (by omega) v_lt).1, hE, hPa, hI⟩)
set_option maxHeartbeats 1000000 in
theorem st_ask {l : Launch} {θ : zH} {ea : Nat → Nat → Nat} {ad ad' : Nat → Nat} {n : Nat → Nat} {g : Nat → Int32} {b : Nat → Bool} {r : Nat → Nat → Int32} {V : Nat → Ev} {n' : Nat → Nat} {g' : Int32} {r' : Nat → Nat → Int32} (h : RR n g b r V n' g' r')  : pS l θ ea ad ad' yX5_ask wsX5_ask 3 yX6_ask wsX6_ask 2 n g b r V n' g' r' [] := by
  obtain ⟨hC, hT, hSd, hTo, hE, hPa, hI⟩ := id h
  obtain ⟨c1, c2, c3, c4, c5, c6, c7, c8, c9, c10, c11⟩ := id hC
  obtain ⟨t1, t2, t3, t4, t5⟩ := id hT
  obtain ⟨s1, s2⟩ := id hSd
  obtain ⟨o1, o2, o3, o4, o5⟩ := id hTo
  obtain ⟨p1, p2, p3, p4⟩ := id hPa
  obtain ⟨f0, fd, fu, f1, fv, f2, f3, f4, f5⟩ := id hE.1
  have ho : ∀ s, s < n 10 → r' 2 s = r 4 s := fun s hs => (c10 s hs).1
  have hoD : ∀ s, s < n 10 → isD (r 4 s) := fun s hs => (c10 s hs).2
  have w5 : n' 3 ≤ 5 := by omega
  have s6 : n' 1 ≤ 6 := by omega
  have g30 : n' 0 ≤ 30 := by omega
  have k6 : n' 5 ≤ 6 := by omega
  have t6 : n' 27 ≤ 6 := by omega
  have u16 : n' 22 ≤ 16 := by omega
  have zB : n 14 ≤ 20 := hE.2.2.2.2.2.1
  have nB : n 15 < 20 := hE.2.2.2.2.2.2.1
  have b1 : r' 7 21 = nI (n 14) := hE.2.2.2.2.1
  have d9 : n 13 ≤ 9060 := fd
  have d30 : n 13 < 2 ^ 30 := by omega
  have hT2 : rTold (n' 27) (g 0) (g 1) (n' 27) (r' 28) (r' 29) := by rw [o1]; exact ⟨rfl, hTo.2⟩
  have hA := congrArg Prod.fst (ask_eq (S := n 10) hT2 ho 30 (Nat.le_refl _))
  exact pS_of (c_X5_ask l θ ea ad n g b r V c4) (c_X6_ask l θ ad' n' g' r' s6 t6) (by rw [c3]; exact hA) (⟨hC, hT, hSd, hTo, hE, hPa, hI⟩)
set_option maxHeartbeats 1000000 in
theorem st_tear {l : Launch} {θ : zH} {ea : Nat → Nat → Nat} {ad ad' : Nat → Nat} {n : Nat → Nat} {g : Nat → Int32} {b : Nat → Bool} {r : Nat → Nat → Int32} {V : Nat → Ev} {n' : Nat → Nat} {g' : Int32} {r' : Nat → Nat → Int32} (h : RR n g b r V n' g' r')  : pS l θ ea ad ad' yX5_tear wsX5_tear 1 yX6_tear wsX6_tear 0 n g b r V n' g' r' [] := by
  obtain ⟨hC, hT, hSd, hTo, hE, hPa, hI⟩ := id h
  obtain ⟨c1, c2, c3, c4, c5, c6, c7, c8, c9, c10, c11⟩ := id hC
  obtain ⟨t1, t2, t3, t4, t5⟩ := id hT
  obtain ⟨s1, s2⟩ := id hSd
  obtain ⟨o1, o2, o3, o4, o5⟩ := id hTo
  obtain ⟨p1, p2, p3, p4⟩ := id hPa
  obtain ⟨f0, fd, fu, f1, fv, f2, f3, f4, f5⟩ := id hE.1
  have ho : ∀ s, s < n 10 → r' 2 s = r 4 s := fun s hs => (c10 s hs).1
  have hoD : ∀ s, s < n 10 → isD (r 4 s) := fun s hs => (c10 s hs).2
  have w5 : n' 3 ≤ 5 := by omega
  have s6 : n' 1 ≤ 6 := by omega
  have g30 : n' 0 ≤ 30 := by omega
  have k6 : n' 5 ≤ 6 := by omega
  have t6 : n' 27 ≤ 6 := by omega
  have u16 : n' 22 ≤ 16 := by omega
  have zB : n 14 ≤ 20 := hE.2.2.2.2.2.1
  have nB : n 15 < 20 := hE.2.2.2.2.2.2.1
  have b1 : r' 7 21 = nI (n 14) := hE.2.2.2.2.1
  have d9 : n 13 ≤ 9060 := fd
  have d30 : n 13 < 2 ^ 30 := by omega
  exact pS_of (c_X5_tear l θ ea ad n g b r V) (c_X6_tear l θ ad' n' g' r') (by rw [o1]) (⟨hC, hT, hSd, told_0, hE, hPa, hI⟩)
set_option maxHeartbeats 1000000 in
theorem st_seed {l : Launch} {θ : zH} {ea : Nat → Nat → Nat} {ad ad' : Nat → Nat} {n : Nat → Nat} {g : Nat → Int32} {b : Nat → Bool} {r : Nat → Nat → Int32} {V : Nat → Ev} {n' : Nat → Nat} {g' : Int32} {r' : Nat → Nat → Int32} (h : RR n g b r V n' g' r') (x : Int32) : pS l θ ea ad ad' yX5_seed wsX5_seed 0 yX6_seed wsX6_seed 0 n g b r V n' g' r' [.int x] := by
  obtain ⟨hC, hT, hSd, hTo, hE, hPa, hI⟩ := id h
  obtain ⟨c1, c2, c3, c4, c5, c6, c7, c8, c9, c10, c11⟩ := id hC
  obtain ⟨t1, t2, t3, t4, t5⟩ := id hT
  obtain ⟨s1, s2⟩ := id hSd
  obtain ⟨o1, o2, o3, o4, o5⟩ := id hTo
  obtain ⟨p1, p2, p3, p4⟩ := id hPa
  obtain ⟨f0, fd, fu, f1, fv, f2, f3, f4, f5⟩ := id hE.1
  have ho : ∀ s, s < n 10 → r' 2 s = r 4 s := fun s hs => (c10 s hs).1
  have hoD : ∀ s, s < n 10 → isD (r 4 s) := fun s hs => (c10 s hs).2
  have w5 : n' 3 ≤ 5 := by omega
  have s6 : n' 1 ≤ 6 := by omega
  have g30 : n' 0 ≤ 30 := by omega
  have k6 : n' 5 ≤ 6 := by omega
  have t6 : n' 27 ≤ 6 := by omega
  have u16 : n' 22 ≤ 16 := by omega
  have zB : n 14 ≤ 20 := hE.2.2.2.2.2.1
  have nB : n 15 < 20 := hE.2.2.2.2.2.2.1
  have b1 : r' 7 21 = nI (n 14) := hE.2.2.2.2.1
  have d9 : n 13 ≤ 9060 := fd
  have d30 : n 13 < 2 ^ 30 := by omega
  by_cases hx : 0 ≤ x
  · obtain ⟨v, v_lt, rfl⟩ := nI_of (show ¬ x < 0 by rw [zf_le] at hx; rw [zf_lt]; omega)
    exact pS_of (c_X5_seed_2 l θ ea ad n g b r V v (by omega)) (c_X6_seed_2 l θ ad' n' g' r' v (by omega)) (by rw [s1]) (⟨hC, hT, ⟨rfl, v_lt⟩, hTo, hE, hPa, hI⟩)
  · exact pS_of (c_X5_seed_1 l θ ea ad n g b r V x (by first | exact hx | omega)) (c_X6_seed_1 l θ ad' n' g' r' x (by first | exact hx | omega)) (rfl) (h)
set_option maxHeartbeats 1000000 in
theorem st_keep {l : Launch} {θ : zH} {ea : Nat → Nat → Nat} {ad ad' : Nat → Nat} {n : Nat → Nat} {g : Nat → Int32} {b : Nat → Bool} {r : Nat → Nat → Int32} {V : Nat → Ev} {n' : Nat → Nat} {g' : Int32} {r' : Nat → Nat → Int32} (h : RR n g b r V n' g' r') (x : Int32) : pS l θ ea ad ad' yX5_keep wsX5_keep 2 yX6_keep wsX6_keep 1 n g b r V n' g' r' [.int x] := by
  obtain ⟨hC, hT, hSd, hTo, hE, hPa, hI⟩ := id h
  obtain ⟨c1, c2, c3, c4, c5, c6, c7, c8, c9, c10, c11⟩ := id hC
  obtain ⟨t1, t2, t3, t4, t5⟩ := id hT
  obtain ⟨s1, s2⟩ := id hSd
  obtain ⟨o1, o2, o3, o4, o5⟩ := id hTo
  obtain ⟨p1, p2, p3, p4⟩ := id hPa
  obtain ⟨f0, fd, fu, f1, fv, f2, f3, f4, f5⟩ := id hE.1
  have ho : ∀ s, s < n 10 → r' 2 s = r 4 s := fun s hs => (c10 s hs).1
  have hoD : ∀ s, s < n 10 → isD (r 4 s) := fun s hs => (c10 s hs).2
  have w5 : n' 3 ≤ 5 := by omega
  have s6 : n' 1 ≤ 6 := by omega
  have g30 : n' 0 ≤ 30 := by omega
  have k6 : n' 5 ≤ 6 := by omega
  have t6 : n' 27 ≤ 6 := by omega
  have u16 : n' 22 ≤ 16 := by omega
  have zB : n 14 ≤ 20 := hE.2.2.2.2.2.1
  have nB : n 15 < 20 := hE.2.2.2.2.2.2.1
  have b1 : r' 7 21 = nI (n 14) := hE.2.2.2.2.1
  have d9 : n 13 ≤ 9060 := fd
  have d30 : n 13 < 2 ^ 30 := by omega
  cases hx : okN x 2 with
  | false =>
    exact pS_of (c_X5_keep_1 l θ ea ad n g b r V x hx) (c_X6_keep_1 l θ ad' n' g' r' x hx) (rfl) (h)
  | true =>
    obtain ⟨i, i_lt, rfl⟩ := okN_of hx (by decide)
    exact pS_of (c_X5_keep_2 l θ ea ad n g b r V i (by omega)) (c_X6_keep_2 l θ ad' n' g' r' i (by omega)) (rfl) (⟨hC, hT, hSd, hTo, hE, past_0, img_keep' c4 c6 hI hE i_lt s2 s1⟩)
set_option maxHeartbeats 1000000 in
theorem st_goBack {l : Launch} {θ : zH} {ea : Nat → Nat → Nat} {ad ad' : Nat → Nat} {n : Nat → Nat} {g : Nat → Int32} {b : Nat → Bool} {r : Nat → Nat → Int32} {V : Nat → Ev} {n' : Nat → Nat} {g' : Int32} {r' : Nat → Nat → Int32} (h : RR n g b r V n' g' r') (x : Int32) : pS l θ ea ad ad' yX5_goBack wsX5_goBack 2 yX6_goBack wsX6_goBack 1 n g b r V n' g' r' [.int x] := by
  obtain ⟨hC, hT, hSd, hTo, hE, hPa, hI⟩ := id h
  obtain ⟨c1, c2, c3, c4, c5, c6, c7, c8, c9, c10, c11⟩ := id hC
  obtain ⟨t1, t2, t3, t4, t5⟩ := id hT
  obtain ⟨s1, s2⟩ := id hSd
  obtain ⟨o1, o2, o3, o4, o5⟩ := id hTo
  obtain ⟨p1, p2, p3, p4⟩ := id hPa
  obtain ⟨f0, fd, fu, f1, fv, f2, f3, f4, f5⟩ := id hE.1
  have ho : ∀ s, s < n 10 → r' 2 s = r 4 s := fun s hs => (c10 s hs).1
  have hoD : ∀ s, s < n 10 → isD (r 4 s) := fun s hs => (c10 s hs).2
  have w5 : n' 3 ≤ 5 := by omega
  have s6 : n' 1 ≤ 6 := by omega
  have g30 : n' 0 ≤ 30 := by omega
  have k6 : n' 5 ≤ 6 := by omega
  have t6 : n' 27 ≤ 6 := by omega
  have u16 : n' 22 ≤ 16 := by omega
  have zB : n 14 ≤ 20 := hE.2.2.2.2.2.1
  have nB : n 15 < 20 := hE.2.2.2.2.2.2.1
  have b1 : r' 7 21 = nI (n 14) := hE.2.2.2.2.1
  have d9 : n 13 ≤ 9060 := fd
  have d30 : n 13 < 2 ^ 30 := by omega
  cases hx : okN x 2 with
  | false =>
    exact pS_of (c_X5_goBack_1 l θ ea ad n g b r V x hx) (c_X6_goBack_1 l θ ad' n' g' r' x hx) (rfl) (h)
  | true =>
    obtain ⟨i, i_lt, rfl⟩ := okN_of hx (by decide)
    obtain ⟨i1, i2, i3⟩ := hI i i_lt
    rcases i1 with e | e
    · exact pS_of (c_X5_goBack_2 l θ ea ad n g b r V i (by omega) e) (c_X6_goBack_2 l θ ad' n' g' r' i (by omega) (i2.trans e)) (rfl) (h)
    · obtain ⟨i4, sd, sd_lt, i5, i6⟩ := i3 e
      exact pS_of (c_X5_goBack_3 l θ ea ad n g b r V i sd (by omega) e i5) (c_X6_goBack_3 l θ ad' n' g' r' i sd (by omega) (i2.trans e) i6) (rfl) (⟨hC, hT, ⟨rfl, sd_lt⟩, hTo, img_back c4 c6 hI i_lt e (nowE n g b r), past_0, hI⟩)
