/-! the law's loop -/
theorem inlX0 : ∀ w ∈ wsX00, w ∈ wsL_law := fun _ h => List.mem_append_left _ (List.mem_append_left _ (List.mem_append_left _ (List.mem_append_left _ (List.mem_append_right _ h))))
theorem inlX1 : ∀ w ∈ wsX10, w ∈ wsL_law := fun _ h => List.mem_append_left _ (List.mem_append_left _ (List.mem_append_left _ (List.mem_append_right _ h)))
theorem inlX2 : ∀ w ∈ wsX20, w ∈ wsL_law := fun _ h => List.mem_append_left _ (List.mem_append_left _ (List.mem_append_right _ h))
theorem inlX3 : ∀ w ∈ wsX30, w ∈ wsL_law := fun _ h => List.mem_append_left _ (List.mem_append_right _ h)
theorem inlX4 : ∀ w ∈ wsX40, w ∈ wsL_law := fun _ h => List.mem_append_left _ (List.mem_append_left _ (List.mem_append_left _ (List.mem_append_left _ (List.mem_append_left _ (List.mem_append_right _ h)))))
theorem inlX5 : ∀ w ∈ wsX50, w ∈ wsL_law := fun _ h => List.mem_append_left _ (List.mem_append_left _ (List.mem_append_left _ (List.mem_append_left _ (List.mem_append_left _ (List.mem_append_left _ (List.mem_append_left _ (List.mem_append_right _ h)))))))
theorem inlX6 : ∀ w ∈ wsX60, w ∈ wsL_law := fun _ h => List.mem_append_left _ (List.mem_append_left _ (List.mem_append_left _ (List.mem_append_left _ (List.mem_append_left _ (List.mem_append_left _ (List.mem_append_right _ h))))))
set_option maxHeartbeats 4000000 in
theorem l_sw {κ : zX} {l : Launch} {θ : zH} {ea : Nat → Nat → Nat} {ad ad' : Nat → Nat} {n : Nat → Nat} {g : Nat → Int32} {b : Nat → Bool} {r : Nat → Nat → Int32} {V : Nat → Ev} {n' : Nat → Nat} {g' : Int32} {r' : Nat → Nat → Int32} {sb L i : Nat} {xs : Nat → Int32} (C : yC κ l cL_law 4 RL wsL_law room_1 θ) (hX : yS κ sb L xs) (h : RR n g b r V n' g' r') (hi : i + 4 ≤ L) (hL : L ≤ 256) (ih : lB κ θ ea ad ad' 1198 [(3, .int (nI i)), (2, .ref (ad' 0)), (1, .ref (ad 0)), (0, .ref sb)]) (k : Nat) (hk : k < 64) : yJ κ (MW θ ad' n' g' r' ++ CW θ ea ad n g b r V) 172 4010 32 [(3, .int (nI i)), (2, .ref (ad' 0)), (1, .ref (ad 0)), (0, .ref sb)] [.int (nI k)] := by
  by_cases h36 : k < 36
  · rcases (show k = 0 ∨ k = 1 ∨ k = 2 ∨ k = 3 ∨ k = 4 ∨ k = 5 ∨ k = 6 ∨ k = 7 ∨ k = 8 ∨ k = 9 ∨ k = 10 ∨ k = 11 ∨ k = 12 ∨ k = 13 ∨ k = 14 ∨ k = 15 ∨ k = 16 ∨ k = 17 ∨ k = 18 ∨ k = 19 ∨ k = 20 ∨ k = 21 ∨ k = 22 ∨ k = 23 ∨ k = 24 ∨ k = 25 ∨ k = 26 ∨ k = 27 ∨ k = 28 ∨ k = 29 ∨ k = 30 ∨ k = 31 ∨ k = 32 ∨ k = 33 ∨ k = 34 ∨ k = 35 by omega) with rfl | rfl | rfl | rfl | rfl | rfl | rfl | rfl | rfl | rfl | rfl | rfl | rfl | rfl | rfl | rfl | rfl | rfl | rfl | rfl | rfl | rfl | rfl | rfl | rfl | rfl | rfl | rfl | rfl | rfl | rfl | rfl | rfl | rfl | rfl | rfl
    · exact y_tableIn C 192 dL_law_32 (by decide) (by decide) (show _ = some (160 : Int) from rfl) (by decide) (lc_feed C hX h hi hL ih)
    · exact y_tableIn C 215 dL_law_32 (by decide) (by decide) (show _ = some (183 : Int) from rfl) (by decide) (lc_capital C hX h hi hL ih)
    · exact y_tableIn C 228 dL_law_32 (by decide) (by decide) (show _ = some (196 : Int) from rfl) (by decide) (lc_fault C hX h hi hL ih)
    · exact y_tableIn C 241 dL_law_32 (by decide) (by decide) (show _ = some (209 : Int) from rfl) (by decide) (lc_told C hX h hi hL ih)
    · exact y_tableIn C 264 dL_law_32 (by decide) (by decide) (show _ = some (232 : Int) from rfl) (by decide) (lc_sitter C hX h hi hL ih)
    · exact y_tableIn C 297 dL_law_32 (by decide) (by decide) (show _ = some (265 : Int) from rfl) (by decide) (lc_window C hX h hi hL ih)
    · exact y_tableIn C 330 dL_law_32 (by decide) (by decide) (show _ = some (298 : Int) from rfl) (by decide) (lc_album C hX h hi hL ih)
    · exact y_tableIn C 363 dL_law_32 (by decide) (by decide) (show _ = some (331 : Int) from rfl) (by decide) (lc_glass C hX h hi hL ih)
    · exact y_tableIn C 386 dL_law_32 (by decide) (by decide) (show _ = some (354 : Int) from rfl) (by decide) (lc_stand C hX h hi hL ih)
    · exact y_tableIn C 419 dL_law_32 (by decide) (by decide) (show _ = some (387 : Int) from rfl) (by decide) (lc_go C hX h hi hL ih)
    · exact y_tableIn C 442 dL_law_32 (by decide) (by decide) (show _ = some (410 : Int) from rfl) (by decide) (lc_lamp C hX h hi hL ih)
    · exact y_tableIn C 475 dL_law_32 (by decide) (by decide) (show _ = some (443 : Int) from rfl) (by decide) (lc_wind C hX h hi hL ih)
    · exact y_tableIn C 498 dL_law_32 (by decide) (by decide) (show _ = some (466 : Int) from rfl) (by decide) (lc_bats C hX h hi hL ih)
    · exact y_tableIn C 521 dL_law_32 (by decide) (by decide) (show _ = some (489 : Int) from rfl) (by decide) (lc_eye C hX h hi hL ih)
    · exact y_tableIn C 544 dL_law_32 (by decide) (by decide) (show _ = some (512 : Int) from rfl) (by decide) (lc_rain C hX h hi hL ih)
    · exact y_tableIn C 583 dL_law_32 (by decide) (by decide) (show _ = some (551 : Int) from rfl) (by decide) (lc_smoke C hX h hi hL ih)
    · exact y_tableIn C 632 dL_law_32 (by decide) (by decide) (show _ = some (600 : Int) from rfl) (by decide) (lc_press C hX h hi hL ih)
    · exact y_tableIn C 665 dL_law_32 (by decide) (by decide) (show _ = some (633 : Int) from rfl) (by decide) (lc_dusk C hX h hi hL ih)
    · exact y_tableIn C 688 dL_law_32 (by decide) (by decide) (show _ = some (656 : Int) from rfl) (by decide) (lc_drift C hX h hi hL ih)
    · exact y_tableIn C 711 dL_law_32 (by decide) (by decide) (show _ = some (679 : Int) from rfl) (by decide) (lc_undo C hX h hi hL ih)
    · exact y_tableIn C 724 dL_law_32 (by decide) (by decide) (show _ = some (692 : Int) from rfl) (by decide) (lc_like C hX h hi hL ih)
    · exact y_tableIn C 757 dL_law_32 (by decide) (by decide) (show _ = some (725 : Int) from rfl) (by decide) (lc_seenAs C hX h hi hL ih)
    · exact y_tableIn C 780 dL_law_32 (by decide) (by decide) (show _ = some (748 : Int) from rfl) (by decide) (lc_bestLamp C hX h hi hL ih)
    · exact y_tableIn C 823 dL_law_32 (by decide) (by decide) (show _ = some (791 : Int) from rfl) (by decide) (lc_who C hX h hi hL ih)
    · exact y_tableIn C 856 dL_law_32 (by decide) (by decide) (show _ = some (824 : Int) from rfl) (by decide) (lc_parted C hX h hi hL ih)
    · exact y_tableIn C 889 dL_law_32 (by decide) (by decide) (show _ = some (857 : Int) from rfl) (by decide) (lc_places C hX h hi hL ih)
    · exact y_tableIn C 912 dL_law_32 (by decide) (by decide) (show _ = some (880 : Int) from rfl) (by decide) (lc_apart C hX h hi hL ih)
    · exact y_tableIn C 955 dL_law_32 (by decide) (by decide) (show _ = some (923 : Int) from rfl) (by decide) (lc_turned C hX h hi hL ih)
    · exact y_tableIn C 988 dL_law_32 (by decide) (by decide) (show _ = some (956 : Int) from rfl) (by decide) (lc_votes C hX h hi hL ih)
    · exact y_tableIn C 1021 dL_law_32 (by decide) (by decide) (show _ = some (989 : Int) from rfl) (by decide) (lc_clear C hX h hi hL ih)
    · exact y_tableIn C 1054 dL_law_32 (by decide) (by decide) (show _ = some (1022 : Int) from rfl) (by decide) (lc_tellOf C hX h hi hL ih)
    · exact y_tableIn C 1103 dL_law_32 (by decide) (by decide) (show _ = some (1071 : Int) from rfl) (by decide) (lc_ask C hX h hi hL ih)
    · exact y_tableIn C 1116 dL_law_32 (by decide) (by decide) (show _ = some (1084 : Int) from rfl) (by decide) (lc_tear C hX h hi hL ih)
    · exact y_tableIn C 1129 dL_law_32 (by decide) (by decide) (show _ = some (1097 : Int) from rfl) (by decide) (lc_seed C hX h hi hL ih)
    · exact y_tableIn C 1152 dL_law_32 (by decide) (by decide) (show _ = some (1120 : Int) from rfl) (by decide) (lc_keep C hX h hi hL ih)
    · exact y_tableIn C 1175 dL_law_32 (by decide) (by decide) (show _ = some (1143 : Int) from rfl) (by decide) (lc_goBack C hX h hi hL ih)
  · refine y_tableOut C 1198 dL_law_32 (Or.inr ?_) (by decide) (ih _ _ _ _ _ _ _ _ h)
    rw [nI_toInt (by omega)]
    omega
set_option maxHeartbeats 4000000 in
theorem l_loop {κ : zX} {l : Launch} {θ : zH} {ea : Nat → Nat → Nat} {ad ad' : Nat → Nat} {sb L : Nat} {xs : Nat → Int32} (C : yC κ l cL_law 4 RL wsL_law room_1 θ) (hX : yS κ sb L xs) (hL : L ≤ 256) (E : ∀ (X : va_W) (lv : List (Nat × Value)), yJ κ X 172 4010 1204 lv []) : ∀ (d i : Nat), i ≤ 256 → L ≤ i + d → lB κ θ ea ad ad' 18 [(3, .int (nI i)), (2, .ref (ad' 0)), (1, .ref (ad 0)), (0, .ref sb)] := by
  intro d
  induction d with
  | zero =>
    intro i hi hd n g b r V n' g' r' h
    refine y_iload_n C dL_law_18 rfl (show zlk _ 3 = some (.int (nI i)) from rfl) ?_
    refine y_aload_n C dL_law_19 rfl (show zlk _ 0 = some (.ref sb) from rfl) ?_
    refine y_slen C hX dL_law_20 ?_
    refine y_iconst C (v := nI 4) dL_law_21 (by decide) ?_
    refine y_isub C dL_law_22 ?_
    refine y_icmp_gt C 1204 dL_law_23 (by decide) (fun _ => E _ _) (fun c => absurd ?_ c)
    rw [zf_lt, pk_sub_toInt (by omega) (by decide), nI_toInt (by omega)]
    omega
  | succ d ih0 =>
    intro i hi hd n g b r V n' g' r' h
    refine y_iload_n C dL_law_18 rfl (show zlk _ 3 = some (.int (nI i)) from rfl) ?_
    refine y_aload_n C dL_law_19 rfl (show zlk _ 0 = some (.ref sb) from rfl) ?_
    refine y_slen C hX dL_law_20 ?_
    refine y_iconst C (v := nI 4) dL_law_21 (by decide) ?_
    refine y_isub C dL_law_22 ?_
    refine y_icmp_gt C 1204 dL_law_23 (by decide) (fun _ => E _ _) (fun c => ?_)
    have hi4 : i + 4 ≤ L := by
      rw [zf_lt, pk_sub_toInt (by omega) (by decide), nI_toInt (by omega)] at c
      omega
    refine y_aload_n C dL_law_26 rfl (show zlk _ 0 = some (.ref sb) from rfl) ?_
    refine y_iload_n C dL_law_27 rfl (show zlk _ 3 = some (.int (nI i)) from rfl) ?_
    refine y_sld C hX i rfl (by omega) (by omega) dL_law_28 ?_
    refine y_bipush C (v := nI 63) dL_law_29 (by decide) ?_
    refine y_iand C dL_law_31 ?_
    obtain ⟨k, hk, ek⟩ := pk_andE (xs i) (m := nI 63) 6 (by decide)
    rw [ek]
    refine l_sw C hX h hi4 hL (fun n1 g1 b1 r1 V1 n1' g1' r1' h1 => ?_) k hk
    have hv : nI i + Int32.ofInt 4 = nI (i + 4) := nI_add i 4
    refine y_iinc C (v := nI (i + 4)) [(3, .int (nI (i + 4))), (2, .ref (ad' 0)), (1, .ref (ad 0)), (0, .ref sb)] dL_law_1198 rfl hv (by decide) rfl ?_
    refine y_goto C 18 dL_law_1201 (by decide) ?_
    exact ih0 (i + 4) (by omega) (by omega) n1 g1 b1 r1 V1 n1' g1' r1' h1
/-- both, as they are made, are alike -/
theorem RR_0 {n : Nat → Nat} {g : Nat → Int32} {b : Nat → Bool} {r : Nat → Nat → Int32} {V : Nat → Ev} {r' : Nat → Nat → Int32} (h : cw0 n g b r) (h9 : r' 9 = (fun _ => 0)) (h7 : r' 7 = m_emp (fun _ => 0)) (h32 : r' 32 = (fun _ => 0)) : RR n g b r V (fun _ => 0) (-1) r' := by
  obtain ⟨e0, e1, e2, e9, e10, e11, e12, e16, e17, f0, f1, f2, eb, r0, r18, hE⟩ := h
  refine ⟨?_, ?_, ?_, ?_, ?_, ?_, ?_⟩
  · rw [e9, e10, e11, e12, eb]
    exact ⟨rfl, by decide, rfl, by decide, rfl, by decide, rfl, by decide, rfl, fun s hs => absurd hs (Nat.not_lt_zero _), fun s hs => absurd hs (Nat.not_lt_zero _)⟩
  · rw [e2, f2, r0, h9]
    exact ⟨rfl, by decide, rfl, fun q hq => absurd hq (Nat.not_lt_zero _), rfl⟩
  · rw [e0]
    exact ⟨rfl, by decide⟩
  · rw [e1, f0, f1]
    exact told_0
  · rw [e10, e11, h7]
    obtain ⟨q1, q2, q3⟩ := hE
    have hn : nowE n g b r = ((nI 0, nI 0, nI 0, false, nI 0, 0, 0, 0), ((nowE n g b r).2.1, (nowE n g b r).2.2.1, (nowE n g b r).2.2.2.1, (nowE n g b r).2.2.2.2.1, (nowE n g b r).2.2.2.2.2.1, (nowE n g b r).2.2.2.2.2.2)) := by
      rw [← q1]
    rw [hn]
    exact begin_eq (S := 0) (W := 0) (by decide) (by decide) (l := fun _ => 0) (l' := fun _ => 0) (f := fun _ => 0) (fun w hw => absurd hw (Nat.not_lt_zero _)) q2 q3
  · rw [e16, e17]
    exact past_0
  · intro i hi
    rw [r18, h32]
    exact ⟨Or.inl rfl, rfl, fun z => absurd (show (0 : Int32) = nI 1 from z) (by decide)⟩
