section LC
variable {κ : zX} {l : Launch} {θ : zH} {ea : Nat → Nat → Nat} {ad ad' : Nat → Nat} {n : Nat → Nat} {g : Nat → Int32} {b : Nat → Bool} {r : Nat → Nat → Int32} {V : Nat → Ev} {n' : Nat → Nat} {g' : Int32} {r' : Nat → Nat → Int32} {sb L i : Nat} {xs : Nat → Int32}
set_option maxHeartbeats 2000000 in
theorem lc_drift (C : yC κ l cL_law 4 RL wsL_law room_1 θ) (hX : yS κ sb L xs) (h : RR n g b r V n' g' r') (hi : i + 4 ≤ L) (hL : L ≤ 256) (ih : lB κ θ ea ad ad' 1198 [(3, .int (nI i)), (2, .ref (ad' 0)), (1, .ref (ad 0)), (0, .ref sb)]) : yJ κ (MW θ ad' n' g' r' ++ CW θ ea ad n g b r V) 172 4010 688 [(3, .int (nI i)), (2, .ref (ad' 0)), (1, .ref (ad 0)), (0, .ref sb)] [] := by
  obtain ⟨P, P', h1, h2, h3⟩ := st_drift (l := l) (θ := θ) (ea := ea) (ad := ad) (ad' := ad') h (xs (i + 1))
  refine y_aload_n C dL_law_688 rfl (show zlk _ 1 = some (.ref (ad 0)) from rfl) ?_
  refine y_aload_n C dL_law_689 rfl (show zlk _ 0 = some (.ref (sb)) from rfl) ?_
  refine y_iload_n C dL_law_690 rfl (show zlk _ 3 = some (.int (nI i)) from rfl) ?_
  refine y_iconst C (v := nI 1) dL_law_691 (by decide) ?_
  refine y_iadd C dL_law_692 ?_
  refine y_sld C hX (i + 1) (nI_add i 1) (by omega) (by omega) dL_law_693 ?_
  refine y_callVi C (As := [.int (xs (i + 1))]) (rest := []) h1 gL_law_X5_drift rfl 1 (by decide +kernel) ⟨Nat.le_of_ble_eq_true rfl, Nat.le_of_ble_eq_true rfl⟩ ⟨Nat.le_of_ble_eq_true rfl, Nat.le_of_ble_eq_true rfl⟩ 0 cc_0 rfl rfl rfl rfl (Nat.le_of_ble_eq_true rfl) dL_law_694 (fun x Y hY => ?_)
  refine y_aload_n C dL_law_697 rfl (show zlk _ 2 = some (.ref (ad' 0)) from rfl) ?_
  refine y_aload_n C dL_law_698 rfl (show zlk _ 0 = some (.ref (sb)) from rfl) ?_
  refine y_iload_n C dL_law_699 rfl (show zlk _ 3 = some (.int (nI i)) from rfl) ?_
  refine y_iconst C (v := nI 1) dL_law_700 (by decide) ?_
  refine y_iadd C dL_law_701 ?_
  refine y_sld C hX (i + 1) (nI_add i 1) (by omega) (by omega) dL_law_702 ?_
  refine y_perm List.perm_append_comm ?_
  refine y_callVi C (As := [.int (xs (i + 1))]) (rest := [.int x]) h2 gL_law_X6_drift rfl 1 (by decide +kernel) ⟨Nat.le_of_ble_eq_true rfl, Nat.le_of_ble_eq_true rfl⟩ ⟨Nat.le_of_ble_eq_true rfl, Nat.le_of_ble_eq_true rfl⟩ 0 (show (MW θ ad' n' g' r')[0]? = some (ad' 0, .inr (6, mfs ad' n' g')) from rfl) rfl rfl rfl rfl (Nat.le_of_ble_eq_true rfl) dL_law_703 (fun x' Y' hY' => ?_)
  obtain ⟨rfl, n1, g1, b1, r1, V1, n1', g1', r1', rfl, rfl, hR⟩ := h3 x Y x' Y' hY hY'
  refine y_perm List.perm_append_comm ?_
  refine y_icmp_eq C 1198 dL_law_706 (by decide) (fun _ => ?_) (fun c => absurd rfl c)
  exact ih _ _ _ _ _ _ _ _ hR
set_option maxHeartbeats 2000000 in
theorem lc_undo (C : yC κ l cL_law 4 RL wsL_law room_1 θ) (hX : yS κ sb L xs) (h : RR n g b r V n' g' r') (hi : i + 4 ≤ L) (hL : L ≤ 256) (ih : lB κ θ ea ad ad' 1198 [(3, .int (nI i)), (2, .ref (ad' 0)), (1, .ref (ad 0)), (0, .ref sb)]) : yJ κ (MW θ ad' n' g' r' ++ CW θ ea ad n g b r V) 172 4010 711 [(3, .int (nI i)), (2, .ref (ad' 0)), (1, .ref (ad 0)), (0, .ref sb)] [] := by
  obtain ⟨P, P', h1, h2, h3⟩ := st_undo (l := l) (θ := θ) (ea := ea) (ad := ad) (ad' := ad') h 
  refine y_aload_n C dL_law_711 rfl (show zlk _ 1 = some (.ref (ad 0)) from rfl) ?_
  refine y_callVi C (As := []) (rest := []) h1 gL_law_X5_undo rfl 0 (by decide +kernel) ⟨Nat.le_of_ble_eq_true rfl, Nat.le_of_ble_eq_true rfl⟩ ⟨Nat.le_of_ble_eq_true rfl, Nat.le_of_ble_eq_true rfl⟩ 0 cc_0 rfl rfl rfl rfl (Nat.le_of_ble_eq_true rfl) dL_law_712 (fun x Y hY => ?_)
  refine y_aload_n C dL_law_715 rfl (show zlk _ 2 = some (.ref (ad' 0)) from rfl) ?_
  refine y_perm List.perm_append_comm ?_
  refine y_callVi C (As := []) (rest := [.int x]) h2 gL_law_X6_undo rfl 0 (by decide +kernel) ⟨Nat.le_of_ble_eq_true rfl, Nat.le_of_ble_eq_true rfl⟩ ⟨Nat.le_of_ble_eq_true rfl, Nat.le_of_ble_eq_true rfl⟩ 0 (show (MW θ ad' n' g' r')[0]? = some (ad' 0, .inr (6, mfs ad' n' g')) from rfl) rfl rfl rfl rfl (Nat.le_of_ble_eq_true rfl) dL_law_716 (fun x' Y' hY' => ?_)
  obtain ⟨rfl, n1, g1, b1, r1, V1, n1', g1', r1', rfl, rfl, hR⟩ := h3 x Y x' Y' hY hY'
  refine y_perm List.perm_append_comm ?_
  refine y_icmp_eq C 1198 dL_law_719 (by decide) (fun _ => ?_) (fun c => absurd rfl c)
  exact ih _ _ _ _ _ _ _ _ hR
set_option maxHeartbeats 2000000 in
theorem lc_like (C : yC κ l cL_law 4 RL wsL_law room_1 θ) (hX : yS κ sb L xs) (h : RR n g b r V n' g' r') (hi : i + 4 ≤ L) (hL : L ≤ 256) (ih : lB κ θ ea ad ad' 1198 [(3, .int (nI i)), (2, .ref (ad' 0)), (1, .ref (ad 0)), (0, .ref sb)]) : yJ κ (MW θ ad' n' g' r' ++ CW θ ea ad n g b r V) 172 4010 724 [(3, .int (nI i)), (2, .ref (ad' 0)), (1, .ref (ad 0)), (0, .ref sb)] [] := by
  obtain ⟨P, P', h1, h2, h3⟩ := st_like (l := l) (θ := θ) (ea := ea) (ad := ad) (ad' := ad') h (xs (i + 1)) (xs (i + 2))
  refine y_aload_n C dL_law_724 rfl (show zlk _ 1 = some (.ref (ad 0)) from rfl) ?_
  refine y_aload_n C dL_law_725 rfl (show zlk _ 0 = some (.ref (sb)) from rfl) ?_
  refine y_iload_n C dL_law_726 rfl (show zlk _ 3 = some (.int (nI i)) from rfl) ?_
  refine y_iconst C (v := nI 1) dL_law_727 (by decide) ?_
  refine y_iadd C dL_law_728 ?_
  refine y_sld C hX (i + 1) (nI_add i 1) (by omega) (by omega) dL_law_729 ?_
  refine y_aload_n C dL_law_730 rfl (show zlk _ 0 = some (.ref (sb)) from rfl) ?_
  refine y_iload_n C dL_law_731 rfl (show zlk _ 3 = some (.int (nI i)) from rfl) ?_
  refine y_iconst C (v := nI 2) dL_law_732 (by decide) ?_
  refine y_iadd C dL_law_733 ?_
  refine y_sld C hX (i + 2) (nI_add i 2) (by omega) (by omega) dL_law_734 ?_
  refine y_callVi C (As := [.int (xs (i + 1)), .int (xs (i + 2))]) (rest := []) h1 gL_law_X5_like rfl 2 (by decide +kernel) ⟨Nat.le_of_ble_eq_true rfl, Nat.le_of_ble_eq_true rfl⟩ ⟨Nat.le_of_ble_eq_true rfl, Nat.le_of_ble_eq_true rfl⟩ 0 cc_0 rfl rfl rfl rfl (Nat.le_of_ble_eq_true rfl) dL_law_735 (fun x Y hY => ?_)
  refine y_aload_n C dL_law_738 rfl (show zlk _ 2 = some (.ref (ad' 0)) from rfl) ?_
  refine y_aload_n C dL_law_739 rfl (show zlk _ 0 = some (.ref (sb)) from rfl) ?_
  refine y_iload_n C dL_law_740 rfl (show zlk _ 3 = some (.int (nI i)) from rfl) ?_
  refine y_iconst C (v := nI 1) dL_law_741 (by decide) ?_
  refine y_iadd C dL_law_742 ?_
  refine y_sld C hX (i + 1) (nI_add i 1) (by omega) (by omega) dL_law_743 ?_
  refine y_aload_n C dL_law_744 rfl (show zlk _ 0 = some (.ref (sb)) from rfl) ?_
  refine y_iload_n C dL_law_745 rfl (show zlk _ 3 = some (.int (nI i)) from rfl) ?_
  refine y_iconst C (v := nI 2) dL_law_746 (by decide) ?_
  refine y_iadd C dL_law_747 ?_
  refine y_sld C hX (i + 2) (nI_add i 2) (by omega) (by omega) dL_law_748 ?_
  refine y_perm List.perm_append_comm ?_
  refine y_callVi C (As := [.int (xs (i + 1)), .int (xs (i + 2))]) (rest := [.int x]) h2 gL_law_X6_like rfl 2 (by decide +kernel) ⟨Nat.le_of_ble_eq_true rfl, Nat.le_of_ble_eq_true rfl⟩ ⟨Nat.le_of_ble_eq_true rfl, Nat.le_of_ble_eq_true rfl⟩ 0 (show (MW θ ad' n' g' r')[0]? = some (ad' 0, .inr (6, mfs ad' n' g')) from rfl) rfl rfl rfl rfl (Nat.le_of_ble_eq_true rfl) dL_law_749 (fun x' Y' hY' => ?_)
  obtain ⟨rfl, n1, g1, b1, r1, V1, n1', g1', r1', rfl, rfl, hR⟩ := h3 x Y x' Y' hY hY'
  refine y_perm List.perm_append_comm ?_
  refine y_icmp_eq C 1198 dL_law_752 (by decide) (fun _ => ?_) (fun c => absurd rfl c)
  exact ih _ _ _ _ _ _ _ _ hR
set_option maxHeartbeats 2000000 in
theorem lc_seenAs (C : yC κ l cL_law 4 RL wsL_law room_1 θ) (hX : yS κ sb L xs) (h : RR n g b r V n' g' r') (hi : i + 4 ≤ L) (hL : L ≤ 256) (ih : lB κ θ ea ad ad' 1198 [(3, .int (nI i)), (2, .ref (ad' 0)), (1, .ref (ad 0)), (0, .ref sb)]) : yJ κ (MW θ ad' n' g' r' ++ CW θ ea ad n g b r V) 172 4010 757 [(3, .int (nI i)), (2, .ref (ad' 0)), (1, .ref (ad 0)), (0, .ref sb)] [] := by
  obtain ⟨P, P', h1, h2, h3⟩ := st_seenAs (l := l) (θ := θ) (ea := ea) (ad := ad) (ad' := ad') h (xs (i + 1))
  refine y_aload_n C dL_law_757 rfl (show zlk _ 1 = some (.ref (ad 0)) from rfl) ?_
  refine y_aload_n C dL_law_758 rfl (show zlk _ 0 = some (.ref (sb)) from rfl) ?_
  refine y_iload_n C dL_law_759 rfl (show zlk _ 3 = some (.int (nI i)) from rfl) ?_
  refine y_iconst C (v := nI 1) dL_law_760 (by decide) ?_
  refine y_iadd C dL_law_761 ?_
  refine y_sld C hX (i + 1) (nI_add i 1) (by omega) (by omega) dL_law_762 ?_
  refine y_callVi C (As := [.int (xs (i + 1))]) (rest := []) h1 gL_law_X5_seenAs rfl 1 (by decide +kernel) ⟨Nat.le_of_ble_eq_true rfl, Nat.le_of_ble_eq_true rfl⟩ ⟨Nat.le_of_ble_eq_true rfl, Nat.le_of_ble_eq_true rfl⟩ 0 cc_0 rfl rfl rfl rfl (Nat.le_of_ble_eq_true rfl) dL_law_763 (fun x Y hY => ?_)
  refine y_aload_n C dL_law_766 rfl (show zlk _ 2 = some (.ref (ad' 0)) from rfl) ?_
  refine y_aload_n C dL_law_767 rfl (show zlk _ 0 = some (.ref (sb)) from rfl) ?_
  refine y_iload_n C dL_law_768 rfl (show zlk _ 3 = some (.int (nI i)) from rfl) ?_
  refine y_iconst C (v := nI 1) dL_law_769 (by decide) ?_
  refine y_iadd C dL_law_770 ?_
  refine y_sld C hX (i + 1) (nI_add i 1) (by omega) (by omega) dL_law_771 ?_
  refine y_perm List.perm_append_comm ?_
  refine y_callVi C (As := [.int (xs (i + 1))]) (rest := [.int x]) h2 gL_law_X6_seenAs rfl 1 (by decide +kernel) ⟨Nat.le_of_ble_eq_true rfl, Nat.le_of_ble_eq_true rfl⟩ ⟨Nat.le_of_ble_eq_true rfl, Nat.le_of_ble_eq_true rfl⟩ 0 (show (MW θ ad' n' g' r')[0]? = some (ad' 0, .inr (6, mfs ad' n' g')) from rfl) rfl rfl rfl rfl (Nat.le_of_ble_eq_true rfl) dL_law_772 (fun x' Y' hY' => ?_)
  obtain ⟨rfl, n1, g1, b1, r1, V1, n1', g1', r1', rfl, rfl, hR⟩ := h3 x Y x' Y' hY hY'
  refine y_perm List.perm_append_comm ?_
  refine y_icmp_eq C 1198 dL_law_775 (by decide) (fun _ => ?_) (fun c => absurd rfl c)
  exact ih _ _ _ _ _ _ _ _ hR
set_option maxHeartbeats 2000000 in
theorem lc_bestLamp (C : yC κ l cL_law 4 RL wsL_law room_1 θ) (hX : yS κ sb L xs) (h : RR n g b r V n' g' r') (hi : i + 4 ≤ L) (hL : L ≤ 256) (ih : lB κ θ ea ad ad' 1198 [(3, .int (nI i)), (2, .ref (ad' 0)), (1, .ref (ad 0)), (0, .ref sb)]) : yJ κ (MW θ ad' n' g' r' ++ CW θ ea ad n g b r V) 172 4010 780 [(3, .int (nI i)), (2, .ref (ad' 0)), (1, .ref (ad 0)), (0, .ref sb)] [] := by
  obtain ⟨P, P', h1, h2, h3⟩ := st_bestLamp (l := l) (θ := θ) (ea := ea) (ad := ad) (ad' := ad') h (xs (i + 1)) (xs (i + 2)) (xs (i + 3))
  refine y_aload_n C dL_law_780 rfl (show zlk _ 1 = some (.ref (ad 0)) from rfl) ?_
  refine y_aload_n C dL_law_781 rfl (show zlk _ 0 = some (.ref (sb)) from rfl) ?_
  refine y_iload_n C dL_law_782 rfl (show zlk _ 3 = some (.int (nI i)) from rfl) ?_
  refine y_iconst C (v := nI 1) dL_law_783 (by decide) ?_
  refine y_iadd C dL_law_784 ?_
  refine y_sld C hX (i + 1) (nI_add i 1) (by omega) (by omega) dL_law_785 ?_
  refine y_aload_n C dL_law_786 rfl (show zlk _ 0 = some (.ref (sb)) from rfl) ?_
  refine y_iload_n C dL_law_787 rfl (show zlk _ 3 = some (.int (nI i)) from rfl) ?_
  refine y_iconst C (v := nI 2) dL_law_788 (by decide) ?_
  refine y_iadd C dL_law_789 ?_
  refine y_sld C hX (i + 2) (nI_add i 2) (by omega) (by omega) dL_law_790 ?_
  refine y_aload_n C dL_law_791 rfl (show zlk _ 0 = some (.ref (sb)) from rfl) ?_
  refine y_iload_n C dL_law_792 rfl (show zlk _ 3 = some (.int (nI i)) from rfl) ?_
  refine y_iconst C (v := nI 3) dL_law_793 (by decide) ?_
  refine y_iadd C dL_law_794 ?_
  refine y_sld C hX (i + 3) (nI_add i 3) (by omega) (by omega) dL_law_795 ?_
  refine y_callVi C (As := [.int (xs (i + 1)), .int (xs (i + 2)), .int (xs (i + 3))]) (rest := []) h1 gL_law_X5_bestLamp rfl 3 (by decide +kernel) ⟨Nat.le_of_ble_eq_true rfl, Nat.le_of_ble_eq_true rfl⟩ ⟨Nat.le_of_ble_eq_true rfl, Nat.le_of_ble_eq_true rfl⟩ 0 cc_0 rfl rfl rfl rfl (Nat.le_of_ble_eq_true rfl) dL_law_796 (fun x Y hY => ?_)
  refine y_aload_n C dL_law_799 rfl (show zlk _ 2 = some (.ref (ad' 0)) from rfl) ?_
  refine y_aload_n C dL_law_800 rfl (show zlk _ 0 = some (.ref (sb)) from rfl) ?_
  refine y_iload_n C dL_law_801 rfl (show zlk _ 3 = some (.int (nI i)) from rfl) ?_
  refine y_iconst C (v := nI 1) dL_law_802 (by decide) ?_
  refine y_iadd C dL_law_803 ?_
  refine y_sld C hX (i + 1) (nI_add i 1) (by omega) (by omega) dL_law_804 ?_
  refine y_aload_n C dL_law_805 rfl (show zlk _ 0 = some (.ref (sb)) from rfl) ?_
  refine y_iload_n C dL_law_806 rfl (show zlk _ 3 = some (.int (nI i)) from rfl) ?_
  refine y_iconst C (v := nI 2) dL_law_807 (by decide) ?_
  refine y_iadd C dL_law_808 ?_
  refine y_sld C hX (i + 2) (nI_add i 2) (by omega) (by omega) dL_law_809 ?_
  refine y_aload_n C dL_law_810 rfl (show zlk _ 0 = some (.ref (sb)) from rfl) ?_
  refine y_iload_n C dL_law_811 rfl (show zlk _ 3 = some (.int (nI i)) from rfl) ?_
  refine y_iconst C (v := nI 3) dL_law_812 (by decide) ?_
  refine y_iadd C dL_law_813 ?_
  refine y_sld C hX (i + 3) (nI_add i 3) (by omega) (by omega) dL_law_814 ?_
  refine y_perm List.perm_append_comm ?_
  refine y_callVi C (As := [.int (xs (i + 1)), .int (xs (i + 2)), .int (xs (i + 3))]) (rest := [.int x]) h2 gL_law_X6_bestLamp rfl 3 (by decide +kernel) ⟨Nat.le_of_ble_eq_true rfl, Nat.le_of_ble_eq_true rfl⟩ ⟨Nat.le_of_ble_eq_true rfl, Nat.le_of_ble_eq_true rfl⟩ 0 (show (MW θ ad' n' g' r')[0]? = some (ad' 0, .inr (6, mfs ad' n' g')) from rfl) rfl rfl rfl rfl (Nat.le_of_ble_eq_true rfl) dL_law_815 (fun x' Y' hY' => ?_)
  obtain ⟨rfl, n1, g1, b1, r1, V1, n1', g1', r1', rfl, rfl, hR⟩ := h3 x Y x' Y' hY hY'
  refine y_perm List.perm_append_comm ?_
  refine y_icmp_eq C 1198 dL_law_818 (by decide) (fun _ => ?_) (fun c => absurd rfl c)
  exact ih _ _ _ _ _ _ _ _ hR
set_option maxHeartbeats 2000000 in
theorem lc_who (C : yC κ l cL_law 4 RL wsL_law room_1 θ) (hX : yS κ sb L xs) (h : RR n g b r V n' g' r') (hi : i + 4 ≤ L) (hL : L ≤ 256) (ih : lB κ θ ea ad ad' 1198 [(3, .int (nI i)), (2, .ref (ad' 0)), (1, .ref (ad 0)), (0, .ref sb)]) : yJ κ (MW θ ad' n' g' r' ++ CW θ ea ad n g b r V) 172 4010 823 [(3, .int (nI i)), (2, .ref (ad' 0)), (1, .ref (ad 0)), (0, .ref sb)] [] := by
  obtain ⟨P, P', h1, h2, h3⟩ := st_who (l := l) (θ := θ) (ea := ea) (ad := ad) (ad' := ad') h (xs (i + 1)) (xs (i + 2))
  refine y_aload_n C dL_law_823 rfl (show zlk _ 1 = some (.ref (ad 0)) from rfl) ?_
  refine y_aload_n C dL_law_824 rfl (show zlk _ 0 = some (.ref (sb)) from rfl) ?_
  refine y_iload_n C dL_law_825 rfl (show zlk _ 3 = some (.int (nI i)) from rfl) ?_
  refine y_iconst C (v := nI 1) dL_law_826 (by decide) ?_
  refine y_iadd C dL_law_827 ?_
  refine y_sld C hX (i + 1) (nI_add i 1) (by omega) (by omega) dL_law_828 ?_
  refine y_aload_n C dL_law_829 rfl (show zlk _ 0 = some (.ref (sb)) from rfl) ?_
  refine y_iload_n C dL_law_830 rfl (show zlk _ 3 = some (.int (nI i)) from rfl) ?_
  refine y_iconst C (v := nI 2) dL_law_831 (by decide) ?_
  refine y_iadd C dL_law_832 ?_
  refine y_sld C hX (i + 2) (nI_add i 2) (by omega) (by omega) dL_law_833 ?_
  refine y_callVi C (As := [.int (xs (i + 1)), .int (xs (i + 2))]) (rest := []) h1 gL_law_X5_who rfl 2 (by decide +kernel) ⟨Nat.le_of_ble_eq_true rfl, Nat.le_of_ble_eq_true rfl⟩ ⟨Nat.le_of_ble_eq_true rfl, Nat.le_of_ble_eq_true rfl⟩ 0 cc_0 rfl rfl rfl rfl (Nat.le_of_ble_eq_true rfl) dL_law_834 (fun x Y hY => ?_)
  refine y_aload_n C dL_law_837 rfl (show zlk _ 2 = some (.ref (ad' 0)) from rfl) ?_
  refine y_aload_n C dL_law_838 rfl (show zlk _ 0 = some (.ref (sb)) from rfl) ?_
  refine y_iload_n C dL_law_839 rfl (show zlk _ 3 = some (.int (nI i)) from rfl) ?_
  refine y_iconst C (v := nI 1) dL_law_840 (by decide) ?_
  refine y_iadd C dL_law_841 ?_
  refine y_sld C hX (i + 1) (nI_add i 1) (by omega) (by omega) dL_law_842 ?_
  refine y_aload_n C dL_law_843 rfl (show zlk _ 0 = some (.ref (sb)) from rfl) ?_
  refine y_iload_n C dL_law_844 rfl (show zlk _ 3 = some (.int (nI i)) from rfl) ?_
  refine y_iconst C (v := nI 2) dL_law_845 (by decide) ?_
  refine y_iadd C dL_law_846 ?_
  refine y_sld C hX (i + 2) (nI_add i 2) (by omega) (by omega) dL_law_847 ?_
  refine y_perm List.perm_append_comm ?_
  refine y_callVi C (As := [.int (xs (i + 1)), .int (xs (i + 2))]) (rest := [.int x]) h2 gL_law_X6_who rfl 2 (by decide +kernel) ⟨Nat.le_of_ble_eq_true rfl, Nat.le_of_ble_eq_true rfl⟩ ⟨Nat.le_of_ble_eq_true rfl, Nat.le_of_ble_eq_true rfl⟩ 0 (show (MW θ ad' n' g' r')[0]? = some (ad' 0, .inr (6, mfs ad' n' g')) from rfl) rfl rfl rfl rfl (Nat.le_of_ble_eq_true rfl) dL_law_848 (fun x' Y' hY' => ?_)
  obtain ⟨rfl, n1, g1, b1, r1, V1, n1', g1', r1', rfl, rfl, hR⟩ := h3 x Y x' Y' hY hY'
  refine y_perm List.perm_append_comm ?_
  refine y_icmp_eq C 1198 dL_law_851 (by decide) (fun _ => ?_) (fun c => absurd rfl c)
  exact ih _ _ _ _ _ _ _ _ hR
set_option maxHeartbeats 2000000 in
theorem lc_parted (C : yC κ l cL_law 4 RL wsL_law room_1 θ) (hX : yS κ sb L xs) (h : RR n g b r V n' g' r') (hi : i + 4 ≤ L) (hL : L ≤ 256) (ih : lB κ θ ea ad ad' 1198 [(3, .int (nI i)), (2, .ref (ad' 0)), (1, .ref (ad 0)), (0, .ref sb)]) : yJ κ (MW θ ad' n' g' r' ++ CW θ ea ad n g b r V) 172 4010 856 [(3, .int (nI i)), (2, .ref (ad' 0)), (1, .ref (ad 0)), (0, .ref sb)] [] := by
  obtain ⟨P, P', h1, h2, h3⟩ := st_parted (l := l) (θ := θ) (ea := ea) (ad := ad) (ad' := ad') h (xs (i + 1)) (xs (i + 2))
  refine y_aload_n C dL_law_856 rfl (show zlk _ 1 = some (.ref (ad 0)) from rfl) ?_
  refine y_aload_n C dL_law_857 rfl (show zlk _ 0 = some (.ref (sb)) from rfl) ?_
  refine y_iload_n C dL_law_858 rfl (show zlk _ 3 = some (.int (nI i)) from rfl) ?_
  refine y_iconst C (v := nI 1) dL_law_859 (by decide) ?_
  refine y_iadd C dL_law_860 ?_
  refine y_sld C hX (i + 1) (nI_add i 1) (by omega) (by omega) dL_law_861 ?_
  refine y_aload_n C dL_law_862 rfl (show zlk _ 0 = some (.ref (sb)) from rfl) ?_
  refine y_iload_n C dL_law_863 rfl (show zlk _ 3 = some (.int (nI i)) from rfl) ?_
  refine y_iconst C (v := nI 2) dL_law_864 (by decide) ?_
  refine y_iadd C dL_law_865 ?_
  refine y_sld C hX (i + 2) (nI_add i 2) (by omega) (by omega) dL_law_866 ?_
  refine y_callVi C (As := [.int (xs (i + 1)), .int (xs (i + 2))]) (rest := []) h1 gL_law_X5_parted rfl 2 (by decide +kernel) ⟨Nat.le_of_ble_eq_true rfl, Nat.le_of_ble_eq_true rfl⟩ ⟨Nat.le_of_ble_eq_true rfl, Nat.le_of_ble_eq_true rfl⟩ 0 cc_0 rfl rfl rfl rfl (Nat.le_of_ble_eq_true rfl) dL_law_867 (fun x Y hY => ?_)
  refine y_aload_n C dL_law_870 rfl (show zlk _ 2 = some (.ref (ad' 0)) from rfl) ?_
  refine y_aload_n C dL_law_871 rfl (show zlk _ 0 = some (.ref (sb)) from rfl) ?_
  refine y_iload_n C dL_law_872 rfl (show zlk _ 3 = some (.int (nI i)) from rfl) ?_
  refine y_iconst C (v := nI 1) dL_law_873 (by decide) ?_
  refine y_iadd C dL_law_874 ?_
  refine y_sld C hX (i + 1) (nI_add i 1) (by omega) (by omega) dL_law_875 ?_
  refine y_aload_n C dL_law_876 rfl (show zlk _ 0 = some (.ref (sb)) from rfl) ?_
  refine y_iload_n C dL_law_877 rfl (show zlk _ 3 = some (.int (nI i)) from rfl) ?_
  refine y_iconst C (v := nI 2) dL_law_878 (by decide) ?_
  refine y_iadd C dL_law_879 ?_
  refine y_sld C hX (i + 2) (nI_add i 2) (by omega) (by omega) dL_law_880 ?_
  refine y_perm List.perm_append_comm ?_
  refine y_callVi C (As := [.int (xs (i + 1)), .int (xs (i + 2))]) (rest := [.int x]) h2 gL_law_X6_parted rfl 2 (by decide +kernel) ⟨Nat.le_of_ble_eq_true rfl, Nat.le_of_ble_eq_true rfl⟩ ⟨Nat.le_of_ble_eq_true rfl, Nat.le_of_ble_eq_true rfl⟩ 0 (show (MW θ ad' n' g' r')[0]? = some (ad' 0, .inr (6, mfs ad' n' g')) from rfl) rfl rfl rfl rfl (Nat.le_of_ble_eq_true rfl) dL_law_881 (fun x' Y' hY' => ?_)
  obtain ⟨rfl, n1, g1, b1, r1, V1, n1', g1', r1', rfl, rfl, hR⟩ := h3 x Y x' Y' hY hY'
  refine y_perm List.perm_append_comm ?_
  refine y_icmp_eq C 1198 dL_law_884 (by decide) (fun _ => ?_) (fun c => absurd rfl c)
  exact ih _ _ _ _ _ _ _ _ hR
set_option maxHeartbeats 2000000 in
theorem lc_places (C : yC κ l cL_law 4 RL wsL_law room_1 θ) (hX : yS κ sb L xs) (h : RR n g b r V n' g' r') (hi : i + 4 ≤ L) (hL : L ≤ 256) (ih : lB κ θ ea ad ad' 1198 [(3, .int (nI i)), (2, .ref (ad' 0)), (1, .ref (ad 0)), (0, .ref sb)]) : yJ κ (MW θ ad' n' g' r' ++ CW θ ea ad n g b r V) 172 4010 889 [(3, .int (nI i)), (2, .ref (ad' 0)), (1, .ref (ad 0)), (0, .ref sb)] [] := by
  obtain ⟨P, P', h1, h2, h3⟩ := st_places (l := l) (θ := θ) (ea := ea) (ad := ad) (ad' := ad') h (xs (i + 1))
  refine y_aload_n C dL_law_889 rfl (show zlk _ 1 = some (.ref (ad 0)) from rfl) ?_
  refine y_aload_n C dL_law_890 rfl (show zlk _ 0 = some (.ref (sb)) from rfl) ?_
  refine y_iload_n C dL_law_891 rfl (show zlk _ 3 = some (.int (nI i)) from rfl) ?_
  refine y_iconst C (v := nI 1) dL_law_892 (by decide) ?_
  refine y_iadd C dL_law_893 ?_
  refine y_sld C hX (i + 1) (nI_add i 1) (by omega) (by omega) dL_law_894 ?_
  refine y_callVi C (As := [.int (xs (i + 1))]) (rest := []) h1 gL_law_X5_places rfl 1 (by decide +kernel) ⟨Nat.le_of_ble_eq_true rfl, Nat.le_of_ble_eq_true rfl⟩ ⟨Nat.le_of_ble_eq_true rfl, Nat.le_of_ble_eq_true rfl⟩ 0 cc_0 rfl rfl rfl rfl (Nat.le_of_ble_eq_true rfl) dL_law_895 (fun x Y hY => ?_)
  refine y_aload_n C dL_law_898 rfl (show zlk _ 2 = some (.ref (ad' 0)) from rfl) ?_
  refine y_aload_n C dL_law_899 rfl (show zlk _ 0 = some (.ref (sb)) from rfl) ?_
  refine y_iload_n C dL_law_900 rfl (show zlk _ 3 = some (.int (nI i)) from rfl) ?_
  refine y_iconst C (v := nI 1) dL_law_901 (by decide) ?_
  refine y_iadd C dL_law_902 ?_
  refine y_sld C hX (i + 1) (nI_add i 1) (by omega) (by omega) dL_law_903 ?_
  refine y_perm List.perm_append_comm ?_
  refine y_callVi C (As := [.int (xs (i + 1))]) (rest := [.int x]) h2 gL_law_X6_places rfl 1 (by decide +kernel) ⟨Nat.le_of_ble_eq_true rfl, Nat.le_of_ble_eq_true rfl⟩ ⟨Nat.le_of_ble_eq_true rfl, Nat.le_of_ble_eq_true rfl⟩ 0 (show (MW θ ad' n' g' r')[0]? = some (ad' 0, .inr (6, mfs ad' n' g')) from rfl) rfl rfl rfl rfl (Nat.le_of_ble_eq_true rfl) dL_law_904 (fun x' Y' hY' => ?_)
  obtain ⟨rfl, n1, g1, b1, r1, V1, n1', g1', r1', rfl, rfl, hR⟩ := h3 x Y x' Y' hY hY'
  refine y_perm List.perm_append_comm ?_
  refine y_icmp_eq C 1198 dL_law_907 (by decide) (fun _ => ?_) (fun c => absurd rfl c)
  exact ih _ _ _ _ _ _ _ _ hR
set_option maxHeartbeats 2000000 in
theorem lc_apart (C : yC κ l cL_law 4 RL wsL_law room_1 θ) (hX : yS κ sb L xs) (h : RR n g b r V n' g' r') (hi : i + 4 ≤ L) (hL : L ≤ 256) (ih : lB κ θ ea ad ad' 1198 [(3, .int (nI i)), (2, .ref (ad' 0)), (1, .ref (ad 0)), (0, .ref sb)]) : yJ κ (MW θ ad' n' g' r' ++ CW θ ea ad n g b r V) 172 4010 912 [(3, .int (nI i)), (2, .ref (ad' 0)), (1, .ref (ad 0)), (0, .ref sb)] [] := by
  obtain ⟨P, P', h1, h2, h3⟩ := st_apart (l := l) (θ := θ) (ea := ea) (ad := ad) (ad' := ad') h (xs (i + 1)) (xs (i + 2)) (xs (i + 3))
  refine y_aload_n C dL_law_912 rfl (show zlk _ 1 = some (.ref (ad 0)) from rfl) ?_
  refine y_aload_n C dL_law_913 rfl (show zlk _ 0 = some (.ref (sb)) from rfl) ?_
  refine y_iload_n C dL_law_914 rfl (show zlk _ 3 = some (.int (nI i)) from rfl) ?_
  refine y_iconst C (v := nI 1) dL_law_915 (by decide) ?_
  refine y_iadd C dL_law_916 ?_
  refine y_sld C hX (i + 1) (nI_add i 1) (by omega) (by omega) dL_law_917 ?_
  refine y_aload_n C dL_law_918 rfl (show zlk _ 0 = some (.ref (sb)) from rfl) ?_
  refine y_iload_n C dL_law_919 rfl (show zlk _ 3 = some (.int (nI i)) from rfl) ?_
  refine y_iconst C (v := nI 2) dL_law_920 (by decide) ?_
  refine y_iadd C dL_law_921 ?_
  refine y_sld C hX (i + 2) (nI_add i 2) (by omega) (by omega) dL_law_922 ?_
  refine y_aload_n C dL_law_923 rfl (show zlk _ 0 = some (.ref (sb)) from rfl) ?_
  refine y_iload_n C dL_law_924 rfl (show zlk _ 3 = some (.int (nI i)) from rfl) ?_
  refine y_iconst C (v := nI 3) dL_law_925 (by decide) ?_
  refine y_iadd C dL_law_926 ?_
  refine y_sld C hX (i + 3) (nI_add i 3) (by omega) (by omega) dL_law_927 ?_
  refine y_callVi C (As := [.int (xs (i + 1)), .int (xs (i + 2)), .int (xs (i + 3))]) (rest := []) h1 gL_law_X5_apart rfl 3 (by decide +kernel) ⟨Nat.le_of_ble_eq_true rfl, Nat.le_of_ble_eq_true rfl⟩ ⟨Nat.le_of_ble_eq_true rfl, Nat.le_of_ble_eq_true rfl⟩ 0 cc_0 rfl rfl rfl rfl (Nat.le_of_ble_eq_true rfl) dL_law_928 (fun x Y hY => ?_)
  refine y_aload_n C dL_law_931 rfl (show zlk _ 2 = some (.ref (ad' 0)) from rfl) ?_
  refine y_aload_n C dL_law_932 rfl (show zlk _ 0 = some (.ref (sb)) from rfl) ?_
  refine y_iload_n C dL_law_933 rfl (show zlk _ 3 = some (.int (nI i)) from rfl) ?_
  refine y_iconst C (v := nI 1) dL_law_934 (by decide) ?_
  refine y_iadd C dL_law_935 ?_
  refine y_sld C hX (i + 1) (nI_add i 1) (by omega) (by omega) dL_law_936 ?_
  refine y_aload_n C dL_law_937 rfl (show zlk _ 0 = some (.ref (sb)) from rfl) ?_
  refine y_iload_n C dL_law_938 rfl (show zlk _ 3 = some (.int (nI i)) from rfl) ?_
  refine y_iconst C (v := nI 2) dL_law_939 (by decide) ?_
  refine y_iadd C dL_law_940 ?_
  refine y_sld C hX (i + 2) (nI_add i 2) (by omega) (by omega) dL_law_941 ?_
  refine y_aload_n C dL_law_942 rfl (show zlk _ 0 = some (.ref (sb)) from rfl) ?_
  refine y_iload_n C dL_law_943 rfl (show zlk _ 3 = some (.int (nI i)) from rfl) ?_
  refine y_iconst C (v := nI 3) dL_law_944 (by decide) ?_
  refine y_iadd C dL_law_945 ?_
  refine y_sld C hX (i + 3) (nI_add i 3) (by omega) (by omega) dL_law_946 ?_
  refine y_perm List.perm_append_comm ?_
  refine y_callVi C (As := [.int (xs (i + 1)), .int (xs (i + 2)), .int (xs (i + 3))]) (rest := [.int x]) h2 gL_law_X6_apart rfl 3 (by decide +kernel) ⟨Nat.le_of_ble_eq_true rfl, Nat.le_of_ble_eq_true rfl⟩ ⟨Nat.le_of_ble_eq_true rfl, Nat.le_of_ble_eq_true rfl⟩ 0 (show (MW θ ad' n' g' r')[0]? = some (ad' 0, .inr (6, mfs ad' n' g')) from rfl) rfl rfl rfl rfl (Nat.le_of_ble_eq_true rfl) dL_law_947 (fun x' Y' hY' => ?_)
  obtain ⟨rfl, n1, g1, b1, r1, V1, n1', g1', r1', rfl, rfl, hR⟩ := h3 x Y x' Y' hY hY'
  refine y_perm List.perm_append_comm ?_
  refine y_icmp_eq C 1198 dL_law_950 (by decide) (fun _ => ?_) (fun c => absurd rfl c)
  exact ih _ _ _ _ _ _ _ _ hR
set_option maxHeartbeats 2000000 in
theorem lc_turned (C : yC κ l cL_law 4 RL wsL_law room_1 θ) (hX : yS κ sb L xs) (h : RR n g b r V n' g' r') (hi : i + 4 ≤ L) (hL : L ≤ 256) (ih : lB κ θ ea ad ad' 1198 [(3, .int (nI i)), (2, .ref (ad' 0)), (1, .ref (ad 0)), (0, .ref sb)]) : yJ κ (MW θ ad' n' g' r' ++ CW θ ea ad n g b r V) 172 4010 955 [(3, .int (nI i)), (2, .ref (ad' 0)), (1, .ref (ad 0)), (0, .ref sb)] [] := by
  obtain ⟨P, P', h1, h2, h3⟩ := st_turned (l := l) (θ := θ) (ea := ea) (ad := ad) (ad' := ad') h (xs (i + 1)) (xs (i + 2))
  refine y_aload_n C dL_law_955 rfl (show zlk _ 1 = some (.ref (ad 0)) from rfl) ?_
  refine y_aload_n C dL_law_956 rfl (show zlk _ 0 = some (.ref (sb)) from rfl) ?_
  refine y_iload_n C dL_law_957 rfl (show zlk _ 3 = some (.int (nI i)) from rfl) ?_
  refine y_iconst C (v := nI 1) dL_law_958 (by decide) ?_
  refine y_iadd C dL_law_959 ?_
  refine y_sld C hX (i + 1) (nI_add i 1) (by omega) (by omega) dL_law_960 ?_
  refine y_aload_n C dL_law_961 rfl (show zlk _ 0 = some (.ref (sb)) from rfl) ?_
  refine y_iload_n C dL_law_962 rfl (show zlk _ 3 = some (.int (nI i)) from rfl) ?_
  refine y_iconst C (v := nI 2) dL_law_963 (by decide) ?_
  refine y_iadd C dL_law_964 ?_
  refine y_sld C hX (i + 2) (nI_add i 2) (by omega) (by omega) dL_law_965 ?_
  refine y_callVi C (As := [.int (xs (i + 1)), .int (xs (i + 2))]) (rest := []) h1 gL_law_X5_turned rfl 2 (by decide +kernel) ⟨Nat.le_of_ble_eq_true rfl, Nat.le_of_ble_eq_true rfl⟩ ⟨Nat.le_of_ble_eq_true rfl, Nat.le_of_ble_eq_true rfl⟩ 0 cc_0 rfl rfl rfl rfl (Nat.le_of_ble_eq_true rfl) dL_law_966 (fun x Y hY => ?_)
  refine y_aload_n C dL_law_969 rfl (show zlk _ 2 = some (.ref (ad' 0)) from rfl) ?_
  refine y_aload_n C dL_law_970 rfl (show zlk _ 0 = some (.ref (sb)) from rfl) ?_
  refine y_iload_n C dL_law_971 rfl (show zlk _ 3 = some (.int (nI i)) from rfl) ?_
  refine y_iconst C (v := nI 1) dL_law_972 (by decide) ?_
  refine y_iadd C dL_law_973 ?_
  refine y_sld C hX (i + 1) (nI_add i 1) (by omega) (by omega) dL_law_974 ?_
  refine y_aload_n C dL_law_975 rfl (show zlk _ 0 = some (.ref (sb)) from rfl) ?_
  refine y_iload_n C dL_law_976 rfl (show zlk _ 3 = some (.int (nI i)) from rfl) ?_
  refine y_iconst C (v := nI 2) dL_law_977 (by decide) ?_
  refine y_iadd C dL_law_978 ?_
  refine y_sld C hX (i + 2) (nI_add i 2) (by omega) (by omega) dL_law_979 ?_
  refine y_perm List.perm_append_comm ?_
  refine y_callVi C (As := [.int (xs (i + 1)), .int (xs (i + 2))]) (rest := [.int x]) h2 gL_law_X6_turned rfl 2 (by decide +kernel) ⟨Nat.le_of_ble_eq_true rfl, Nat.le_of_ble_eq_true rfl⟩ ⟨Nat.le_of_ble_eq_true rfl, Nat.le_of_ble_eq_true rfl⟩ 0 (show (MW θ ad' n' g' r')[0]? = some (ad' 0, .inr (6, mfs ad' n' g')) from rfl) rfl rfl rfl rfl (Nat.le_of_ble_eq_true rfl) dL_law_980 (fun x' Y' hY' => ?_)
  obtain ⟨rfl, n1, g1, b1, r1, V1, n1', g1', r1', rfl, rfl, hR⟩ := h3 x Y x' Y' hY hY'
  refine y_perm List.perm_append_comm ?_
  refine y_icmp_eq C 1198 dL_law_983 (by decide) (fun _ => ?_) (fun c => absurd rfl c)
  exact ih _ _ _ _ _ _ _ _ hR
set_option maxHeartbeats 2000000 in
theorem lc_votes (C : yC κ l cL_law 4 RL wsL_law room_1 θ) (hX : yS κ sb L xs) (h : RR n g b r V n' g' r') (hi : i + 4 ≤ L) (hL : L ≤ 256) (ih : lB κ θ ea ad ad' 1198 [(3, .int (nI i)), (2, .ref (ad' 0)), (1, .ref (ad 0)), (0, .ref sb)]) : yJ κ (MW θ ad' n' g' r' ++ CW θ ea ad n g b r V) 172 4010 988 [(3, .int (nI i)), (2, .ref (ad' 0)), (1, .ref (ad 0)), (0, .ref sb)] [] := by
  obtain ⟨P, P', h1, h2, h3⟩ := st_votes (l := l) (θ := θ) (ea := ea) (ad := ad) (ad' := ad') h (xs (i + 1)) (xs (i + 2))
  refine y_aload_n C dL_law_988 rfl (show zlk _ 1 = some (.ref (ad 0)) from rfl) ?_
  refine y_aload_n C dL_law_989 rfl (show zlk _ 0 = some (.ref (sb)) from rfl) ?_
  refine y_iload_n C dL_law_990 rfl (show zlk _ 3 = some (.int (nI i)) from rfl) ?_
  refine y_iconst C (v := nI 1) dL_law_991 (by decide) ?_
  refine y_iadd C dL_law_992 ?_
  refine y_sld C hX (i + 1) (nI_add i 1) (by omega) (by omega) dL_law_993 ?_
  refine y_aload_n C dL_law_994 rfl (show zlk _ 0 = some (.ref (sb)) from rfl) ?_
  refine y_iload_n C dL_law_995 rfl (show zlk _ 3 = some (.int (nI i)) from rfl) ?_
  refine y_iconst C (v := nI 2) dL_law_996 (by decide) ?_
  refine y_iadd C dL_law_997 ?_
  refine y_sld C hX (i + 2) (nI_add i 2) (by omega) (by omega) dL_law_998 ?_
  refine y_callVi C (As := [.int (xs (i + 1)), .int (xs (i + 2))]) (rest := []) h1 gL_law_X5_votes rfl 2 (by decide +kernel) ⟨Nat.le_of_ble_eq_true rfl, Nat.le_of_ble_eq_true rfl⟩ ⟨Nat.le_of_ble_eq_true rfl, Nat.le_of_ble_eq_true rfl⟩ 0 cc_0 rfl rfl rfl rfl (Nat.le_of_ble_eq_true rfl) dL_law_999 (fun x Y hY => ?_)
  refine y_aload_n C dL_law_1002 rfl (show zlk _ 2 = some (.ref (ad' 0)) from rfl) ?_
  refine y_aload_n C dL_law_1003 rfl (show zlk _ 0 = some (.ref (sb)) from rfl) ?_
  refine y_iload_n C dL_law_1004 rfl (show zlk _ 3 = some (.int (nI i)) from rfl) ?_
  refine y_iconst C (v := nI 1) dL_law_1005 (by decide) ?_
  refine y_iadd C dL_law_1006 ?_
  refine y_sld C hX (i + 1) (nI_add i 1) (by omega) (by omega) dL_law_1007 ?_
  refine y_aload_n C dL_law_1008 rfl (show zlk _ 0 = some (.ref (sb)) from rfl) ?_
  refine y_iload_n C dL_law_1009 rfl (show zlk _ 3 = some (.int (nI i)) from rfl) ?_
  refine y_iconst C (v := nI 2) dL_law_1010 (by decide) ?_
  refine y_iadd C dL_law_1011 ?_
  refine y_sld C hX (i + 2) (nI_add i 2) (by omega) (by omega) dL_law_1012 ?_
  refine y_perm List.perm_append_comm ?_
  refine y_callVi C (As := [.int (xs (i + 1)), .int (xs (i + 2))]) (rest := [.int x]) h2 gL_law_X6_votes rfl 2 (by decide +kernel) ⟨Nat.le_of_ble_eq_true rfl, Nat.le_of_ble_eq_true rfl⟩ ⟨Nat.le_of_ble_eq_true rfl, Nat.le_of_ble_eq_true rfl⟩ 0 (show (MW θ ad' n' g' r')[0]? = some (ad' 0, .inr (6, mfs ad' n' g')) from rfl) rfl rfl rfl rfl (Nat.le_of_ble_eq_true rfl) dL_law_1013 (fun x' Y' hY' => ?_)
  obtain ⟨rfl, n1, g1, b1, r1, V1, n1', g1', r1', rfl, rfl, hR⟩ := h3 x Y x' Y' hY hY'
  refine y_perm List.perm_append_comm ?_
  refine y_icmp_eq C 1198 dL_law_1016 (by decide) (fun _ => ?_) (fun c => absurd rfl c)
  exact ih _ _ _ _ _ _ _ _ hR
set_option maxHeartbeats 2000000 in
theorem lc_clear (C : yC κ l cL_law 4 RL wsL_law room_1 θ) (hX : yS κ sb L xs) (h : RR n g b r V n' g' r') (hi : i + 4 ≤ L) (hL : L ≤ 256) (ih : lB κ θ ea ad ad' 1198 [(3, .int (nI i)), (2, .ref (ad' 0)), (1, .ref (ad 0)), (0, .ref sb)]) : yJ κ (MW θ ad' n' g' r' ++ CW θ ea ad n g b r V) 172 4010 1021 [(3, .int (nI i)), (2, .ref (ad' 0)), (1, .ref (ad 0)), (0, .ref sb)] [] := by
  obtain ⟨P, P', h1, h2, h3⟩ := st_clear (l := l) (θ := θ) (ea := ea) (ad := ad) (ad' := ad') h (xs (i + 1)) (xs (i + 2))
  refine y_aload_n C dL_law_1021 rfl (show zlk _ 1 = some (.ref (ad 0)) from rfl) ?_
  refine y_aload_n C dL_law_1022 rfl (show zlk _ 0 = some (.ref (sb)) from rfl) ?_
  refine y_iload_n C dL_law_1023 rfl (show zlk _ 3 = some (.int (nI i)) from rfl) ?_
  refine y_iconst C (v := nI 1) dL_law_1024 (by decide) ?_
  refine y_iadd C dL_law_1025 ?_
  refine y_sld C hX (i + 1) (nI_add i 1) (by omega) (by omega) dL_law_1026 ?_
  refine y_aload_n C dL_law_1027 rfl (show zlk _ 0 = some (.ref (sb)) from rfl) ?_
  refine y_iload_n C dL_law_1028 rfl (show zlk _ 3 = some (.int (nI i)) from rfl) ?_
  refine y_iconst C (v := nI 2) dL_law_1029 (by decide) ?_
  refine y_iadd C dL_law_1030 ?_
  refine y_sld C hX (i + 2) (nI_add i 2) (by omega) (by omega) dL_law_1031 ?_
  refine y_callVi C (As := [.int (xs (i + 1)), .int (xs (i + 2))]) (rest := []) h1 gL_law_X5_clear rfl 2 (by decide +kernel) ⟨Nat.le_of_ble_eq_true rfl, Nat.le_of_ble_eq_true rfl⟩ ⟨Nat.le_of_ble_eq_true rfl, Nat.le_of_ble_eq_true rfl⟩ 0 cc_0 rfl rfl rfl rfl (Nat.le_of_ble_eq_true rfl) dL_law_1032 (fun x Y hY => ?_)
  refine y_aload_n C dL_law_1035 rfl (show zlk _ 2 = some (.ref (ad' 0)) from rfl) ?_
  refine y_aload_n C dL_law_1036 rfl (show zlk _ 0 = some (.ref (sb)) from rfl) ?_
  refine y_iload_n C dL_law_1037 rfl (show zlk _ 3 = some (.int (nI i)) from rfl) ?_
  refine y_iconst C (v := nI 1) dL_law_1038 (by decide) ?_
  refine y_iadd C dL_law_1039 ?_
  refine y_sld C hX (i + 1) (nI_add i 1) (by omega) (by omega) dL_law_1040 ?_
  refine y_aload_n C dL_law_1041 rfl (show zlk _ 0 = some (.ref (sb)) from rfl) ?_
  refine y_iload_n C dL_law_1042 rfl (show zlk _ 3 = some (.int (nI i)) from rfl) ?_
  refine y_iconst C (v := nI 2) dL_law_1043 (by decide) ?_
  refine y_iadd C dL_law_1044 ?_
  refine y_sld C hX (i + 2) (nI_add i 2) (by omega) (by omega) dL_law_1045 ?_
  refine y_perm List.perm_append_comm ?_
  refine y_callVi C (As := [.int (xs (i + 1)), .int (xs (i + 2))]) (rest := [.int x]) h2 gL_law_X6_clear rfl 2 (by decide +kernel) ⟨Nat.le_of_ble_eq_true rfl, Nat.le_of_ble_eq_true rfl⟩ ⟨Nat.le_of_ble_eq_true rfl, Nat.le_of_ble_eq_true rfl⟩ 0 (show (MW θ ad' n' g' r')[0]? = some (ad' 0, .inr (6, mfs ad' n' g')) from rfl) rfl rfl rfl rfl (Nat.le_of_ble_eq_true rfl) dL_law_1046 (fun x' Y' hY' => ?_)
  obtain ⟨rfl, n1, g1, b1, r1, V1, n1', g1', r1', rfl, rfl, hR⟩ := h3 x Y x' Y' hY hY'
  refine y_perm List.perm_append_comm ?_
  refine y_icmp_eq C 1198 dL_law_1049 (by decide) (fun _ => ?_) (fun c => absurd rfl c)
  exact ih _ _ _ _ _ _ _ _ hR
set_option maxHeartbeats 2000000 in
theorem lc_tellOf (C : yC κ l cL_law 4 RL wsL_law room_1 θ) (hX : yS κ sb L xs) (h : RR n g b r V n' g' r') (hi : i + 4 ≤ L) (hL : L ≤ 256) (ih : lB κ θ ea ad ad' 1198 [(3, .int (nI i)), (2, .ref (ad' 0)), (1, .ref (ad 0)), (0, .ref sb)]) : yJ κ (MW θ ad' n' g' r' ++ CW θ ea ad n g b r V) 172 4010 1054 [(3, .int (nI i)), (2, .ref (ad' 0)), (1, .ref (ad 0)), (0, .ref sb)] [] := by
  obtain ⟨v, hv, P, P', h1, h2, h3⟩ : ∃ v : Int32, ((xs (i + 2) = 0 ∧ v = nI 0) ∨ (¬ xs (i + 2) = 0 ∧ v = nI 1)) ∧ pS l θ ea ad ad' yX5_tellOf wsX5_tellOf 1 yX6_tellOf wsX6_tellOf 1 n g b r V n' g' r' [.int (xs (i + 1)), .int (v)] := by
    by_cases hz : xs (i + 2) = 0
    · exact ⟨nI 0, Or.inl ⟨hz, rfl⟩, st_tellOf_0 (l := l) (θ := θ) (ea := ea) (ad := ad) (ad' := ad') h (xs (i + 1))⟩
    · exact ⟨nI 1, Or.inr ⟨hz, rfl⟩, st_tellOf_1 (l := l) (θ := θ) (ea := ea) (ad := ad) (ad' := ad') h (xs (i + 1))⟩
  refine y_aload_n C dL_law_1054 rfl (show zlk _ 1 = some (.ref (ad 0)) from rfl) ?_
  refine y_aload_n C dL_law_1055 rfl (show zlk _ 0 = some (.ref (sb)) from rfl) ?_
  refine y_iload_n C dL_law_1056 rfl (show zlk _ 3 = some (.int (nI i)) from rfl) ?_
  refine y_iconst C (v := nI 1) dL_law_1057 (by decide) ?_
  refine y_iadd C dL_law_1058 ?_
  refine y_sld C hX (i + 1) (nI_add i 1) (by omega) (by omega) dL_law_1059 ?_
  refine y_aload_n C dL_law_1060 rfl (show zlk _ 0 = some (.ref (sb)) from rfl) ?_
  refine y_iload_n C dL_law_1061 rfl (show zlk _ 3 = some (.int (nI i)) from rfl) ?_
  refine y_iconst C (v := nI 2) dL_law_1062 (by decide) ?_
  refine y_iadd C dL_law_1063 ?_
  refine y_sld C hX (i + 2) (nI_add i 2) (by omega) (by omega) dL_law_1064 ?_
  refine y_nez C 1072 1073 hv dL_law_1065 dL_law_1068 dL_law_1069 rfl dL_law_1072 rfl ?_
  refine y_callVi C (As := [.int (xs (i + 1)), .int (v)]) (rest := []) h1 gL_law_X5_tellOf rfl 2 (by decide +kernel) ⟨Nat.le_of_ble_eq_true rfl, Nat.le_of_ble_eq_true rfl⟩ ⟨Nat.le_of_ble_eq_true rfl, Nat.le_of_ble_eq_true rfl⟩ 0 cc_0 rfl rfl rfl rfl (Nat.le_of_ble_eq_true rfl) dL_law_1073 (fun x Y hY => ?_)
  refine y_aload_n C dL_law_1076 rfl (show zlk _ 2 = some (.ref (ad' 0)) from rfl) ?_
  refine y_aload_n C dL_law_1077 rfl (show zlk _ 0 = some (.ref (sb)) from rfl) ?_
  refine y_iload_n C dL_law_1078 rfl (show zlk _ 3 = some (.int (nI i)) from rfl) ?_
  refine y_iconst C (v := nI 1) dL_law_1079 (by decide) ?_
  refine y_iadd C dL_law_1080 ?_
  refine y_sld C hX (i + 1) (nI_add i 1) (by omega) (by omega) dL_law_1081 ?_
  refine y_aload_n C dL_law_1082 rfl (show zlk _ 0 = some (.ref (sb)) from rfl) ?_
  refine y_iload_n C dL_law_1083 rfl (show zlk _ 3 = some (.int (nI i)) from rfl) ?_
  refine y_iconst C (v := nI 2) dL_law_1084 (by decide) ?_
  refine y_iadd C dL_law_1085 ?_
  refine y_sld C hX (i + 2) (nI_add i 2) (by omega) (by omega) dL_law_1086 ?_
  refine y_nez C 1094 1095 hv dL_law_1087 dL_law_1090 dL_law_1091 rfl dL_law_1094 rfl ?_
  refine y_perm List.perm_append_comm ?_
  refine y_callVi C (As := [.int (xs (i + 1)), .int (v)]) (rest := [.int x]) h2 gL_law_X6_tellOf rfl 2 (by decide +kernel) ⟨Nat.le_of_ble_eq_true rfl, Nat.le_of_ble_eq_true rfl⟩ ⟨Nat.le_of_ble_eq_true rfl, Nat.le_of_ble_eq_true rfl⟩ 0 (show (MW θ ad' n' g' r')[0]? = some (ad' 0, .inr (6, mfs ad' n' g')) from rfl) rfl rfl rfl rfl (Nat.le_of_ble_eq_true rfl) dL_law_1095 (fun x' Y' hY' => ?_)
  obtain ⟨rfl, n1, g1, b1, r1, V1, n1', g1', r1', rfl, rfl, hR⟩ := h3 x Y x' Y' hY hY'
  refine y_perm List.perm_append_comm ?_
  refine y_icmp_eq C 1198 dL_law_1098 (by decide) (fun _ => ?_) (fun c => absurd rfl c)
  exact ih _ _ _ _ _ _ _ _ hR
set_option maxHeartbeats 2000000 in
theorem lc_ask (C : yC κ l cL_law 4 RL wsL_law room_1 θ) (hX : yS κ sb L xs) (h : RR n g b r V n' g' r') (hi : i + 4 ≤ L) (hL : L ≤ 256) (ih : lB κ θ ea ad ad' 1198 [(3, .int (nI i)), (2, .ref (ad' 0)), (1, .ref (ad 0)), (0, .ref sb)]) : yJ κ (MW θ ad' n' g' r' ++ CW θ ea ad n g b r V) 172 4010 1103 [(3, .int (nI i)), (2, .ref (ad' 0)), (1, .ref (ad 0)), (0, .ref sb)] [] := by
  obtain ⟨P, P', h1, h2, h3⟩ := st_ask (l := l) (θ := θ) (ea := ea) (ad := ad) (ad' := ad') h 
  refine y_aload_n C dL_law_1103 rfl (show zlk _ 1 = some (.ref (ad 0)) from rfl) ?_
  refine y_callVi C (As := []) (rest := []) h1 gL_law_X5_ask rfl 0 (by decide +kernel) ⟨Nat.le_of_ble_eq_true rfl, Nat.le_of_ble_eq_true rfl⟩ ⟨Nat.le_of_ble_eq_true rfl, Nat.le_of_ble_eq_true rfl⟩ 0 cc_0 rfl rfl rfl rfl (Nat.le_of_ble_eq_true rfl) dL_law_1104 (fun x Y hY => ?_)
  refine y_aload_n C dL_law_1107 rfl (show zlk _ 2 = some (.ref (ad' 0)) from rfl) ?_
  refine y_perm List.perm_append_comm ?_
  refine y_callVi C (As := []) (rest := [.int x]) h2 gL_law_X6_ask rfl 0 (by decide +kernel) ⟨Nat.le_of_ble_eq_true rfl, Nat.le_of_ble_eq_true rfl⟩ ⟨Nat.le_of_ble_eq_true rfl, Nat.le_of_ble_eq_true rfl⟩ 0 (show (MW θ ad' n' g' r')[0]? = some (ad' 0, .inr (6, mfs ad' n' g')) from rfl) rfl rfl rfl rfl (Nat.le_of_ble_eq_true rfl) dL_law_1108 (fun x' Y' hY' => ?_)
  obtain ⟨rfl, n1, g1, b1, r1, V1, n1', g1', r1', rfl, rfl, hR⟩ := h3 x Y x' Y' hY hY'
  refine y_perm List.perm_append_comm ?_
  refine y_icmp_eq C 1198 dL_law_1111 (by decide) (fun _ => ?_) (fun c => absurd rfl c)
  exact ih _ _ _ _ _ _ _ _ hR
set_option maxHeartbeats 2000000 in
theorem lc_tear (C : yC κ l cL_law 4 RL wsL_law room_1 θ) (hX : yS κ sb L xs) (h : RR n g b r V n' g' r') (hi : i + 4 ≤ L) (hL : L ≤ 256) (ih : lB κ θ ea ad ad' 1198 [(3, .int (nI i)), (2, .ref (ad' 0)), (1, .ref (ad 0)), (0, .ref sb)]) : yJ κ (MW θ ad' n' g' r' ++ CW θ ea ad n g b r V) 172 4010 1116 [(3, .int (nI i)), (2, .ref (ad' 0)), (1, .ref (ad 0)), (0, .ref sb)] [] := by
  obtain ⟨P, P', h1, h2, h3⟩ := st_tear (l := l) (θ := θ) (ea := ea) (ad := ad) (ad' := ad') h 
  refine y_aload_n C dL_law_1116 rfl (show zlk _ 1 = some (.ref (ad 0)) from rfl) ?_
  refine y_callVi C (As := []) (rest := []) h1 gL_law_X5_tear rfl 0 (by decide +kernel) ⟨Nat.le_of_ble_eq_true rfl, Nat.le_of_ble_eq_true rfl⟩ ⟨Nat.le_of_ble_eq_true rfl, Nat.le_of_ble_eq_true rfl⟩ 0 cc_0 rfl rfl rfl rfl (Nat.le_of_ble_eq_true rfl) dL_law_1117 (fun x Y hY => ?_)
  refine y_aload_n C dL_law_1120 rfl (show zlk _ 2 = some (.ref (ad' 0)) from rfl) ?_
  refine y_perm List.perm_append_comm ?_
  refine y_callVi C (As := []) (rest := [.int x]) h2 gL_law_X6_tear rfl 0 (by decide +kernel) ⟨Nat.le_of_ble_eq_true rfl, Nat.le_of_ble_eq_true rfl⟩ ⟨Nat.le_of_ble_eq_true rfl, Nat.le_of_ble_eq_true rfl⟩ 0 (show (MW θ ad' n' g' r')[0]? = some (ad' 0, .inr (6, mfs ad' n' g')) from rfl) rfl rfl rfl rfl (Nat.le_of_ble_eq_true rfl) dL_law_1121 (fun x' Y' hY' => ?_)
  obtain ⟨rfl, n1, g1, b1, r1, V1, n1', g1', r1', rfl, rfl, hR⟩ := h3 x Y x' Y' hY hY'
  refine y_perm List.perm_append_comm ?_
  refine y_icmp_eq C 1198 dL_law_1124 (by decide) (fun _ => ?_) (fun c => absurd rfl c)
  exact ih _ _ _ _ _ _ _ _ hR
set_option maxHeartbeats 2000000 in
theorem lc_seed (C : yC κ l cL_law 4 RL wsL_law room_1 θ) (hX : yS κ sb L xs) (h : RR n g b r V n' g' r') (hi : i + 4 ≤ L) (hL : L ≤ 256) (ih : lB κ θ ea ad ad' 1198 [(3, .int (nI i)), (2, .ref (ad' 0)), (1, .ref (ad 0)), (0, .ref sb)]) : yJ κ (MW θ ad' n' g' r' ++ CW θ ea ad n g b r V) 172 4010 1129 [(3, .int (nI i)), (2, .ref (ad' 0)), (1, .ref (ad 0)), (0, .ref sb)] [] := by
  obtain ⟨P, P', h1, h2, h3⟩ := st_seed (l := l) (θ := θ) (ea := ea) (ad := ad) (ad' := ad') h (xs (i + 1))
  refine y_aload_n C dL_law_1129 rfl (show zlk _ 1 = some (.ref (ad 0)) from rfl) ?_
  refine y_aload_n C dL_law_1130 rfl (show zlk _ 0 = some (.ref (sb)) from rfl) ?_
  refine y_iload_n C dL_law_1131 rfl (show zlk _ 3 = some (.int (nI i)) from rfl) ?_
  refine y_iconst C (v := nI 1) dL_law_1132 (by decide) ?_
  refine y_iadd C dL_law_1133 ?_
  refine y_sld C hX (i + 1) (nI_add i 1) (by omega) (by omega) dL_law_1134 ?_
  refine y_callVi C (As := [.int (xs (i + 1))]) (rest := []) h1 gL_law_X5_seed rfl 1 (by decide +kernel) ⟨Nat.le_of_ble_eq_true rfl, Nat.le_of_ble_eq_true rfl⟩ ⟨Nat.le_of_ble_eq_true rfl, Nat.le_of_ble_eq_true rfl⟩ 0 cc_0 rfl rfl rfl rfl (Nat.le_of_ble_eq_true rfl) dL_law_1135 (fun x Y hY => ?_)
  refine y_aload_n C dL_law_1138 rfl (show zlk _ 2 = some (.ref (ad' 0)) from rfl) ?_
  refine y_aload_n C dL_law_1139 rfl (show zlk _ 0 = some (.ref (sb)) from rfl) ?_
  refine y_iload_n C dL_law_1140 rfl (show zlk _ 3 = some (.int (nI i)) from rfl) ?_
  refine y_iconst C (v := nI 1) dL_law_1141 (by decide) ?_
  refine y_iadd C dL_law_1142 ?_
  refine y_sld C hX (i + 1) (nI_add i 1) (by omega) (by omega) dL_law_1143 ?_
  refine y_perm List.perm_append_comm ?_
  refine y_callVi C (As := [.int (xs (i + 1))]) (rest := [.int x]) h2 gL_law_X6_seed rfl 1 (by decide +kernel) ⟨Nat.le_of_ble_eq_true rfl, Nat.le_of_ble_eq_true rfl⟩ ⟨Nat.le_of_ble_eq_true rfl, Nat.le_of_ble_eq_true rfl⟩ 0 (show (MW θ ad' n' g' r')[0]? = some (ad' 0, .inr (6, mfs ad' n' g')) from rfl) rfl rfl rfl rfl (Nat.le_of_ble_eq_true rfl) dL_law_1144 (fun x' Y' hY' => ?_)
  obtain ⟨rfl, n1, g1, b1, r1, V1, n1', g1', r1', rfl, rfl, hR⟩ := h3 x Y x' Y' hY hY'
  refine y_perm List.perm_append_comm ?_
  refine y_icmp_eq C 1198 dL_law_1147 (by decide) (fun _ => ?_) (fun c => absurd rfl c)
  exact ih _ _ _ _ _ _ _ _ hR
set_option maxHeartbeats 2000000 in
theorem lc_keep (C : yC κ l cL_law 4 RL wsL_law room_1 θ) (hX : yS κ sb L xs) (h : RR n g b r V n' g' r') (hi : i + 4 ≤ L) (hL : L ≤ 256) (ih : lB κ θ ea ad ad' 1198 [(3, .int (nI i)), (2, .ref (ad' 0)), (1, .ref (ad 0)), (0, .ref sb)]) : yJ κ (MW θ ad' n' g' r' ++ CW θ ea ad n g b r V) 172 4010 1152 [(3, .int (nI i)), (2, .ref (ad' 0)), (1, .ref (ad 0)), (0, .ref sb)] [] := by
  obtain ⟨P, P', h1, h2, h3⟩ := st_keep (l := l) (θ := θ) (ea := ea) (ad := ad) (ad' := ad') h (xs (i + 1))
  refine y_aload_n C dL_law_1152 rfl (show zlk _ 1 = some (.ref (ad 0)) from rfl) ?_
  refine y_aload_n C dL_law_1153 rfl (show zlk _ 0 = some (.ref (sb)) from rfl) ?_
  refine y_iload_n C dL_law_1154 rfl (show zlk _ 3 = some (.int (nI i)) from rfl) ?_
  refine y_iconst C (v := nI 1) dL_law_1155 (by decide) ?_
  refine y_iadd C dL_law_1156 ?_
  refine y_sld C hX (i + 1) (nI_add i 1) (by omega) (by omega) dL_law_1157 ?_
  refine y_callVi C (As := [.int (xs (i + 1))]) (rest := []) h1 gL_law_X5_keep rfl 1 (by decide +kernel) ⟨Nat.le_of_ble_eq_true rfl, Nat.le_of_ble_eq_true rfl⟩ ⟨Nat.le_of_ble_eq_true rfl, Nat.le_of_ble_eq_true rfl⟩ 0 cc_0 rfl rfl rfl rfl (Nat.le_of_ble_eq_true rfl) dL_law_1158 (fun x Y hY => ?_)
  refine y_aload_n C dL_law_1161 rfl (show zlk _ 2 = some (.ref (ad' 0)) from rfl) ?_
  refine y_aload_n C dL_law_1162 rfl (show zlk _ 0 = some (.ref (sb)) from rfl) ?_
  refine y_iload_n C dL_law_1163 rfl (show zlk _ 3 = some (.int (nI i)) from rfl) ?_
  refine y_iconst C (v := nI 1) dL_law_1164 (by decide) ?_
  refine y_iadd C dL_law_1165 ?_
  refine y_sld C hX (i + 1) (nI_add i 1) (by omega) (by omega) dL_law_1166 ?_
  refine y_perm List.perm_append_comm ?_
  refine y_callVi C (As := [.int (xs (i + 1))]) (rest := [.int x]) h2 gL_law_X6_keep rfl 1 (by decide +kernel) ⟨Nat.le_of_ble_eq_true rfl, Nat.le_of_ble_eq_true rfl⟩ ⟨Nat.le_of_ble_eq_true rfl, Nat.le_of_ble_eq_true rfl⟩ 0 (show (MW θ ad' n' g' r')[0]? = some (ad' 0, .inr (6, mfs ad' n' g')) from rfl) rfl rfl rfl rfl (Nat.le_of_ble_eq_true rfl) dL_law_1167 (fun x' Y' hY' => ?_)
  obtain ⟨rfl, n1, g1, b1, r1, V1, n1', g1', r1', rfl, rfl, hR⟩ := h3 x Y x' Y' hY hY'
  refine y_perm List.perm_append_comm ?_
  refine y_icmp_eq C 1198 dL_law_1170 (by decide) (fun _ => ?_) (fun c => absurd rfl c)
  exact ih _ _ _ _ _ _ _ _ hR
set_option maxHeartbeats 2000000 in
theorem lc_goBack (C : yC κ l cL_law 4 RL wsL_law room_1 θ) (hX : yS κ sb L xs) (h : RR n g b r V n' g' r') (hi : i + 4 ≤ L) (hL : L ≤ 256) (ih : lB κ θ ea ad ad' 1198 [(3, .int (nI i)), (2, .ref (ad' 0)), (1, .ref (ad 0)), (0, .ref sb)]) : yJ κ (MW θ ad' n' g' r' ++ CW θ ea ad n g b r V) 172 4010 1175 [(3, .int (nI i)), (2, .ref (ad' 0)), (1, .ref (ad 0)), (0, .ref sb)] [] := by
  obtain ⟨P, P', h1, h2, h3⟩ := st_goBack (l := l) (θ := θ) (ea := ea) (ad := ad) (ad' := ad') h (xs (i + 1))
  refine y_aload_n C dL_law_1175 rfl (show zlk _ 1 = some (.ref (ad 0)) from rfl) ?_
  refine y_aload_n C dL_law_1176 rfl (show zlk _ 0 = some (.ref (sb)) from rfl) ?_
  refine y_iload_n C dL_law_1177 rfl (show zlk _ 3 = some (.int (nI i)) from rfl) ?_
  refine y_iconst C (v := nI 1) dL_law_1178 (by decide) ?_
  refine y_iadd C dL_law_1179 ?_
  refine y_sld C hX (i + 1) (nI_add i 1) (by omega) (by omega) dL_law_1180 ?_
  refine y_callVi C (As := [.int (xs (i + 1))]) (rest := []) h1 gL_law_X5_goBack rfl 1 (by decide +kernel) ⟨Nat.le_of_ble_eq_true rfl, Nat.le_of_ble_eq_true rfl⟩ ⟨Nat.le_of_ble_eq_true rfl, Nat.le_of_ble_eq_true rfl⟩ 0 cc_0 rfl rfl rfl rfl (Nat.le_of_ble_eq_true rfl) dL_law_1181 (fun x Y hY => ?_)
  refine y_aload_n C dL_law_1184 rfl (show zlk _ 2 = some (.ref (ad' 0)) from rfl) ?_
  refine y_aload_n C dL_law_1185 rfl (show zlk _ 0 = some (.ref (sb)) from rfl) ?_
  refine y_iload_n C dL_law_1186 rfl (show zlk _ 3 = some (.int (nI i)) from rfl) ?_
  refine y_iconst C (v := nI 1) dL_law_1187 (by decide) ?_
  refine y_iadd C dL_law_1188 ?_
  refine y_sld C hX (i + 1) (nI_add i 1) (by omega) (by omega) dL_law_1189 ?_
  refine y_perm List.perm_append_comm ?_
  refine y_callVi C (As := [.int (xs (i + 1))]) (rest := [.int x]) h2 gL_law_X6_goBack rfl 1 (by decide +kernel) ⟨Nat.le_of_ble_eq_true rfl, Nat.le_of_ble_eq_true rfl⟩ ⟨Nat.le_of_ble_eq_true rfl, Nat.le_of_ble_eq_true rfl⟩ 0 (show (MW θ ad' n' g' r')[0]? = some (ad' 0, .inr (6, mfs ad' n' g')) from rfl) rfl rfl rfl rfl (Nat.le_of_ble_eq_true rfl) dL_law_1190 (fun x' Y' hY' => ?_)
  obtain ⟨rfl, n1, g1, b1, r1, V1, n1', g1', r1', rfl, rfl, hR⟩ := h3 x Y x' Y' hY hY'
  refine y_perm List.perm_append_comm ?_
  refine y_icmp_eq C 1198 dL_law_1193 (by decide) (fun _ => ?_) (fun c => absurd rfl c)
  exact ih _ _ _ _ _ _ _ _ hR
end LC
