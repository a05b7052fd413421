section ZL
variable {κ : zX} {l0 : Launch} {cc : ByteArray} {n0 : Nat} {own : String} {Ts : List Cond} {kf : Nat} {θ : zH} {X : va_W} {pc : Nat} {lv : List (Nat × Value)} {st : List Value}
theorem z_lookup (C : zC κ l0 cc n0 own Ts kf θ) {dflt : Int} {ps : Array (Int × Int)} {len : Nat} {x : Int32} {off : Int} (tgt : Nat) (hd : decode cc pc = .ok (.lookupswitch dflt ps, len)) (hp : (ps.toList.zip (ps.toList.drop 1)).all (fun (a, next) => a.1 < next.1) = true) (ho : Op.lookupswitch.offset ps.toList dflt x.toInt = off) (ht : (pc : Int) + off = (tgt : Int)) (kk : Z κ X tgt lv st) : Z κ X pc lv (.int x :: st) := by
  obtain ⟨p, l, e, R, s, m, args, below, meth, c, Q, A, θ', n⟩ := κ
  obtain ⟨rfl, rfl, rfl, hR, hx, hb, hml, hown, hts, hK, hN, hA⟩ := C
  subst hR
  intro H locs ls hP hD hS hl
  exact lv_lookup hx hb hd hp ho ht (kk H locs ls hP hD hS hl)
end ZL
theorem okN_ngt {x : Int32} {N : Nat} (h : okN x (N + 1) = true) (hN : N < 2 ^ 31 - 1) : ¬ nI N < x := fun z => by rw [okN_g2 z hN] at h; cases h
theorem okN_gt {x : Int32} {N : Nat} (h : okN x (N + 1) = false) (h0 : ¬ x < 0) (hN : N < 2 ^ 31 - 1) : nI N < x := by
  have h2 := okN_nle h h0 hN
  rw [zf_le] at h2
  rw [zf_lt]
  omega
def k_bi (G : Nat) (g : Nat → Int32) (o : Int32) (x : Nat) : Int32 := nI 30 - bcn (o ^^^ k_dB G g o (nI x))
def k_bl (G : Nat) (g : Nat → Int32) (o : Int32) : Nat → Int32 × Int32
  | 0 => ((-1), (-1))
  | x + 1 => if k_bi G g o x ≤ (k_bl G g o x).2 then k_bl G g o x else (nI x, k_bi G g o x)
set_option maxHeartbeats 4000000 in
set_option maxRecDepth 100000 in
theorem c_X5_bestLamp_1 (l : Launch) (θ : zH) (ea : Nat → Nat → Nat) (ad : Nat → Nat) (n : Nat → Nat) (g : Nat → Int32) (b : Nat → Bool) (r : Nat → Nat → Int32) (V : Nat → Ev) (w s x : Int32) (hW : n 11 ≤ 5) (hw : okN w (n 11) = false) : cI l yX5_bestLamp wsX5_bestLamp 3 θ [.ref (ad 0), .int w, .int s, .int x] (CW θ ea ad n g b r V) (fun r0 Y => r0 = (-1000000001) ∧ Y = CW θ ea ad n g b r V) := by
  refine z_cI (by decide) rfl rfl (Nat.le_of_ble_eq_true rfl) (lv := [(0, .ref (ad 0)), (1, .int w), (2, .int s), (3, .int x)]) rfl (fun κ C E => ?_)
  refine z_aload_n C dX5_bestLamp_0 rfl (show zlk _ 0 = some (.ref (ad 0)) from rfl) ?_
  refine z_iload_n C dX5_bestLamp_1 rfl (show zlk _ 1 = some (.int w) from rfl) ?_
  refine z_callVi C (As := [.int w]) (rest := []) (c_X5_isWindow l θ ea ad n g b r V w (by omega)) gX5_bestLamp_X5_isWindow rfl 1 (by decide +kernel) (by decide) (by decide) 0 rfl rfl rfl rfl rfl (Nat.le_of_ble_eq_true rfl) dX5_bestLamp_2 ?_
  rintro _ _ ⟨rfl, rfl⟩
  refine z_if_eqB C 16 dX5_bestLamp_5 (by decide) (fun _ => ?_) (fun h => absurd h (by rw [hw]; decide))
  refine z_ldc C (v := (-1000000001)) (by decide +kernel) dX5_bestLamp_16 ?_
  exact E _ _ _ _ (⟨rfl, rfl⟩) (rfl) dX5_bestLamp_18

set_option maxHeartbeats 4000000 in
set_option maxRecDepth 100000 in
theorem c_X5_bestLamp_2 (l : Launch) (θ : zH) (ea : Nat → Nat → Nat) (ad : Nat → Nat) (n : Nat → Nat) (g : Nat → Int32) (b : Nat → Bool) (r : Nat → Nat → Int32) (V : Nat → Ev) (w s x : Int32) (hW : n 11 ≤ 5) (hS : n 10 ≤ 6) (hw : okN w (n 11) = true) (hj : okN s (n 10) = false) : cI l yX5_bestLamp wsX5_bestLamp 3 θ [.ref (ad 0), .int w, .int s, .int x] (CW θ ea ad n g b r V) (fun r0 Y => r0 = (-1000000001) ∧ Y = CW θ ea ad n g b r V) := by
  refine z_cI (by decide) rfl rfl (Nat.le_of_ble_eq_true rfl) (lv := [(0, .ref (ad 0)), (1, .int w), (2, .int s), (3, .int x)]) rfl (fun κ C E => ?_)
  refine z_aload_n C dX5_bestLamp_0 rfl (show zlk _ 0 = some (.ref (ad 0)) from rfl) ?_
  refine z_iload_n C dX5_bestLamp_1 rfl (show zlk _ 1 = some (.int w) from rfl) ?_
  refine z_callVi C (As := [.int w]) (rest := []) (c_X5_isWindow l θ ea ad n g b r V w (by omega)) gX5_bestLamp_X5_isWindow rfl 1 (by decide +kernel) (by decide) (by decide) 0 rfl rfl rfl rfl rfl (Nat.le_of_ble_eq_true rfl) dX5_bestLamp_2 ?_
  rintro _ _ ⟨rfl, rfl⟩
  refine z_if_eqB C 16 dX5_bestLamp_5 (by decide) (fun h => absurd h (by rw [hw]; decide)) (fun _ => ?_)
  refine z_aload_n C dX5_bestLamp_8 rfl (show zlk _ 0 = some (.ref (ad 0)) from rfl) ?_
  refine z_iload_n C dX5_bestLamp_9 rfl (show zlk _ 2 = some (.int s) from rfl) ?_
  refine z_callVi C (As := [.int s]) (rest := []) (c_X5_isSitter l θ ea ad n g b r V s (by omega)) gX5_bestLamp_X5_isSitter rfl 1 (by decide +kernel) (by decide) (by decide) 0 rfl rfl rfl rfl rfl (Nat.le_of_ble_eq_true rfl) dX5_bestLamp_10 ?_
  rintro _ _ ⟨rfl, rfl⟩
  refine z_if_neB C 19 dX5_bestLamp_13 (by decide) (fun h => absurd h (by rw [hj]; decide)) (fun _ => ?_)
  refine z_ldc C (v := (-1000000001)) (by decide +kernel) dX5_bestLamp_16 ?_
  exact E _ _ _ _ (⟨rfl, rfl⟩) (rfl) dX5_bestLamp_18

set_option maxHeartbeats 4000000 in
set_option maxRecDepth 100000 in
theorem c_X5_bestLamp_3 (l : Launch) (θ : zH) (ea : Nat → Nat → Nat) (ad : Nat → Nat) (n : Nat → Nat) (g : Nat → Int32) (b : Nat → Bool) (r : Nat → Nat → Int32) (V : Nat → Ev) (w s x : Int32) (hW : n 11 ≤ 5) (hS : n 10 ≤ 6) (hw : okN w (n 11) = true) (hj : okN s (n 10) = true) (hx : okN x 2 = false) : cI l yX5_bestLamp wsX5_bestLamp 3 θ [.ref (ad 0), .int w, .int s, .int x] (CW θ ea ad n g b r V) (fun r0 Y => r0 = (-1000000002) ∧ Y = CW θ ea ad n g b r V) := by
  refine z_cI (by decide) rfl rfl (Nat.le_of_ble_eq_true rfl) (lv := [(0, .ref (ad 0)), (1, .int w), (2, .int s), (3, .int x)]) rfl (fun κ C E => ?_)
  refine z_aload_n C dX5_bestLamp_0 rfl (show zlk _ 0 = some (.ref (ad 0)) from rfl) ?_
  refine z_iload_n C dX5_bestLamp_1 rfl (show zlk _ 1 = some (.int w) from rfl) ?_
  refine z_callVi C (As := [.int w]) (rest := []) (c_X5_isWindow l θ ea ad n g b r V w (by omega)) gX5_bestLamp_X5_isWindow rfl 1 (by decide +kernel) (by decide) (by decide) 0 rfl rfl rfl rfl rfl (Nat.le_of_ble_eq_true rfl) dX5_bestLamp_2 ?_
  rintro _ _ ⟨rfl, rfl⟩
  refine z_if_eqB C 16 dX5_bestLamp_5 (by decide) (fun h => absurd h (by rw [hw]; decide)) (fun _ => ?_)
  refine z_aload_n C dX5_bestLamp_8 rfl (show zlk _ 0 = some (.ref (ad 0)) from rfl) ?_
  refine z_iload_n C dX5_bestLamp_9 rfl (show zlk _ 2 = some (.int s) from rfl) ?_
  refine z_callVi C (As := [.int s]) (rest := []) (c_X5_isSitter l θ ea ad n g b r V s (by omega)) gX5_bestLamp_X5_isSitter rfl 1 (by decide +kernel) (by decide) (by decide) 0 rfl rfl rfl rfl rfl (Nat.le_of_ble_eq_true rfl) dX5_bestLamp_10 ?_
  rintro _ _ ⟨rfl, rfl⟩
  refine z_if_neB C 19 dX5_bestLamp_13 (by decide) (fun _ => ?_) (fun h => absurd h (by rw [hj]; decide))
  refine z_iload_n C dX5_bestLamp_19 rfl (show zlk _ 3 = some (.int x) from rfl) ?_
  refine z_if_lt C 28 dX5_bestLamp_20 (by decide) (fun h20t_1 => ?_) (fun h20n_1 => ?_)
  · refine z_ldc C (v := (-1000000002)) (by decide +kernel) dX5_bestLamp_28 ?_
    exact E _ _ _ _ (⟨rfl, rfl⟩) (rfl) dX5_bestLamp_30
  · refine z_iload_n C dX5_bestLamp_23 rfl (show zlk _ 3 = some (.int x) from rfl) ?_
    refine z_iconst C (v := nI 1) dX5_bestLamp_24 (by decide) ?_
    refine z_icmp_le C 31 dX5_bestLamp_25 (by decide) (fun h25n_2 => absurd h25n_2 (okN_nle (N := 1) hx h20n_1 (by decide))) (fun h25n_2 => ?_)
    refine z_ldc C (v := (-1000000002)) (by decide +kernel) dX5_bestLamp_28 ?_
    exact E _ _ _ _ (⟨rfl, rfl⟩) (rfl) dX5_bestLamp_30

set_option maxHeartbeats 4000000 in
set_option maxRecDepth 100000 in
theorem c_X5_bestLamp_40 (l : Launch) (θ : zH) (ea : Nat → Nat → Nat) (ad : Nat → Nat) (n : Nat → Nat) (g : Nat → Int32) (b : Nat → Bool) (r : Nat → Nat → Int32) (V : Nat → Ev) (w : Int32) (j : Nat) (hW : n 11 ≤ 5) (hS : n 10 ≤ 6) (hw : okN w (n 11) = true) (hj : j < n 10) (h9 : n 9 ≤ 30) : cI l yX5_bestLamp wsX5_bestLamp 3 θ [.ref (ad 0), .int w, .int (nI j), .int (nI 0)] (CW θ ea ad n g b r V) (fun r0 Y => r0 = (k_bl (n 9) g (r 4 j) 6).1 ∧ Y = CW θ ea ad n g b r V) := by
  refine z_cI (by decide) rfl rfl (Nat.le_of_ble_eq_true rfl) (lv := [(0, .ref (ad 0)), (1, .int w), (2, .int (nI j)), (3, .int (nI 0))]) rfl (fun κ C E => ?_)
  have hinX0 : ∀ w ∈ wsX00, w ∈ wsX5_bestLamp := by decide +kernel
  have hinX5 : ∀ w ∈ wsX50, w ∈ wsX5_bestLamp := by decide +kernel
  refine z_aload_n C dX5_bestLamp_0 rfl (show zlk _ 0 = some (.ref (ad 0)) from rfl) ?_
  refine z_iload_n C dX5_bestLamp_1 rfl (show zlk _ 1 = some (.int w) from rfl) ?_
  refine z_callVi C (As := [.int w]) (rest := []) (c_X5_isWindow l θ ea ad n g b r V w (by omega)) gX5_bestLamp_X5_isWindow rfl 1 (by decide +kernel) (by decide) (by decide) 0 rfl rfl rfl rfl rfl (Nat.le_of_ble_eq_true rfl) dX5_bestLamp_2 ?_
  rintro _ _ ⟨rfl, rfl⟩
  refine z_if_eqB C 16 dX5_bestLamp_5 (by decide) (fun h => absurd h (by rw [hw]; decide)) (fun _ => ?_)
  refine z_aload_n C dX5_bestLamp_8 rfl (show zlk _ 0 = some (.ref (ad 0)) from rfl) ?_
  refine z_iload_n C dX5_bestLamp_9 rfl (show zlk _ 2 = some (.int (nI j)) from rfl) ?_
  refine z_callVi C (As := [.int (nI j)]) (rest := []) (c_X5_isSitter l θ ea ad n g b r V (nI j) (by omega)) gX5_bestLamp_X5_isSitter rfl 1 (by decide +kernel) (by decide) (by decide) 0 rfl rfl rfl rfl rfl (Nat.le_of_ble_eq_true rfl) dX5_bestLamp_10 ?_
  rintro _ _ ⟨rfl, rfl⟩
  refine z_if_neB C 19 dX5_bestLamp_13 (by decide) (fun _ => ?_) (fun h => absurd h (by rw [okN_lt hj (by omega)]; decide))
  refine z_iload_n C dX5_bestLamp_19 rfl (show zlk _ 3 = some (.int (nI 0)) from rfl) ?_
  refine z_if_ltN C 28 dX5_bestLamp_20 (by decide) (by omega) ?_
  refine z_iload_n C dX5_bestLamp_23 rfl (show zlk _ 3 = some (.int (nI 0)) from rfl) ?_
  refine z_iconst C (v := nI 1) dX5_bestLamp_24 (by decide) ?_
  refine z_icmp_leT C 31 dX5_bestLamp_25 (by decide) (by omega) (by omega) (by decide) ?_
  refine z_iconst C (v := (-1)) dX5_bestLamp_31 (by decide) ?_
  refine z_istore C [(4, .int (-1)), (0, .ref (ad 0)), (1, .int w), (2, .int (nI j)), (3, .int (nI 0))] dX5_bestLamp_32 (by decide) rfl ?_
  refine z_iconst C (v := (-1)) dX5_bestLamp_34 (by decide) ?_
  refine z_istore C [(5, .int (-1)), (4, .int (-1)), (0, .ref (ad 0)), (1, .int w), (2, .int (nI j)), (3, .int (nI 0))] dX5_bestLamp_35 (by decide) rfl ?_
  refine z_iconst C (v := nI 0) dX5_bestLamp_37 (by decide) ?_
  refine z_istore C [(6, .int (nI 0)), (5, .int (-1)), (4, .int (-1)), (0, .ref (ad 0)), (1, .int w), (2, .int (nI j)), (3, .int (nI 0))] dX5_bestLamp_38 (by decide) rfl ?_
  refine z_lv (lv' := [(0, .ref (ad 0)), (2, .int (nI j)), (3, .int (nI 0)), (4, .int ((k_bl (n 9) g (r 4 j) 0).1)), (5, .int ((k_bl (n 9) g (r 4 j) 0).2)), (6, .int (nI 0))]) rfl ?_
  refine z_up (fun k => Z κ (CW θ ea ad n g b r V) 40 [(0, .ref (ad 0)), (2, .int (nI j)), (3, .int (nI 0)), (4, .int ((k_bl (n 9) g (r 4 j) k).1)), (5, .int ((k_bl (n 9) g (r 4 j) k).2)), (6, .int (nI k))] []) (6) ?_ ?_ 0 (by omega)
  · refine z_iload C dX5_bestLamp_40 (show zlk _ 6 = some (.int (nI 6)) from rfl) ?_
    refine z_iconst C (v := nI 5) dX5_bestLamp_42 (by decide) ?_
    refine z_icmp_gtT C 96 dX5_bestLamp_43 (by decide) (by omega) (by omega) (by omega) ?_
    refine z_iload_n C dX5_bestLamp_96 rfl (show zlk _ 3 = some (.int (nI 0)) from rfl) ?_
    refine z_if_neN C 105 dX5_bestLamp_97 (by decide) (by decide) (fun h => absurd h (by decide)) (fun _ => ?_)
    refine z_iload C dX5_bestLamp_100 (show zlk _ 4 = some (.int ((k_bl (n 9) g (r 4 j) 6).1)) from rfl) ?_
    refine z_goto C 107 dX5_bestLamp_102 (by decide) ?_
    exact E _ _ _ _ (⟨rfl, rfl⟩) (rfl) dX5_bestLamp_107
  · intro k hk40 ih40
    refine z_iload C dX5_bestLamp_40 (show zlk _ 6 = some (.int (nI k)) from rfl) ?_
    refine z_iconst C (v := nI 5) dX5_bestLamp_42 (by decide) ?_
    refine z_icmp_gtF C 96 dX5_bestLamp_43 (by decide) (by omega) (by omega) (by omega) ?_
    refine z_aload_n C dX5_bestLamp_46 rfl (show zlk _ 0 = some (.ref (ad 0)) from rfl) ?_
    refine z_get C hinX5 0 cc_0 rfl 1 (by decide) (by decide +kernel) cg_0_1 dX5_bestLamp_47 ?_
    refine z_getN C (host := "GnatPortraits") hinX0 3 cc_3 rfl 5 (by decide) (by decide +kernel) cg_3_5 dX5_bestLamp_50 ?_
    refine z_iload_n C dX5_bestLamp_53 rfl (show zlk _ 2 = some (.int (nI j)) from rfl) ?_
    refine z_iald C (f := (r 4)) 15 ca_15 j rfl (by omega) (by decide) dX5_bestLamp_54 ?_
    refine z_aload_n C dX5_bestLamp_55 rfl (show zlk _ 0 = some (.ref (ad 0)) from rfl) ?_
    refine z_aload_n C dX5_bestLamp_56 rfl (show zlk _ 0 = some (.ref (ad 0)) from rfl) ?_
    refine z_get C hinX5 0 cc_0 rfl 1 (by decide) (by decide +kernel) cg_0_1 dX5_bestLamp_57 ?_
    refine z_getN C (host := "GnatPortraits") hinX0 3 cc_3 rfl 5 (by decide) (by decide +kernel) cg_3_5 dX5_bestLamp_60 ?_
    refine z_iload_n C dX5_bestLamp_63 rfl (show zlk _ 2 = some (.int (nI j)) from rfl) ?_
    refine z_iald C (f := (r 4)) 15 ca_15 j rfl (by omega) (by decide) dX5_bestLamp_64 ?_
    refine z_iload C dX5_bestLamp_65 (show zlk _ 6 = some (.int (nI k)) from rfl) ?_
    refine z_callVi C (As := [.int ((r 4) j), .int (nI k)]) (rest := [.int ((r 4) j)]) (c_X5_drawnBy l θ ea ad n g b r V ((r 4) j) (nI k) (h9)) gX5_bestLamp_X5_drawnBy rfl 2 (by decide +kernel) (by decide) (by decide) 0 rfl rfl rfl rfl rfl (Nat.le_of_ble_eq_true rfl) dX5_bestLamp_67 ?_
    rintro _ _ ⟨rfl, rfl⟩
    refine z_callSi C (As := [.int ((r 4) j), .int (k_dB (n 9) g ((r 4) j) (nI k))]) (rest := []) (c_X5_likeness l θ _ ((r 4) j) (k_dB (n 9) g ((r 4) j) (nI k))) gX5_bestLamp_X5_likeness rfl 2 (by decide +kernel) (by decide) (by decide) rfl rfl (Nat.le_of_ble_eq_true rfl) dX5_bestLamp_70 ?_
    rintro _ _ ⟨rfl, rfl⟩
    refine z_top (v' := .int (k_bi (n 9) g (r 4 j) k)) (rfl) ?_
    refine z_istore C [(7, .int (k_bi (n 9) g (r 4 j) k)), (0, .ref (ad 0)), (2, .int (nI j)), (3, .int (nI 0)), (4, .int ((k_bl (n 9) g (r 4 j) k).1)), (5, .int ((k_bl (n 9) g (r 4 j) k).2)), (6, .int (nI k))] dX5_bestLamp_73 (by decide) rfl ?_
    refine z_iload C dX5_bestLamp_75 (show zlk _ 7 = some (.int (k_bi (n 9) g (r 4 j) k)) from rfl) ?_
    refine z_iload C dX5_bestLamp_77 (show zlk _ 5 = some (.int ((k_bl (n 9) g (r 4 j) k).2)) from rfl) ?_
    refine z_icmp_le C 90 dX5_bestLamp_79 (by decide) (fun h79t_1 => ?_) (fun h79n_1 => ?_)
    · refine z_iincN C [(6, .int (nI (k + 1))), (7, .int (k_bi (n 9) g (r 4 j) k)), (0, .ref (ad 0)), (2, .int (nI j)), (3, .int (nI 0)), (4, .int ((k_bl (n 9) g (r 4 j) k).1)), (5, .int ((k_bl (n 9) g (r 4 j) k).2))] dX5_bestLamp_90 rfl (by decide) rfl ?_
      refine z_goto C 40 dX5_bestLamp_93 (by decide) ?_
      exact z_to (ih40) (rfl) (by simp [zlk, k_bl, h79t_1])
    · refine z_iload C dX5_bestLamp_82 (show zlk _ 7 = some (.int (k_bi (n 9) g (r 4 j) k)) from rfl) ?_
      refine z_istore C [(5, .int (k_bi (n 9) g (r 4 j) k)), (7, .int (k_bi (n 9) g (r 4 j) k)), (0, .ref (ad 0)), (2, .int (nI j)), (3, .int (nI 0)), (4, .int ((k_bl (n 9) g (r 4 j) k).1)), (6, .int (nI k))] dX5_bestLamp_84 (by decide) rfl ?_
      refine z_iload C dX5_bestLamp_86 (show zlk _ 6 = some (.int (nI k)) from rfl) ?_
      refine z_istore C [(4, .int (nI k)), (5, .int (k_bi (n 9) g (r 4 j) k)), (7, .int (k_bi (n 9) g (r 4 j) k)), (0, .ref (ad 0)), (2, .int (nI j)), (3, .int (nI 0)), (6, .int (nI k))] dX5_bestLamp_88 (by decide) rfl ?_
      refine z_iincN C [(6, .int (nI (k + 1))), (4, .int (nI k)), (5, .int (k_bi (n 9) g (r 4 j) k)), (7, .int (k_bi (n 9) g (r 4 j) k)), (0, .ref (ad 0)), (2, .int (nI j)), (3, .int (nI 0))] dX5_bestLamp_90 rfl (by decide) rfl ?_
      refine z_goto C 40 dX5_bestLamp_93 (by decide) ?_
      exact z_to (ih40) (rfl) (by simp [zlk, k_bl, h79n_1])

set_option maxHeartbeats 4000000 in
set_option maxRecDepth 100000 in
theorem c_X5_bestLamp_41 (l : Launch) (θ : zH) (ea : Nat → Nat → Nat) (ad : Nat → Nat) (n : Nat → Nat) (g : Nat → Int32) (b : Nat → Bool) (r : Nat → Nat → Int32) (V : Nat → Ev) (w : Int32) (j : Nat) (hW : n 11 ≤ 5) (hS : n 10 ≤ 6) (hw : okN w (n 11) = true) (hj : j < n 10) (h9 : n 9 ≤ 30) : cI l yX5_bestLamp wsX5_bestLamp 3 θ [.ref (ad 0), .int w, .int (nI j), .int (nI 1)] (CW θ ea ad n g b r V) (fun r0 Y => r0 = (k_bl (n 9) g (r 4 j) 6).2 ∧ Y = CW θ ea ad n g b r V) := by
  refine z_cI (by decide) rfl rfl (Nat.le_of_ble_eq_true rfl) (lv := [(0, .ref (ad 0)), (1, .int w), (2, .int (nI j)), (3, .int (nI 1))]) rfl (fun κ C E => ?_)
  have hinX0 : ∀ w ∈ wsX00, w ∈ wsX5_bestLamp := by decide +kernel
  have hinX5 : ∀ w ∈ wsX50, w ∈ wsX5_bestLamp := by decide +kernel
  refine z_aload_n C dX5_bestLamp_0 rfl (show zlk _ 0 = some (.ref (ad 0)) from rfl) ?_
  refine z_iload_n C dX5_bestLamp_1 rfl (show zlk _ 1 = some (.int w) from rfl) ?_
  refine z_callVi C (As := [.int w]) (rest := []) (c_X5_isWindow l θ ea ad n g b r V w (by omega)) gX5_bestLamp_X5_isWindow rfl 1 (by decide +kernel) (by decide) (by decide) 0 rfl rfl rfl rfl rfl (Nat.le_of_ble_eq_true rfl) dX5_bestLamp_2 ?_
  rintro _ _ ⟨rfl, rfl⟩
  refine z_if_eqB C 16 dX5_bestLamp_5 (by decide) (fun h => absurd h (by rw [hw]; decide)) (fun _ => ?_)
  refine z_aload_n C dX5_bestLamp_8 rfl (show zlk _ 0 = some (.ref (ad 0)) from rfl) ?_
  refine z_iload_n C dX5_bestLamp_9 rfl (show zlk _ 2 = some (.int (nI j)) from rfl) ?_
  refine z_callVi C (As := [.int (nI j)]) (rest := []) (c_X5_isSitter l θ ea ad n g b r V (nI j) (by omega)) gX5_bestLamp_X5_isSitter rfl 1 (by decide +kernel) (by decide) (by decide) 0 rfl rfl rfl rfl rfl (Nat.le_of_ble_eq_true rfl) dX5_bestLamp_10 ?_
  rintro _ _ ⟨rfl, rfl⟩
  refine z_if_neB C 19 dX5_bestLamp_13 (by decide) (fun _ => ?_) (fun h => absurd h (by rw [okN_lt hj (by omega)]; decide))
  refine z_iload_n C dX5_bestLamp_19 rfl (show zlk _ 3 = some (.int (nI 1)) from rfl) ?_
  refine z_if_ltN C 28 dX5_bestLamp_20 (by decide) (by omega) ?_
  refine z_iload_n C dX5_bestLamp_23 rfl (show zlk _ 3 = some (.int (nI 1)) from rfl) ?_
  refine z_iconst C (v := nI 1) dX5_bestLamp_24 (by decide) ?_
  refine z_icmp_leT C 31 dX5_bestLamp_25 (by decide) (by omega) (by omega) (by decide) ?_
  refine z_iconst C (v := (-1)) dX5_bestLamp_31 (by decide) ?_
  refine z_istore C [(4, .int (-1)), (0, .ref (ad 0)), (1, .int w), (2, .int (nI j)), (3, .int (nI 1))] dX5_bestLamp_32 (by decide) rfl ?_
  refine z_iconst C (v := (-1)) dX5_bestLamp_34 (by decide) ?_
  refine z_istore C [(5, .int (-1)), (4, .int (-1)), (0, .ref (ad 0)), (1, .int w), (2, .int (nI j)), (3, .int (nI 1))] dX5_bestLamp_35 (by decide) rfl ?_
  refine z_iconst C (v := nI 0) dX5_bestLamp_37 (by decide) ?_
  refine z_istore C [(6, .int (nI 0)), (5, .int (-1)), (4, .int (-1)), (0, .ref (ad 0)), (1, .int w), (2, .int (nI j)), (3, .int (nI 1))] dX5_bestLamp_38 (by decide) rfl ?_
  refine z_lv (lv' := [(0, .ref (ad 0)), (2, .int (nI j)), (3, .int (nI 1)), (4, .int ((k_bl (n 9) g (r 4 j) 0).1)), (5, .int ((k_bl (n 9) g (r 4 j) 0).2)), (6, .int (nI 0))]) rfl ?_
  refine z_up (fun k => Z κ (CW θ ea ad n g b r V) 40 [(0, .ref (ad 0)), (2, .int (nI j)), (3, .int (nI 1)), (4, .int ((k_bl (n 9) g (r 4 j) k).1)), (5, .int ((k_bl (n 9) g (r 4 j) k).2)), (6, .int (nI k))] []) (6) ?_ ?_ 0 (by omega)
  · refine z_iload C dX5_bestLamp_40 (show zlk _ 6 = some (.int (nI 6)) from rfl) ?_
    refine z_iconst C (v := nI 5) dX5_bestLamp_42 (by decide) ?_
    refine z_icmp_gtT C 96 dX5_bestLamp_43 (by decide) (by omega) (by omega) (by omega) ?_
    refine z_iload_n C dX5_bestLamp_96 rfl (show zlk _ 3 = some (.int (nI 1)) from rfl) ?_
    refine z_if_neN C 105 dX5_bestLamp_97 (by decide) (by decide) (fun _ => ?_) (fun h => absurd h (by decide))
    refine z_iload C dX5_bestLamp_105 (show zlk _ 5 = some (.int ((k_bl (n 9) g (r 4 j) 6).2)) from rfl) ?_
    exact E _ _ _ _ (⟨rfl, rfl⟩) (rfl) dX5_bestLamp_107
  · intro k hk40 ih40
    refine z_iload C dX5_bestLamp_40 (show zlk _ 6 = some (.int (nI k)) from rfl) ?_
    refine z_iconst C (v := nI 5) dX5_bestLamp_42 (by decide) ?_
    refine z_icmp_gtF C 96 dX5_bestLamp_43 (by decide) (by omega) (by omega) (by omega) ?_
    refine z_aload_n C dX5_bestLamp_46 rfl (show zlk _ 0 = some (.ref (ad 0)) from rfl) ?_
    refine z_get C hinX5 0 cc_0 rfl 1 (by decide) (by decide +kernel) cg_0_1 dX5_bestLamp_47 ?_
    refine z_getN C (host := "GnatPortraits") hinX0 3 cc_3 rfl 5 (by decide) (by decide +kernel) cg_3_5 dX5_bestLamp_50 ?_
    refine z_iload_n C dX5_bestLamp_53 rfl (show zlk _ 2 = some (.int (nI j)) from rfl) ?_
    refine z_iald C (f := (r 4)) 15 ca_15 j rfl (by omega) (by decide) dX5_bestLamp_54 ?_
    refine z_aload_n C dX5_bestLamp_55 rfl (show zlk _ 0 = some (.ref (ad 0)) from rfl) ?_
    refine z_aload_n C dX5_bestLamp_56 rfl (show zlk _ 0 = some (.ref (ad 0)) from rfl) ?_
    refine z_get C hinX5 0 cc_0 rfl 1 (by decide) (by decide +kernel) cg_0_1 dX5_bestLamp_57 ?_
    refine z_getN C (host := "GnatPortraits") hinX0 3 cc_3 rfl 5 (by decide) (by decide +kernel) cg_3_5 dX5_bestLamp_60 ?_
    refine z_iload_n C dX5_bestLamp_63 rfl (show zlk _ 2 = some (.int (nI j)) from rfl) ?_
    refine z_iald C (f := (r 4)) 15 ca_15 j rfl (by omega) (by decide) dX5_bestLamp_64 ?_
    refine z_iload C dX5_bestLamp_65 (show zlk _ 6 = some (.int (nI k)) from rfl) ?_
    refine z_callVi C (As := [.int ((r 4) j), .int (nI k)]) (rest := [.int ((r 4) j)]) (c_X5_drawnBy l θ ea ad n g b r V ((r 4) j) (nI k) (h9)) gX5_bestLamp_X5_drawnBy rfl 2 (by decide +kernel) (by decide) (by decide) 0 rfl rfl rfl rfl rfl (Nat.le_of_ble_eq_true rfl) dX5_bestLamp_67 ?_
    rintro _ _ ⟨rfl, rfl⟩
    refine z_callSi C (As := [.int ((r 4) j), .int (k_dB (n 9) g ((r 4) j) (nI k))]) (rest := []) (c_X5_likeness l θ _ ((r 4) j) (k_dB (n 9) g ((r 4) j) (nI k))) gX5_bestLamp_X5_likeness rfl 2 (by decide +kernel) (by decide) (by decide) rfl rfl (Nat.le_of_ble_eq_true rfl) dX5_bestLamp_70 ?_
    rintro _ _ ⟨rfl, rfl⟩
    refine z_top (v' := .int (k_bi (n 9) g (r 4 j) k)) (rfl) ?_
    refine z_istore C [(7, .int (k_bi (n 9) g (r 4 j) k)), (0, .ref (ad 0)), (2, .int (nI j)), (3, .int (nI 1)), (4, .int ((k_bl (n 9) g (r 4 j) k).1)), (5, .int ((k_bl (n 9) g (r 4 j) k).2)), (6, .int (nI k))] dX5_bestLamp_73 (by decide) rfl ?_
    refine z_iload C dX5_bestLamp_75 (show zlk _ 7 = some (.int (k_bi (n 9) g (r 4 j) k)) from rfl) ?_
    refine z_iload C dX5_bestLamp_77 (show zlk _ 5 = some (.int ((k_bl (n 9) g (r 4 j) k).2)) from rfl) ?_
    refine z_icmp_le C 90 dX5_bestLamp_79 (by decide) (fun h79t_1 => ?_) (fun h79n_1 => ?_)
    · refine z_iincN C [(6, .int (nI (k + 1))), (7, .int (k_bi (n 9) g (r 4 j) k)), (0, .ref (ad 0)), (2, .int (nI j)), (3, .int (nI 1)), (4, .int ((k_bl (n 9) g (r 4 j) k).1)), (5, .int ((k_bl (n 9) g (r 4 j) k).2))] dX5_bestLamp_90 rfl (by decide) rfl ?_
      refine z_goto C 40 dX5_bestLamp_93 (by decide) ?_
      exact z_to (ih40) (rfl) (by simp [zlk, k_bl, h79t_1])
    · refine z_iload C dX5_bestLamp_82 (show zlk _ 7 = some (.int (k_bi (n 9) g (r 4 j) k)) from rfl) ?_
      refine z_istore C [(5, .int (k_bi (n 9) g (r 4 j) k)), (7, .int (k_bi (n 9) g (r 4 j) k)), (0, .ref (ad 0)), (2, .int (nI j)), (3, .int (nI 1)), (4, .int ((k_bl (n 9) g (r 4 j) k).1)), (6, .int (nI k))] dX5_bestLamp_84 (by decide) rfl ?_
      refine z_iload C dX5_bestLamp_86 (show zlk _ 6 = some (.int (nI k)) from rfl) ?_
      refine z_istore C [(4, .int (nI k)), (5, .int (k_bi (n 9) g (r 4 j) k)), (7, .int (k_bi (n 9) g (r 4 j) k)), (0, .ref (ad 0)), (2, .int (nI j)), (3, .int (nI 1)), (6, .int (nI k))] dX5_bestLamp_88 (by decide) rfl ?_
      refine z_iincN C [(6, .int (nI (k + 1))), (4, .int (nI k)), (5, .int (k_bi (n 9) g (r 4 j) k)), (7, .int (k_bi (n 9) g (r 4 j) k)), (0, .ref (ad 0)), (2, .int (nI j)), (3, .int (nI 1))] dX5_bestLamp_90 rfl (by decide) rfl ?_
      refine z_goto C 40 dX5_bestLamp_93 (by decide) ?_
      exact z_to (ih40) (rfl) (by simp [zlk, k_bl, h79n_1])

def k_whI (o : Nat → Int32) (set : Int32) (s : Nat) (a : Nat × Int32 × Int32) : Nat → Nat × Int32 × Int32
  | 0 => a
  | k + 1 => if k_sh (o s) (m_by k) 5 = set then ((k_whI o set s a k).1 + 1, (k_whI o set s a k).2.1 ||| (nI 1 <<< (nI s &&& 31)), if (k_whI o set s a k).1 = 0 then nI (100 * s) + m_by k - (-3) else (k_whI o set s a k).2.2) else k_whI o set s a k
def k_whO (o : Nat → Int32) (set : Int32) : Nat → Nat × Int32 × Int32
  | 0 => (0, nI 0, (-1))
  | s + 1 => k_whI o set s (k_whO o set s) 12
theorem k_whI_le (o : Nat → Int32) (set : Int32) (s : Nat) (a : Nat × Int32 × Int32) : ∀ k, (k_whI o set s a k).1 ≤ a.1 + k
  | 0 => by simp [k_whI]
  | k + 1 => by
    have := k_whI_le o set s a k
    unfold k_whI
    split <;> (try dsimp only) <;> omega
theorem k_whO_le (o : Nat → Int32) (set : Int32) : ∀ s, (k_whO o set s).1 ≤ 12 * s
  | 0 => by simp [k_whO]
  | s + 1 => by
    have h1 := k_whO_le o set s
    have h2 := k_whI_le o set s (k_whO o set s) 12
    unfold k_whO
    omega
set_option maxHeartbeats 4000000 in
set_option maxRecDepth 100000 in
theorem c_X5_who_1 (l : Launch) (θ : zH) (ea : Nat → Nat → Nat) (ad : Nat → Nat) (n : Nat → Nat) (g : Nat → Int32) (b : Nat → Bool) (r : Nat → Nat → Int32) (V : Nat → Ev) (set x : Int32) (hs : okN set 1073741824 = false) : cI l yX5_who wsX5_who 2 θ [.ref (ad 0), .int set, .int x] (CW θ ea ad n g b r V) (fun r0 Y => r0 = (-1000000002) ∧ Y = CW θ ea ad n g b r V) := by
  refine z_cI (by decide) rfl rfl (Nat.le_of_ble_eq_true rfl) (lv := [(0, .ref (ad 0)), (1, .int set), (2, .int x)]) rfl (fun κ C E => ?_)
  refine z_iload_n C dX5_who_0 rfl (show zlk _ 1 = some (.int set) from rfl) ?_
  refine z_callSi C (As := [.int set]) (rest := []) (c_X5_isSetOfDots l θ _ set) gX5_who_X5_isSetOfDots rfl 1 (by decide +kernel) (by decide) (by decide) rfl rfl (Nat.le_of_ble_eq_true rfl) dX5_who_1 ?_
  rintro _ _ ⟨rfl, rfl⟩
  refine z_if_eqB C 16 dX5_who_4 (by decide) (fun _ => ?_) (fun h => absurd h (by rw [hs]; decide))
  refine z_ldc C (v := (-1000000002)) (by decide +kernel) dX5_who_16 ?_
  exact E _ _ _ _ (⟨rfl, rfl⟩) (rfl) dX5_who_18

set_option maxHeartbeats 4000000 in
set_option maxRecDepth 100000 in
theorem c_X5_who_2 (l : Launch) (θ : zH) (ea : Nat → Nat → Nat) (ad : Nat → Nat) (n : Nat → Nat) (g : Nat → Int32) (b : Nat → Bool) (r : Nat → Nat → Int32) (V : Nat → Ev) (set x : Int32) (hs : okN set 1073741824 = true) (hx : okN x 3 = false) : cI l yX5_who wsX5_who 2 θ [.ref (ad 0), .int set, .int x] (CW θ ea ad n g b r V) (fun r0 Y => r0 = (-1000000002) ∧ Y = CW θ ea ad n g b r V) := by
  refine z_cI (by decide) rfl rfl (Nat.le_of_ble_eq_true rfl) (lv := [(0, .ref (ad 0)), (1, .int set), (2, .int x)]) rfl (fun κ C E => ?_)
  refine z_iload_n C dX5_who_0 rfl (show zlk _ 1 = some (.int set) from rfl) ?_
  refine z_callSi C (As := [.int set]) (rest := []) (c_X5_isSetOfDots l θ _ set) gX5_who_X5_isSetOfDots rfl 1 (by decide +kernel) (by decide) (by decide) rfl rfl (Nat.le_of_ble_eq_true rfl) dX5_who_1 ?_
  rintro _ _ ⟨rfl, rfl⟩
  refine z_if_eqB C 16 dX5_who_4 (by decide) (fun h => absurd h (by rw [hs]; decide)) (fun _ => ?_)
  refine z_iload_n C dX5_who_7 rfl (show zlk _ 2 = some (.int x) from rfl) ?_
  refine z_if_lt C 16 dX5_who_8 (by decide) (fun h8t_1 => ?_) (fun h8n_1 => ?_)
  · refine z_ldc C (v := (-1000000002)) (by decide +kernel) dX5_who_16 ?_
    exact E _ _ _ _ (⟨rfl, rfl⟩) (rfl) dX5_who_18
  · refine z_iload_n C dX5_who_11 rfl (show zlk _ 2 = some (.int x) from rfl) ?_
    refine z_iconst C (v := nI 2) dX5_who_12 (by decide) ?_
    refine z_icmp_le C 19 dX5_who_13 (by decide) (fun h13n_2 => absurd h13n_2 (okN_nle (N := 2) hx h8n_1 (by decide))) (fun h13n_2 => ?_)
    refine z_ldc C (v := (-1000000002)) (by decide +kernel) dX5_who_16 ?_
    exact E _ _ _ _ (⟨rfl, rfl⟩) (rfl) dX5_who_18

set_option maxHeartbeats 4000000 in
set_option maxRecDepth 100000 in
theorem c_X5_who_30 (l : Launch) (θ : zH) (ea : Nat → Nat → Nat) (ad : Nat → Nat) (n : Nat → Nat) (g : Nat → Int32) (b : Nat → Bool) (r : Nat → Nat → Int32) (V : Nat → Ev) (set : Int32) (hS : n 10 ≤ 6) (hs : okN set 1073741824 = true) : cI l yX5_who wsX5_who 2 θ [.ref (ad 0), .int set, .int (nI 0)] (CW θ ea ad n g b r V) (fun r0 Y => r0 = nI (k_whO (r 4) set (n 10)).1 ∧ Y = CW θ ea ad n g b r V) := by
  refine z_cI (by decide) rfl rfl (Nat.le_of_ble_eq_true rfl) (lv := [(0, .ref (ad 0)), (1, .int set), (2, .int (nI 0))]) rfl (fun κ C E => ?_)
  have hinX0 : ∀ w ∈ wsX00, w ∈ wsX5_who := by decide +kernel
  have hinX5 : ∀ w ∈ wsX50, w ∈ wsX5_who := by decide +kernel
  refine z_iload_n C dX5_who_0 rfl (show zlk _ 1 = some (.int set) from rfl) ?_
  refine z_callSi C (As := [.int set]) (rest := []) (c_X5_isSetOfDots l θ _ set) gX5_who_X5_isSetOfDots rfl 1 (by decide +kernel) (by decide) (by decide) rfl rfl (Nat.le_of_ble_eq_true rfl) dX5_who_1 ?_
  rintro _ _ ⟨rfl, rfl⟩
  refine z_if_eqB C 16 dX5_who_4 (by decide) (fun h => absurd h (by rw [hs]; decide)) (fun _ => ?_)
  refine z_iload_n C dX5_who_7 rfl (show zlk _ 2 = some (.int (nI 0)) from rfl) ?_
  refine z_if_ltN C 16 dX5_who_8 (by decide) (by omega) ?_
  refine z_iload_n C dX5_who_11 rfl (show zlk _ 2 = some (.int (nI 0)) from rfl) ?_
  refine z_iconst C (v := nI 2) dX5_who_12 (by decide) ?_
  refine z_icmp_leT C 19 dX5_who_13 (by decide) (by omega) (by omega) (by decide) ?_
  refine z_iconst C (v := nI 0) dX5_who_19 (by decide) ?_
  refine z_istore_n C [(3, .int (nI 0)), (0, .ref (ad 0)), (1, .int set), (2, .int (nI 0))] dX5_who_20 rfl (by decide) rfl ?_
  refine z_iconst C (v := nI 0) dX5_who_21 (by decide) ?_
  refine z_istore C [(4, .int (nI 0)), (3, .int (nI 0)), (0, .ref (ad 0)), (1, .int set), (2, .int (nI 0))] dX5_who_22 (by decide) rfl ?_
  refine z_iconst C (v := (-1)) dX5_who_24 (by decide) ?_
  refine z_istore C [(5, .int (-1)), (4, .int (nI 0)), (3, .int (nI 0)), (0, .ref (ad 0)), (1, .int set), (2, .int (nI 0))] dX5_who_25 (by decide) rfl ?_
  refine z_iconst C (v := nI 0) dX5_who_27 (by decide) ?_
  refine z_istore C [(6, .int (nI 0)), (5, .int (-1)), (4, .int (nI 0)), (3, .int (nI 0)), (0, .ref (ad 0)), (1, .int set), (2, .int (nI 0))] dX5_who_28 (by decide) rfl ?_
  refine z_lv (lv' := [(0, .ref (ad 0)), (1, .int set), (2, .int (nI 0)), (3, .int (nI ((k_whO (r 4) set 0).1))), (4, .int ((k_whO (r 4) set 0).2.1)), (5, .int ((k_whO (r 4) set 0).2.2)), (6, .int (nI 0))]) rfl ?_
  refine z_up (fun s => Z κ (CW θ ea ad n g b r V) 30 [(0, .ref (ad 0)), (1, .int set), (2, .int (nI 0)), (3, .int (nI ((k_whO (r 4) set s).1))), (4, .int ((k_whO (r 4) set s).2.1)), (5, .int ((k_whO (r 4) set s).2.2)), (6, .int (nI s))] []) (n 10) ?_ ?_ 0 (by omega)
  · refine z_iload C dX5_who_30 (show zlk _ 6 = some (.int (nI (n 10))) from rfl) ?_
    refine z_aload_n C dX5_who_32 rfl (show zlk _ 0 = some (.ref (ad 0)) from rfl) ?_
    refine z_get C hinX5 0 cc_0 rfl 1 (by decide) (by decide +kernel) cg_0_1 dX5_who_33 ?_
    refine z_getN C (host := "GnatPortraits") hinX0 3 cc_3 rfl 2 (by decide) (by decide +kernel) cg_3_2 dX5_who_36 ?_
    refine z_icmp_geT C 113 dX5_who_39 (by decide) (by omega) (by omega) (by omega) ?_
    refine z_iload_n C dX5_who_113 rfl (show zlk _ 2 = some (.int (nI 0)) from rfl) ?_
    refine z_if_neN C 121 dX5_who_114 (by decide) (by decide) (fun h => absurd h (by decide)) (fun _ => ?_)
    refine z_iload_n C dX5_who_117 rfl (show zlk _ 3 = some (.int (nI ((k_whO (r 4) set (n 10)).1))) from rfl) ?_
    refine z_goto C 133 dX5_who_118 (by decide) ?_
    exact E _ _ _ _ (⟨rfl, rfl⟩) (rfl) dX5_who_133
  · intro s hk30 ih30
    refine z_iload C dX5_who_30 (show zlk _ 6 = some (.int (nI s)) from rfl) ?_
    refine z_aload_n C dX5_who_32 rfl (show zlk _ 0 = some (.ref (ad 0)) from rfl) ?_
    refine z_get C hinX5 0 cc_0 rfl 1 (by decide) (by decide +kernel) cg_0_1 dX5_who_33 ?_
    refine z_getN C (host := "GnatPortraits") hinX0 3 cc_3 rfl 2 (by decide) (by decide +kernel) cg_3_2 dX5_who_36 ?_
    refine z_icmp_geF C 113 dX5_who_39 (by decide) (by omega) (by omega) (by omega) ?_
    refine z_bipush C (v := (-3)) dX5_who_42 (by decide) ?_
    refine z_istore C [(7, .int (-3)), (0, .ref (ad 0)), (1, .int set), (2, .int (nI 0)), (3, .int (nI ((k_whO (r 4) set s).1))), (4, .int ((k_whO (r 4) set s).2.1)), (5, .int ((k_whO (r 4) set s).2.2)), (6, .int (nI s))] dX5_who_44 (by decide) rfl ?_
    refine z_lv (lv' := [(0, .ref (ad 0)), (1, .int set), (2, .int (nI 0)), (3, .int (nI ((k_whI (r 4) set s (k_whO (r 4) set s) 0).1))), (4, .int ((k_whI (r 4) set s (k_whO (r 4) set s) 0).2.1)), (5, .int ((k_whI (r 4) set s (k_whO (r 4) set s) 0).2.2)), (6, .int (nI s)), (7, .int (m_by 0))]) rfl ?_
    refine z_up (fun k => Z κ (CW θ ea ad n g b r V) 46 [(0, .ref (ad 0)), (1, .int set), (2, .int (nI 0)), (3, .int (nI ((k_whI (r 4) set s (k_whO (r 4) set s) k).1))), (4, .int ((k_whI (r 4) set s (k_whO (r 4) set s) k).2.1)), (5, .int ((k_whI (r 4) set s (k_whO (r 4) set s) k).2.2)), (6, .int (nI s)), (7, .int (m_by k))] []) (12) ?_ ?_ 0 (by omega)
    · refine z_iload C dX5_who_46 (show zlk _ 7 = some (.int (m_by 12)) from rfl) ?_
      refine z_bipush C (v := nI 8) dX5_who_48 (by decide) ?_
      refine z_icmp_gt C 107 dX5_who_50 (by decide) (fun h50t_1 => ?_) (fun h50t_1 => absurd h50t_1 (fun z => z (by decide)))
      refine z_iincN C [(6, .int (nI (s + 1))), (0, .ref (ad 0)), (1, .int set), (2, .int (nI 0)), (3, .int (nI ((k_whI (r 4) set s (k_whO (r 4) set s) 12).1))), (4, .int ((k_whI (r 4) set s (k_whO (r 4) set s) 12).2.1)), (5, .int ((k_whI (r 4) set s (k_whO (r 4) set s) 12).2.2)), (7, .int (m_by 12))] dX5_who_107 rfl (by decide) rfl ?_
      refine z_goto C 30 dX5_who_110 (by decide) ?_
      exact z_to (ih30) (rfl) (rfl)
    · intro k hk46 ih46
      refine z_iload C dX5_who_46 (show zlk _ 7 = some (.int (m_by k)) from rfl) ?_
      refine z_bipush C (v := nI 8) dX5_who_48 (by decide) ?_
      refine z_icmp_gt C 107 dX5_who_50 (by decide) (fun h50n_2 => absurd h50n_2 (m_by_lt hk46)) (fun h50n_2 => ?_)
      refine z_aload_n C dX5_who_53 rfl (show zlk _ 0 = some (.ref (ad 0)) from rfl) ?_
      refine z_get C hinX5 0 cc_0 rfl 1 (by decide) (by decide +kernel) cg_0_1 dX5_who_54 ?_
      refine z_getN C (host := "GnatPortraits") hinX0 3 cc_3 rfl 5 (by decide) (by decide +kernel) cg_3_5 dX5_who_57 ?_
      refine z_iload C dX5_who_60 (show zlk _ 6 = some (.int (nI s)) from rfl) ?_
      refine z_iald C (f := (r 4)) 15 ca_15 s rfl (by omega) (by decide) dX5_who_62 ?_
      refine z_iload C dX5_who_63 (show zlk _ 7 = some (.int (m_by k)) from rfl) ?_
      refine z_callSi C (As := [.int ((r 4) s), .int (m_by k)]) (rest := []) (c_X5_shifted l θ _ ((r 4) s) (m_by k)) gX5_who_X5_shifted rfl 2 (by decide +kernel) (by decide) (by decide) rfl rfl (Nat.le_of_ble_eq_true rfl) dX5_who_65 ?_
      rintro _ _ ⟨rfl, rfl⟩
      refine z_iload_n C dX5_who_68 rfl (show zlk _ 1 = some (.int set) from rfl) ?_
      refine z_icmp_ne C 101 dX5_who_69 (by decide) (fun h69t_3 => ?_) (fun h69n_3 => ?_)
      · refine z_iinc C [(7, .int (m_by k + 1)), (0, .ref (ad 0)), (1, .int set), (2, .int (nI 0)), (3, .int (nI ((k_whI (r 4) set s (k_whO (r 4) set s) k).1))), (4, .int ((k_whI (r 4) set s (k_whO (r 4) set s) k).2.1)), (5, .int ((k_whI (r 4) set s (k_whO (r 4) set s) k).2.2)), (6, .int (nI s))] dX5_who_101 rfl rfl (by decide) rfl ?_
        refine z_goto C 46 dX5_who_104 (by decide) ?_
        exact z_to (ih46) (rfl) (by simp [zlk, k_whI, m_by_s, h50n_2, h69t_3])
      · refine z_iload_n C dX5_who_72 rfl (show zlk _ 3 = some (.int (nI ((k_whI (r 4) set s (k_whO (r 4) set s) k).1))) from rfl) ?_
        refine z_if_neN C 89 dX5_who_73 (by decide) (by have h1 := k_whI_le (r 4) set s (k_whO (r 4) set s) k; have h2 := k_whO_le (r 4) set s; omega) (fun h73t_4 => ?_) (fun h73n_4 => ?_)
        · refine z_iincN C [(3, .int (nI ((k_whI (r 4) set s (k_whO (r 4) set s) k).1 + 1))), (0, .ref (ad 0)), (1, .int set), (2, .int (nI 0)), (4, .int ((k_whI (r 4) set s (k_whO (r 4) set s) k).2.1)), (5, .int ((k_whI (r 4) set s (k_whO (r 4) set s) k).2.2)), (6, .int (nI s)), (7, .int (m_by k))] dX5_who_89 rfl (by decide) rfl ?_
          refine z_iload C dX5_who_92 (show zlk _ 4 = some (.int ((k_whI (r 4) set s (k_whO (r 4) set s) k).2.1)) from rfl) ?_
          refine z_iconst C (v := nI 1) dX5_who_94 (by decide) ?_
          refine z_iload C dX5_who_95 (show zlk _ 6 = some (.int (nI s)) from rfl) ?_
          refine z_ishl C dX5_who_97 ?_
          refine z_ior C dX5_who_98 ?_
          refine z_istore C [(4, .int (((k_whI (r 4) set s (k_whO (r 4) set s) k).2.1) ||| ((nI 1) <<< ((nI s) &&& 31)))), (3, .int (nI ((k_whI (r 4) set s (k_whO (r 4) set s) k).1 + 1))), (0, .ref (ad 0)), (1, .int set), (2, .int (nI 0)), (5, .int ((k_whI (r 4) set s (k_whO (r 4) set s) k).2.2)), (6, .int (nI s)), (7, .int (m_by k))] dX5_who_99 (by decide) rfl ?_
          refine z_iinc C [(7, .int (m_by k + 1)), (4, .int (((k_whI (r 4) set s (k_whO (r 4) set s) k).2.1) ||| ((nI 1) <<< ((nI s) &&& 31)))), (3, .int (nI ((k_whI (r 4) set s (k_whO (r 4) set s) k).1 + 1))), (0, .ref (ad 0)), (1, .int set), (2, .int (nI 0)), (5, .int ((k_whI (r 4) set s (k_whO (r 4) set s) k).2.2)), (6, .int (nI s))] dX5_who_101 rfl rfl (by decide) rfl ?_
          refine z_goto C 46 dX5_who_104 (by decide) ?_
          exact z_to (ih46) (rfl) (by simp [zlk, k_whI, m_by_s, h50n_2, h69n_3, h73t_4])
        · refine z_bipush C (v := nI 100) dX5_who_76 (by decide) ?_
          refine z_iload C dX5_who_78 (show zlk _ 6 = some (.int (nI s)) from rfl) ?_
          refine z_imulN C dX5_who_80 ?_
          refine z_iload C dX5_who_81 (show zlk _ 7 = some (.int (m_by k)) from rfl) ?_
          refine z_iadd C dX5_who_83 ?_
          refine z_bipush C (v := (-3)) dX5_who_84 (by decide) ?_
          refine z_isub C dX5_who_86 ?_
          refine z_istore C [(5, .int (((nI (100 * s)) + (m_by k)) - (-3))), (0, .ref (ad 0)), (1, .int set), (2, .int (nI 0)), (3, .int (nI ((k_whI (r 4) set s (k_whO (r 4) set s) k).1))), (4, .int ((k_whI (r 4) set s (k_whO (r 4) set s) k).2.1)), (6, .int (nI s)), (7, .int (m_by k))] dX5_who_87 (by decide) rfl ?_
          refine z_iincN C [(3, .int (nI ((k_whI (r 4) set s (k_whO (r 4) set s) k).1 + 1))), (5, .int (((nI (100 * s)) + (m_by k)) - (-3))), (0, .ref (ad 0)), (1, .int set), (2, .int (nI 0)), (4, .int ((k_whI (r 4) set s (k_whO (r 4) set s) k).2.1)), (6, .int (nI s)), (7, .int (m_by k))] dX5_who_89 rfl (by decide) rfl ?_
          refine z_iload C dX5_who_92 (show zlk _ 4 = some (.int ((k_whI (r 4) set s (k_whO (r 4) set s) k).2.1)) from rfl) ?_
          refine z_iconst C (v := nI 1) dX5_who_94 (by decide) ?_
          refine z_iload C dX5_who_95 (show zlk _ 6 = some (.int (nI s)) from rfl) ?_
          refine z_ishl C dX5_who_97 ?_
          refine z_ior C dX5_who_98 ?_
          refine z_istore C [(4, .int (((k_whI (r 4) set s (k_whO (r 4) set s) k).2.1) ||| ((nI 1) <<< ((nI s) &&& 31)))), (3, .int (nI ((k_whI (r 4) set s (k_whO (r 4) set s) k).1 + 1))), (5, .int (((nI (100 * s)) + (m_by k)) - (-3))), (0, .ref (ad 0)), (1, .int set), (2, .int (nI 0)), (6, .int (nI s)), (7, .int (m_by k))] dX5_who_99 (by decide) rfl ?_
          refine z_iinc C [(7, .int (m_by k + 1)), (4, .int (((k_whI (r 4) set s (k_whO (r 4) set s) k).2.1) ||| ((nI 1) <<< ((nI s) &&& 31)))), (3, .int (nI ((k_whI (r 4) set s (k_whO (r 4) set s) k).1 + 1))), (5, .int (((nI (100 * s)) + (m_by k)) - (-3))), (0, .ref (ad 0)), (1, .int set), (2, .int (nI 0)), (6, .int (nI s))] dX5_who_101 rfl rfl (by decide) rfl ?_
          refine z_goto C 46 dX5_who_104 (by decide) ?_
          exact z_to (ih46) (rfl) (by simp [zlk, k_whI, m_by_s, h50n_2, h69n_3, h73n_4])

set_option maxHeartbeats 4000000 in
set_option maxRecDepth 100000 in
theorem c_X5_who_31 (l : Launch) (θ : zH) (ea : Nat → Nat → Nat) (ad : Nat → Nat) (n : Nat → Nat) (g : Nat → Int32) (b : Nat → Bool) (r : Nat → Nat → Int32) (V : Nat → Ev) (set : Int32) (hS : n 10 ≤ 6) (hs : okN set 1073741824 = true) : cI l yX5_who wsX5_who 2 θ [.ref (ad 0), .int set, .int (nI 1)] (CW θ ea ad n g b r V) (fun r0 Y => r0 = (k_whO (r 4) set (n 10)).2.1 ∧ Y = CW θ ea ad n g b r V) := by
  refine z_cI (by decide) rfl rfl (Nat.le_of_ble_eq_true rfl) (lv := [(0, .ref (ad 0)), (1, .int set), (2, .int (nI 1))]) rfl (fun κ C E => ?_)
  have hinX0 : ∀ w ∈ wsX00, w ∈ wsX5_who := by decide +kernel
  have hinX5 : ∀ w ∈ wsX50, w ∈ wsX5_who := by decide +kernel
  refine z_iload_n C dX5_who_0 rfl (show zlk _ 1 = some (.int set) from rfl) ?_
  refine z_callSi C (As := [.int set]) (rest := []) (c_X5_isSetOfDots l θ _ set) gX5_who_X5_isSetOfDots rfl 1 (by decide +kernel) (by decide) (by decide) rfl rfl (Nat.le_of_ble_eq_true rfl) dX5_who_1 ?_
  rintro _ _ ⟨rfl, rfl⟩
  refine z_if_eqB C 16 dX5_who_4 (by decide) (fun h => absurd h (by rw [hs]; decide)) (fun _ => ?_)
  refine z_iload_n C dX5_who_7 rfl (show zlk _ 2 = some (.int (nI 1)) from rfl) ?_
  refine z_if_ltN C 16 dX5_who_8 (by decide) (by omega) ?_
  refine z_iload_n C dX5_who_11 rfl (show zlk _ 2 = some (.int (nI 1)) from rfl) ?_
  refine z_iconst C (v := nI 2) dX5_who_12 (by decide) ?_
  refine z_icmp_leT C 19 dX5_who_13 (by decide) (by omega) (by omega) (by decide) ?_
  refine z_iconst C (v := nI 0) dX5_who_19 (by decide) ?_
  refine z_istore_n C [(3, .int (nI 0)), (0, .ref (ad 0)), (1, .int set), (2, .int (nI 1))] dX5_who_20 rfl (by decide) rfl ?_
  refine z_iconst C (v := nI 0) dX5_who_21 (by decide) ?_
  refine z_istore C [(4, .int (nI 0)), (3, .int (nI 0)), (0, .ref (ad 0)), (1, .int set), (2, .int (nI 1))] dX5_who_22 (by decide) rfl ?_
  refine z_iconst C (v := (-1)) dX5_who_24 (by decide) ?_
  refine z_istore C [(5, .int (-1)), (4, .int (nI 0)), (3, .int (nI 0)), (0, .ref (ad 0)), (1, .int set), (2, .int (nI 1))] dX5_who_25 (by decide) rfl ?_
  refine z_iconst C (v := nI 0) dX5_who_27 (by decide) ?_
  refine z_istore C [(6, .int (nI 0)), (5, .int (-1)), (4, .int (nI 0)), (3, .int (nI 0)), (0, .ref (ad 0)), (1, .int set), (2, .int (nI 1))] dX5_who_28 (by decide) rfl ?_
  refine z_lv (lv' := [(0, .ref (ad 0)), (1, .int set), (2, .int (nI 1)), (3, .int (nI ((k_whO (r 4) set 0).1))), (4, .int ((k_whO (r 4) set 0).2.1)), (5, .int ((k_whO (r 4) set 0).2.2)), (6, .int (nI 0))]) rfl ?_
  refine z_up (fun s => Z κ (CW θ ea ad n g b r V) 30 [(0, .ref (ad 0)), (1, .int set), (2, .int (nI 1)), (3, .int (nI ((k_whO (r 4) set s).1))), (4, .int ((k_whO (r 4) set s).2.1)), (5, .int ((k_whO (r 4) set s).2.2)), (6, .int (nI s))] []) (n 10) ?_ ?_ 0 (by omega)
  · refine z_iload C dX5_who_30 (show zlk _ 6 = some (.int (nI (n 10))) from rfl) ?_
    refine z_aload_n C dX5_who_32 rfl (show zlk _ 0 = some (.ref (ad 0)) from rfl) ?_
    refine z_get C hinX5 0 cc_0 rfl 1 (by decide) (by decide +kernel) cg_0_1 dX5_who_33 ?_
    refine z_getN C (host := "GnatPortraits") hinX0 3 cc_3 rfl 2 (by decide) (by decide +kernel) cg_3_2 dX5_who_36 ?_
    refine z_icmp_geT C 113 dX5_who_39 (by decide) (by omega) (by omega) (by omega) ?_
    refine z_iload_n C dX5_who_113 rfl (show zlk _ 2 = some (.int (nI 1)) from rfl) ?_
    refine z_if_neN C 121 dX5_who_114 (by decide) (by decide) (fun _ => ?_) (fun h => absurd h (by decide))
    refine z_iload_n C dX5_who_121 rfl (show zlk _ 2 = some (.int (nI 1)) from rfl) ?_
    refine z_iconst C (v := nI 1) dX5_who_122 (by decide) ?_
    refine z_icmp_neF C 131 dX5_who_123 (by decide) (by omega) (by omega) (by decide) ?_
    refine z_iload C dX5_who_126 (show zlk _ 4 = some (.int ((k_whO (r 4) set (n 10)).2.1)) from rfl) ?_
    refine z_goto C 133 dX5_who_128 (by decide) ?_
    exact E _ _ _ _ (⟨rfl, rfl⟩) (rfl) dX5_who_133
  · intro s hk30 ih30
    refine z_iload C dX5_who_30 (show zlk _ 6 = some (.int (nI s)) from rfl) ?_
    refine z_aload_n C dX5_who_32 rfl (show zlk _ 0 = some (.ref (ad 0)) from rfl) ?_
    refine z_get C hinX5 0 cc_0 rfl 1 (by decide) (by decide +kernel) cg_0_1 dX5_who_33 ?_
    refine z_getN C (host := "GnatPortraits") hinX0 3 cc_3 rfl 2 (by decide) (by decide +kernel) cg_3_2 dX5_who_36 ?_
    refine z_icmp_geF C 113 dX5_who_39 (by decide) (by omega) (by omega) (by omega) ?_
    refine z_bipush C (v := (-3)) dX5_who_42 (by decide) ?_
    refine z_istore C [(7, .int (-3)), (0, .ref (ad 0)), (1, .int set), (2, .int (nI 1)), (3, .int (nI ((k_whO (r 4) set s).1))), (4, .int ((k_whO (r 4) set s).2.1)), (5, .int ((k_whO (r 4) set s).2.2)), (6, .int (nI s))] dX5_who_44 (by decide) rfl ?_
    refine z_lv (lv' := [(0, .ref (ad 0)), (1, .int set), (2, .int (nI 1)), (3, .int (nI ((k_whI (r 4) set s (k_whO (r 4) set s) 0).1))), (4, .int ((k_whI (r 4) set s (k_whO (r 4) set s) 0).2.1)), (5, .int ((k_whI (r 4) set s (k_whO (r 4) set s) 0).2.2)), (6, .int (nI s)), (7, .int (m_by 0))]) rfl ?_
    refine z_up (fun k => Z κ (CW θ ea ad n g b r V) 46 [(0, .ref (ad 0)), (1, .int set), (2, .int (nI 1)), (3, .int (nI ((k_whI (r 4) set s (k_whO (r 4) set s) k).1))), (4, .int ((k_whI (r 4) set s (k_whO (r 4) set s) k).2.1)), (5, .int ((k_whI (r 4) set s (k_whO (r 4) set s) k).2.2)), (6, .int (nI s)), (7, .int (m_by k))] []) (12) ?_ ?_ 0 (by omega)
    · refine z_iload C dX5_who_46 (show zlk _ 7 = some (.int (m_by 12)) from rfl) ?_
      refine z_bipush C (v := nI 8) dX5_who_48 (by decide) ?_
      refine z_icmp_gt C 107 dX5_who_50 (by decide) (fun h50t_1 => ?_) (fun h50t_1 => absurd h50t_1 (fun z => z (by decide)))
      refine z_iincN C [(6, .int (nI (s + 1))), (0, .ref (ad 0)), (1, .int set), (2, .int (nI 1)), (3, .int (nI ((k_whI (r 4) set s (k_whO (r 4) set s) 12).1))), (4, .int ((k_whI (r 4) set s (k_whO (r 4) set s) 12).2.1)), (5, .int ((k_whI (r 4) set s (k_whO (r 4) set s) 12).2.2)), (7, .int (m_by 12))] dX5_who_107 rfl (by decide) rfl ?_
      refine z_goto C 30 dX5_who_110 (by decide) ?_
      exact z_to (ih30) (rfl) (rfl)
    · intro k hk46 ih46
      refine z_iload C dX5_who_46 (show zlk _ 7 = some (.int (m_by k)) from rfl) ?_
      refine z_bipush C (v := nI 8) dX5_who_48 (by decide) ?_
      refine z_icmp_gt C 107 dX5_who_50 (by decide) (fun h50n_2 => absurd h50n_2 (m_by_lt hk46)) (fun h50n_2 => ?_)
      refine z_aload_n C dX5_who_53 rfl (show zlk _ 0 = some (.ref (ad 0)) from rfl) ?_
      refine z_get C hinX5 0 cc_0 rfl 1 (by decide) (by decide +kernel) cg_0_1 dX5_who_54 ?_
      refine z_getN C (host := "GnatPortraits") hinX0 3 cc_3 rfl 5 (by decide) (by decide +kernel) cg_3_5 dX5_who_57 ?_
      refine z_iload C dX5_who_60 (show zlk _ 6 = some (.int (nI s)) from rfl) ?_
      refine z_iald C (f := (r 4)) 15 ca_15 s rfl (by omega) (by decide) dX5_who_62 ?_
      refine z_iload C dX5_who_63 (show zlk _ 7 = some (.int (m_by k)) from rfl) ?_
      refine z_callSi C (As := [.int ((r 4) s), .int (m_by k)]) (rest := []) (c_X5_shifted l θ _ ((r 4) s) (m_by k)) gX5_who_X5_shifted rfl 2 (by decide +kernel) (by decide) (by decide) rfl rfl (Nat.le_of_ble_eq_true rfl) dX5_who_65 ?_
      rintro _ _ ⟨rfl, rfl⟩
      refine z_iload_n C dX5_who_68 rfl (show zlk _ 1 = some (.int set) from rfl) ?_
      refine z_icmp_ne C 101 dX5_who_69 (by decide) (fun h69t_3 => ?_) (fun h69n_3 => ?_)
      · refine z_iinc C [(7, .int (m_by k + 1)), (0, .ref (ad 0)), (1, .int set), (2, .int (nI 1)), (3, .int (nI ((k_whI (r 4) set s (k_whO (r 4) set s) k).1))), (4, .int ((k_whI (r 4) set s (k_whO (r 4) set s) k).2.1)), (5, .int ((k_whI (r 4) set s (k_whO (r 4) set s) k).2.2)), (6, .int (nI s))] dX5_who_101 rfl rfl (by decide) rfl ?_
        refine z_goto C 46 dX5_who_104 (by decide) ?_
        exact z_to (ih46) (rfl) (by simp [zlk, k_whI, m_by_s, h50n_2, h69t_3])
      · refine z_iload_n C dX5_who_72 rfl (show zlk _ 3 = some (.int (nI ((k_whI (r 4) set s (k_whO (r 4) set s) k).1))) from rfl) ?_
        refine z_if_neN C 89 dX5_who_73 (by decide) (by have h1 := k_whI_le (r 4) set s (k_whO (r 4) set s) k; have h2 := k_whO_le (r 4) set s; omega) (fun h73t_4 => ?_) (fun h73n_4 => ?_)
        · refine z_iincN C [(3, .int (nI ((k_whI (r 4) set s (k_whO (r 4) set s) k).1 + 1))), (0, .ref (ad 0)), (1, .int set), (2, .int (nI 1)), (4, .int ((k_whI (r 4) set s (k_whO (r 4) set s) k).2.1)), (5, .int ((k_whI (r 4) set s (k_whO (r 4) set s) k).2.2)), (6, .int (nI s)), (7, .int (m_by k))] dX5_who_89 rfl (by decide) rfl ?_
          refine z_iload C dX5_who_92 (show zlk _ 4 = some (.int ((k_whI (r 4) set s (k_whO (r 4) set s) k).2.1)) from rfl) ?_
          refine z_iconst C (v := nI 1) dX5_who_94 (by decide) ?_
          refine z_iload C dX5_who_95 (show zlk _ 6 = some (.int (nI s)) from rfl) ?_
          refine z_ishl C dX5_who_97 ?_
          refine z_ior C dX5_who_98 ?_
          refine z_istore C [(4, .int (((k_whI (r 4) set s (k_whO (r 4) set s) k).2.1) ||| ((nI 1) <<< ((nI s) &&& 31)))), (3, .int (nI ((k_whI (r 4) set s (k_whO (r 4) set s) k).1 + 1))), (0, .ref (ad 0)), (1, .int set), (2, .int (nI 1)), (5, .int ((k_whI (r 4) set s (k_whO (r 4) set s) k).2.2)), (6, .int (nI s)), (7, .int (m_by k))] dX5_who_99 (by decide) rfl ?_
          refine z_iinc C [(7, .int (m_by k + 1)), (4, .int (((k_whI (r 4) set s (k_whO (r 4) set s) k).2.1) ||| ((nI 1) <<< ((nI s) &&& 31)))), (3, .int (nI ((k_whI (r 4) set s (k_whO (r 4) set s) k).1 + 1))), (0, .ref (ad 0)), (1, .int set), (2, .int (nI 1)), (5, .int ((k_whI (r 4) set s (k_whO (r 4) set s) k).2.2)), (6, .int (nI s))] dX5_who_101 rfl rfl (by decide) rfl ?_
          refine z_goto C 46 dX5_who_104 (by decide) ?_
          exact z_to (ih46) (rfl) (by simp [zlk, k_whI, m_by_s, h50n_2, h69n_3, h73t_4])
        · refine z_bipush C (v := nI 100) dX5_who_76 (by decide) ?_
          refine z_iload C dX5_who_78 (show zlk _ 6 = some (.int (nI s)) from rfl) ?_
          refine z_imulN C dX5_who_80 ?_
          refine z_iload C dX5_who_81 (show zlk _ 7 = some (.int (m_by k)) from rfl) ?_
          refine z_iadd C dX5_who_83 ?_
          refine z_bipush C (v := (-3)) dX5_who_84 (by decide) ?_
          refine z_isub C dX5_who_86 ?_
          refine z_istore C [(5, .int (((nI (100 * s)) + (m_by k)) - (-3))), (0, .ref (ad 0)), (1, .int set), (2, .int (nI 1)), (3, .int (nI ((k_whI (r 4) set s (k_whO (r 4) set s) k).1))), (4, .int ((k_whI (r 4) set s (k_whO (r 4) set s) k).2.1)), (6, .int (nI s)), (7, .int (m_by k))] dX5_who_87 (by decide) rfl ?_
          refine z_iincN C [(3, .int (nI ((k_whI (r 4) set s (k_whO (r 4) set s) k).1 + 1))), (5, .int (((nI (100 * s)) + (m_by k)) - (-3))), (0, .ref (ad 0)), (1, .int set), (2, .int (nI 1)), (4, .int ((k_whI (r 4) set s (k_whO (r 4) set s) k).2.1)), (6, .int (nI s)), (7, .int (m_by k))] dX5_who_89 rfl (by decide) rfl ?_
          refine z_iload C dX5_who_92 (show zlk _ 4 = some (.int ((k_whI (r 4) set s (k_whO (r 4) set s) k).2.1)) from rfl) ?_
          refine z_iconst C (v := nI 1) dX5_who_94 (by decide) ?_
          refine z_iload C dX5_who_95 (show zlk _ 6 = some (.int (nI s)) from rfl) ?_
          refine z_ishl C dX5_who_97 ?_
          refine z_ior C dX5_who_98 ?_
          refine z_istore C [(4, .int (((k_whI (r 4) set s (k_whO (r 4) set s) k).2.1) ||| ((nI 1) <<< ((nI s) &&& 31)))), (3, .int (nI ((k_whI (r 4) set s (k_whO (r 4) set s) k).1 + 1))), (5, .int (((nI (100 * s)) + (m_by k)) - (-3))), (0, .ref (ad 0)), (1, .int set), (2, .int (nI 1)), (6, .int (nI s)), (7, .int (m_by k))] dX5_who_99 (by decide) rfl ?_
          refine z_iinc C [(7, .int (m_by k + 1)), (4, .int (((k_whI (r 4) set s (k_whO (r 4) set s) k).2.1) ||| ((nI 1) <<< ((nI s) &&& 31)))), (3, .int (nI ((k_whI (r 4) set s (k_whO (r 4) set s) k).1 + 1))), (5, .int (((nI (100 * s)) + (m_by k)) - (-3))), (0, .ref (ad 0)), (1, .int set), (2, .int (nI 1)), (6, .int (nI s))] dX5_who_101 rfl rfl (by decide) rfl ?_
          refine z_goto C 46 dX5_who_104 (by decide) ?_
          exact z_to (ih46) (rfl) (by simp [zlk, k_whI, m_by_s, h50n_2, h69n_3, h73n_4])

set_option maxHeartbeats 4000000 in
set_option maxRecDepth 100000 in
theorem c_X5_who_32 (l : Launch) (θ : zH) (ea : Nat → Nat → Nat) (ad : Nat → Nat) (n : Nat → Nat) (g : Nat → Int32) (b : Nat → Bool) (r : Nat → Nat → Int32) (V : Nat → Ev) (set : Int32) (hS : n 10 ≤ 6) (hs : okN set 1073741824 = true) : cI l yX5_who wsX5_who 2 θ [.ref (ad 0), .int set, .int (nI 2)] (CW θ ea ad n g b r V) (fun r0 Y => r0 = (k_whO (r 4) set (n 10)).2.2 ∧ Y = CW θ ea ad n g b r V) := by
  refine z_cI (by decide) rfl rfl (Nat.le_of_ble_eq_true rfl) (lv := [(0, .ref (ad 0)), (1, .int set), (2, .int (nI 2))]) rfl (fun κ C E => ?_)
  have hinX0 : ∀ w ∈ wsX00, w ∈ wsX5_who := by decide +kernel
  have hinX5 : ∀ w ∈ wsX50, w ∈ wsX5_who := by decide +kernel
  refine z_iload_n C dX5_who_0 rfl (show zlk _ 1 = some (.int set) from rfl) ?_
  refine z_callSi C (As := [.int set]) (rest := []) (c_X5_isSetOfDots l θ _ set) gX5_who_X5_isSetOfDots rfl 1 (by decide +kernel) (by decide) (by decide) rfl rfl (Nat.le_of_ble_eq_true rfl) dX5_who_1 ?_
  rintro _ _ ⟨rfl, rfl⟩
  refine z_if_eqB C 16 dX5_who_4 (by decide) (fun h => absurd h (by rw [hs]; decide)) (fun _ => ?_)
  refine z_iload_n C dX5_who_7 rfl (show zlk _ 2 = some (.int (nI 2)) from rfl) ?_
  refine z_if_ltN C 16 dX5_who_8 (by decide) (by omega) ?_
  refine z_iload_n C dX5_who_11 rfl (show zlk _ 2 = some (.int (nI 2)) from rfl) ?_
  refine z_iconst C (v := nI 2) dX5_who_12 (by decide) ?_
  refine z_icmp_leT C 19 dX5_who_13 (by decide) (by omega) (by omega) (by decide) ?_
  refine z_iconst C (v := nI 0) dX5_who_19 (by decide) ?_
  refine z_istore_n C [(3, .int (nI 0)), (0, .ref (ad 0)), (1, .int set), (2, .int (nI 2))] dX5_who_20 rfl (by decide) rfl ?_
  refine z_iconst C (v := nI 0) dX5_who_21 (by decide) ?_
  refine z_istore C [(4, .int (nI 0)), (3, .int (nI 0)), (0, .ref (ad 0)), (1, .int set), (2, .int (nI 2))] dX5_who_22 (by decide) rfl ?_
  refine z_iconst C (v := (-1)) dX5_who_24 (by decide) ?_
  refine z_istore C [(5, .int (-1)), (4, .int (nI 0)), (3, .int (nI 0)), (0, .ref (ad 0)), (1, .int set), (2, .int (nI 2))] dX5_who_25 (by decide) rfl ?_
  refine z_iconst C (v := nI 0) dX5_who_27 (by decide) ?_
  refine z_istore C [(6, .int (nI 0)), (5, .int (-1)), (4, .int (nI 0)), (3, .int (nI 0)), (0, .ref (ad 0)), (1, .int set), (2, .int (nI 2))] dX5_who_28 (by decide) rfl ?_
  refine z_lv (lv' := [(0, .ref (ad 0)), (1, .int set), (2, .int (nI 2)), (3, .int (nI ((k_whO (r 4) set 0).1))), (4, .int ((k_whO (r 4) set 0).2.1)), (5, .int ((k_whO (r 4) set 0).2.2)), (6, .int (nI 0))]) rfl ?_
  refine z_up (fun s => Z κ (CW θ ea ad n g b r V) 30 [(0, .ref (ad 0)), (1, .int set), (2, .int (nI 2)), (3, .int (nI ((k_whO (r 4) set s).1))), (4, .int ((k_whO (r 4) set s).2.1)), (5, .int ((k_whO (r 4) set s).2.2)), (6, .int (nI s))] []) (n 10) ?_ ?_ 0 (by omega)
  · refine z_iload C dX5_who_30 (show zlk _ 6 = some (.int (nI (n 10))) from rfl) ?_
    refine z_aload_n C dX5_who_32 rfl (show zlk _ 0 = some (.ref (ad 0)) from rfl) ?_
    refine z_get C hinX5 0 cc_0 rfl 1 (by decide) (by decide +kernel) cg_0_1 dX5_who_33 ?_
    refine z_getN C (host := "GnatPortraits") hinX0 3 cc_3 rfl 2 (by decide) (by decide +kernel) cg_3_2 dX5_who_36 ?_
    refine z_icmp_geT C 113 dX5_who_39 (by decide) (by omega) (by omega) (by omega) ?_
    refine z_iload_n C dX5_who_113 rfl (show zlk _ 2 = some (.int (nI 2)) from rfl) ?_
    refine z_if_neN C 121 dX5_who_114 (by decide) (by decide) (fun _ => ?_) (fun h => absurd h (by decide))
    refine z_iload_n C dX5_who_121 rfl (show zlk _ 2 = some (.int (nI 2)) from rfl) ?_
    refine z_iconst C (v := nI 1) dX5_who_122 (by decide) ?_
    refine z_icmp_neT C 131 dX5_who_123 (by decide) (by omega) (by omega) (by decide) ?_
    refine z_iload C dX5_who_131 (show zlk _ 5 = some (.int ((k_whO (r 4) set (n 10)).2.2)) from rfl) ?_
    exact E _ _ _ _ (⟨rfl, rfl⟩) (rfl) dX5_who_133
  · intro s hk30 ih30
    refine z_iload C dX5_who_30 (show zlk _ 6 = some (.int (nI s)) from rfl) ?_
    refine z_aload_n C dX5_who_32 rfl (show zlk _ 0 = some (.ref (ad 0)) from rfl) ?_
    refine z_get C hinX5 0 cc_0 rfl 1 (by decide) (by decide +kernel) cg_0_1 dX5_who_33 ?_
    refine z_getN C (host := "GnatPortraits") hinX0 3 cc_3 rfl 2 (by decide) (by decide +kernel) cg_3_2 dX5_who_36 ?_
    refine z_icmp_geF C 113 dX5_who_39 (by decide) (by omega) (by omega) (by omega) ?_
    refine z_bipush C (v := (-3)) dX5_who_42 (by decide) ?_
    refine z_istore C [(7, .int (-3)), (0, .ref (ad 0)), (1, .int set), (2, .int (nI 2)), (3, .int (nI ((k_whO (r 4) set s).1))), (4, .int ((k_whO (r 4) set s).2.1)), (5, .int ((k_whO (r 4) set s).2.2)), (6, .int (nI s))] dX5_who_44 (by decide) rfl ?_
    refine z_lv (lv' := [(0, .ref (ad 0)), (1, .int set), (2, .int (nI 2)), (3, .int (nI ((k_whI (r 4) set s (k_whO (r 4) set s) 0).1))), (4, .int ((k_whI (r 4) set s (k_whO (r 4) set s) 0).2.1)), (5, .int ((k_whI (r 4) set s (k_whO (r 4) set s) 0).2.2)), (6, .int (nI s)), (7, .int (m_by 0))]) rfl ?_
    refine z_up (fun k => Z κ (CW θ ea ad n g b r V) 46 [(0, .ref (ad 0)), (1, .int set), (2, .int (nI 2)), (3, .int (nI ((k_whI (r 4) set s (k_whO (r 4) set s) k).1))), (4, .int ((k_whI (r 4) set s (k_whO (r 4) set s) k).2.1)), (5, .int ((k_whI (r 4) set s (k_whO (r 4) set s) k).2.2)), (6, .int (nI s)), (7, .int (m_by k))] []) (12) ?_ ?_ 0 (by omega)
    · refine z_iload C dX5_who_46 (show zlk _ 7 = some (.int (m_by 12)) from rfl) ?_
      refine z_bipush C (v := nI 8) dX5_who_48 (by decide) ?_
      refine z_icmp_gt C 107 dX5_who_50 (by decide) (fun h50t_1 => ?_) (fun h50t_1 => absurd h50t_1 (fun z => z (by decide)))
      refine z_iincN C [(6, .int (nI (s + 1))), (0, .ref (ad 0)), (1, .int set), (2, .int (nI 2)), (3, .int (nI ((k_whI (r 4) set s (k_whO (r 4) set s) 12).1))), (4, .int ((k_whI (r 4) set s (k_whO (r 4) set s) 12).2.1)), (5, .int ((k_whI (r 4) set s (k_whO (r 4) set s) 12).2.2)), (7, .int (m_by 12))] dX5_who_107 rfl (by decide) rfl ?_
      refine z_goto C 30 dX5_who_110 (by decide) ?_
      exact z_to (ih30) (rfl) (rfl)
    · intro k hk46 ih46
      refine z_iload C dX5_who_46 (show zlk _ 7 = some (.int (m_by k)) from rfl) ?_
      refine z_bipush C (v := nI 8) dX5_who_48 (by decide) ?_
      refine z_icmp_gt C 107 dX5_who_50 (by decide) (fun h50n_2 => absurd h50n_2 (m_by_lt hk46)) (fun h50n_2 => ?_)
      refine z_aload_n C dX5_who_53 rfl (show zlk _ 0 = some (.ref (ad 0)) from rfl) ?_
      refine z_get C hinX5 0 cc_0 rfl 1 (by decide) (by decide +kernel) cg_0_1 dX5_who_54 ?_
      refine z_getN C (host := "GnatPortraits") hinX0 3 cc_3 rfl 5 (by decide) (by decide +kernel) cg_3_5 dX5_who_57 ?_
      refine z_iload C dX5_who_60 (show zlk _ 6 = some (.int (nI s)) from rfl) ?_
      refine z_iald C (f := (r 4)) 15 ca_15 s rfl (by omega) (by decide) dX5_who_62 ?_
      refine z_iload C dX5_who_63 (show zlk _ 7 = some (.int (m_by k)) from rfl) ?_
      refine z_callSi C (As := [.int ((r 4) s), .int (m_by k)]) (rest := []) (c_X5_shifted l θ _ ((r 4) s) (m_by k)) gX5_who_X5_shifted rfl 2 (by decide +kernel) (by decide) (by decide) rfl rfl (Nat.le_of_ble_eq_true rfl) dX5_who_65 ?_
      rintro _ _ ⟨rfl, rfl⟩
      refine z_iload_n C dX5_who_68 rfl (show zlk _ 1 = some (.int set) from rfl) ?_
      refine z_icmp_ne C 101 dX5_who_69 (by decide) (fun h69t_3 => ?_) (fun h69n_3 => ?_)
      · refine z_iinc C [(7, .int (m_by k + 1)), (0, .ref (ad 0)), (1, .int set), (2, .int (nI 2)), (3, .int (nI ((k_whI (r 4) set s (k_whO (r 4) set s) k).1))), (4, .int ((k_whI (r 4) set s (k_whO (r 4) set s) k).2.1)), (5, .int ((k_whI (r 4) set s (k_whO (r 4) set s) k).2.2)), (6, .int (nI s))] dX5_who_101 rfl rfl (by decide) rfl ?_
        refine z_goto C 46 dX5_who_104 (by decide) ?_
        exact z_to (ih46) (rfl) (by simp [zlk, k_whI, m_by_s, h50n_2, h69t_3])
      · refine z_iload_n C dX5_who_72 rfl (show zlk _ 3 = some (.int (nI ((k_whI (r 4) set s (k_whO (r 4) set s) k).1))) from rfl) ?_
        refine z_if_neN C 89 dX5_who_73 (by decide) (by have h1 := k_whI_le (r 4) set s (k_whO (r 4) set s) k; have h2 := k_whO_le (r 4) set s; omega) (fun h73t_4 => ?_) (fun h73n_4 => ?_)
        · refine z_iincN C [(3, .int (nI ((k_whI (r 4) set s (k_whO (r 4) set s) k).1 + 1))), (0, .ref (ad 0)), (1, .int set), (2, .int (nI 2)), (4, .int ((k_whI (r 4) set s (k_whO (r 4) set s) k).2.1)), (5, .int ((k_whI (r 4) set s (k_whO (r 4) set s) k).2.2)), (6, .int (nI s)), (7, .int (m_by k))] dX5_who_89 rfl (by decide) rfl ?_
          refine z_iload C dX5_who_92 (show zlk _ 4 = some (.int ((k_whI (r 4) set s (k_whO (r 4) set s) k).2.1)) from rfl) ?_
          refine z_iconst C (v := nI 1) dX5_who_94 (by decide) ?_
          refine z_iload C dX5_who_95 (show zlk _ 6 = some (.int (nI s)) from rfl) ?_
          refine z_ishl C dX5_who_97 ?_
          refine z_ior C dX5_who_98 ?_
          refine z_istore C [(4, .int (((k_whI (r 4) set s (k_whO (r 4) set s) k).2.1) ||| ((nI 1) <<< ((nI s) &&& 31)))), (3, .int (nI ((k_whI (r 4) set s (k_whO (r 4) set s) k).1 + 1))), (0, .ref (ad 0)), (1, .int set), (2, .int (nI 2)), (5, .int ((k_whI (r 4) set s (k_whO (r 4) set s) k).2.2)), (6, .int (nI s)), (7, .int (m_by k))] dX5_who_99 (by decide) rfl ?_
          refine z_iinc C [(7, .int (m_by k + 1)), (4, .int (((k_whI (r 4) set s (k_whO (r 4) set s) k).2.1) ||| ((nI 1) <<< ((nI s) &&& 31)))), (3, .int (nI ((k_whI (r 4) set s (k_whO (r 4) set s) k).1 + 1))), (0, .ref (ad 0)), (1, .int set), (2, .int (nI 2)), (5, .int ((k_whI (r 4) set s (k_whO (r 4) set s) k).2.2)), (6, .int (nI s))] dX5_who_101 rfl rfl (by decide) rfl ?_
          refine z_goto C 46 dX5_who_104 (by decide) ?_
          exact z_to (ih46) (rfl) (by simp [zlk, k_whI, m_by_s, h50n_2, h69n_3, h73t_4])
        · refine z_bipush C (v := nI 100) dX5_who_76 (by decide) ?_
          refine z_iload C dX5_who_78 (show zlk _ 6 = some (.int (nI s)) from rfl) ?_
          refine z_imulN C dX5_who_80 ?_
          refine z_iload C dX5_who_81 (show zlk _ 7 = some (.int (m_by k)) from rfl) ?_
          refine z_iadd C dX5_who_83 ?_
          refine z_bipush C (v := (-3)) dX5_who_84 (by decide) ?_
          refine z_isub C dX5_who_86 ?_
          refine z_istore C [(5, .int (((nI (100 * s)) + (m_by k)) - (-3))), (0, .ref (ad 0)), (1, .int set), (2, .int (nI 2)), (3, .int (nI ((k_whI (r 4) set s (k_whO (r 4) set s) k).1))), (4, .int ((k_whI (r 4) set s (k_whO (r 4) set s) k).2.1)), (6, .int (nI s)), (7, .int (m_by k))] dX5_who_87 (by decide) rfl ?_
          refine z_iincN C [(3, .int (nI ((k_whI (r 4) set s (k_whO (r 4) set s) k).1 + 1))), (5, .int (((nI (100 * s)) + (m_by k)) - (-3))), (0, .ref (ad 0)), (1, .int set), (2, .int (nI 2)), (4, .int ((k_whI (r 4) set s (k_whO (r 4) set s) k).2.1)), (6, .int (nI s)), (7, .int (m_by k))] dX5_who_89 rfl (by decide) rfl ?_
          refine z_iload C dX5_who_92 (show zlk _ 4 = some (.int ((k_whI (r 4) set s (k_whO (r 4) set s) k).2.1)) from rfl) ?_
          refine z_iconst C (v := nI 1) dX5_who_94 (by decide) ?_
          refine z_iload C dX5_who_95 (show zlk _ 6 = some (.int (nI s)) from rfl) ?_
          refine z_ishl C dX5_who_97 ?_
          refine z_ior C dX5_who_98 ?_
          refine z_istore C [(4, .int (((k_whI (r 4) set s (k_whO (r 4) set s) k).2.1) ||| ((nI 1) <<< ((nI s) &&& 31)))), (3, .int (nI ((k_whI (r 4) set s (k_whO (r 4) set s) k).1 + 1))), (5, .int (((nI (100 * s)) + (m_by k)) - (-3))), (0, .ref (ad 0)), (1, .int set), (2, .int (nI 2)), (6, .int (nI s)), (7, .int (m_by k))] dX5_who_99 (by decide) rfl ?_
          refine z_iinc C [(7, .int (m_by k + 1)), (4, .int (((k_whI (r 4) set s (k_whO (r 4) set s) k).2.1) ||| ((nI 1) <<< ((nI s) &&& 31)))), (3, .int (nI ((k_whI (r 4) set s (k_whO (r 4) set s) k).1 + 1))), (5, .int (((nI (100 * s)) + (m_by k)) - (-3))), (0, .ref (ad 0)), (1, .int set), (2, .int (nI 2)), (6, .int (nI s))] dX5_who_101 rfl rfl (by decide) rfl ?_
          refine z_goto C 46 dX5_who_104 (by decide) ?_
          exact z_to (ih46) (rfl) (by simp [zlk, k_whI, m_by_s, h50n_2, h69n_3, h73n_4])

def k_paI (o : Nat → Int32) (set : Int32) (s q : Nat) (a : Nat × Int32) : Nat → Nat × Int32
  | 0 => a
  | k + 1 => if k_sh (o s) (nI (k / 6)) 5 ||| k_sh (o q) (nI (k % 6)) 5 = set then ((k_paI o set s q a k).1 + 1, if (k_paI o set s q a k).1 = 0 then nI (1000 * s + 100 * q + 10 * (k / 6) + k % 6) else (k_paI o set s q a k).2) else k_paI o set s q a k
def k_paQ (o : Nat → Int32) (set : Int32) (s : Nat) (a : Nat × Int32) : Nat → Nat × Int32
  | 0 => a
  | q + 1 => if q < s + 1 then a else k_paI o set s q (k_paQ o set s a q) 36
def k_paO (o : Nat → Int32) (set : Int32) (S : Nat) : Nat → Nat × Int32
  | 0 => (0, (-1))
  | s + 1 => k_paQ o set s (k_paO o set S s) S
theorem k_paI_le (o : Nat → Int32) (set : Int32) (s q : Nat) (a : Nat × Int32) : ∀ k, (k_paI o set s q a k).1 ≤ a.1 + k
  | 0 => by simp [k_paI]
  | k + 1 => by
    have := k_paI_le o set s q a k
    unfold k_paI
    split <;> (try dsimp only) <;> omega
theorem k_paQ_le (o : Nat → Int32) (set : Int32) (s : Nat) (a : Nat × Int32) : ∀ q, (k_paQ o set s a q).1 ≤ a.1 + 36 * q
  | 0 => by simp [k_paQ]
  | q + 1 => by
    have h1 := k_paQ_le o set s a q
    have h2 := k_paI_le o set s q (k_paQ o set s a q) 36
    unfold k_paQ
    split <;> omega
theorem k_paO_le (o : Nat → Int32) (set : Int32) (S : Nat) : ∀ s, (k_paO o set S s).1 ≤ 36 * S * s
  | 0 => by simp [k_paO]
  | s + 1 => by
    have h1 := k_paO_le o set S s
    have h2 := k_paQ_le o set s (k_paO o set S s) S
    unfold k_paO
    rw [Nat.mul_succ]
    omega
theorem k_paO_b (o : Nat → Int32) (set : Int32) {S s : Nat} (hS : S ≤ 6) (hs : s ≤ 6) : (k_paO o set S s).1 ≤ 1296 := by
  have h1 := k_paO_le o set S s
  have h2 : 36 * S * s ≤ 36 * 6 * 6 := Nat.mul_le_mul (Nat.mul_le_mul_left _ hS) hs
  omega
theorem k_paQ_0 (o : Nat → Int32) (set : Int32) (s : Nat) (a : Nat × Int32) : k_paQ o set s a (s + 1) = a := by unfold k_paQ; rw [if_pos (by omega)]
theorem k_paQ_s (o : Nat → Int32) (set : Int32) (s : Nat) (a : Nat × Int32) {q : Nat} (h : s + 1 ≤ q) : k_paQ o set s a (q + 1) = k_paI o set s q (k_paQ o set s a q) 36 := by rw [k_paQ, if_neg (by omega)]
set_option maxHeartbeats 4000000 in
set_option maxRecDepth 100000 in
theorem c_X5_parted_1 (l : Launch) (θ : zH) (ea : Nat → Nat → Nat) (ad : Nat → Nat) (n : Nat → Nat) (g : Nat → Int32) (b : Nat → Bool) (r : Nat → Nat → Int32) (V : Nat → Ev) (set x : Int32) (hs : okN set 1073741824 = false) : cI l yX5_parted wsX5_parted 2 θ [.ref (ad 0), .int set, .int x] (CW θ ea ad n g b r V) (fun r0 Y => r0 = (-1000000002) ∧ Y = CW θ ea ad n g b r V) := by
  refine z_cI (by decide) rfl rfl (Nat.le_of_ble_eq_true rfl) (lv := [(0, .ref (ad 0)), (1, .int set), (2, .int x)]) rfl (fun κ C E => ?_)
  refine z_iload_n C dX5_parted_0 rfl (show zlk _ 1 = some (.int set) from rfl) ?_
  refine z_callSi C (As := [.int set]) (rest := []) (c_X5_isSetOfDots l θ _ set) gX5_parted_X5_isSetOfDots rfl 1 (by decide +kernel) (by decide) (by decide) rfl rfl (Nat.le_of_ble_eq_true rfl) dX5_parted_1 ?_
  rintro _ _ ⟨rfl, rfl⟩
  refine z_if_eqB C 16 dX5_parted_4 (by decide) (fun _ => ?_) (fun h => absurd h (by rw [hs]; decide))
  refine z_ldc C (v := (-1000000002)) (by decide +kernel) dX5_parted_16 ?_
  exact E _ _ _ _ (⟨rfl, rfl⟩) (rfl) dX5_parted_18

set_option maxHeartbeats 4000000 in
set_option maxRecDepth 100000 in
theorem c_X5_parted_2 (l : Launch) (θ : zH) (ea : Nat → Nat → Nat) (ad : Nat → Nat) (n : Nat → Nat) (g : Nat → Int32) (b : Nat → Bool) (r : Nat → Nat → Int32) (V : Nat → Ev) (set x : Int32) (hs : okN set 1073741824 = true) (hx : okN x 2 = false) : cI l yX5_parted wsX5_parted 2 θ [.ref (ad 0), .int set, .int x] (CW θ ea ad n g b r V) (fun r0 Y => r0 = (-1000000002) ∧ Y = CW θ ea ad n g b r V) := by
  refine z_cI (by decide) rfl rfl (Nat.le_of_ble_eq_true rfl) (lv := [(0, .ref (ad 0)), (1, .int set), (2, .int x)]) rfl (fun κ C E => ?_)
  refine z_iload_n C dX5_parted_0 rfl (show zlk _ 1 = some (.int set) from rfl) ?_
  refine z_callSi C (As := [.int set]) (rest := []) (c_X5_isSetOfDots l θ _ set) gX5_parted_X5_isSetOfDots rfl 1 (by decide +kernel) (by decide) (by decide) rfl rfl (Nat.le_of_ble_eq_true rfl) dX5_parted_1 ?_
  rintro _ _ ⟨rfl, rfl⟩
  refine z_if_eqB C 16 dX5_parted_4 (by decide) (fun h => absurd h (by rw [hs]; decide)) (fun _ => ?_)
  refine z_iload_n C dX5_parted_7 rfl (show zlk _ 2 = some (.int x) from rfl) ?_
  refine z_if_lt C 16 dX5_parted_8 (by decide) (fun h8t_1 => ?_) (fun h8n_1 => ?_)
  · refine z_ldc C (v := (-1000000002)) (by decide +kernel) dX5_parted_16 ?_
    exact E _ _ _ _ (⟨rfl, rfl⟩) (rfl) dX5_parted_18
  · refine z_iload_n C dX5_parted_11 rfl (show zlk _ 2 = some (.int x) from rfl) ?_
    refine z_iconst C (v := nI 1) dX5_parted_12 (by decide) ?_
    refine z_icmp_le C 19 dX5_parted_13 (by decide) (fun h13n_2 => absurd h13n_2 (okN_nle (N := 1) hx h8n_1 (by decide))) (fun h13n_2 => ?_)
    refine z_ldc C (v := (-1000000002)) (by decide +kernel) dX5_parted_16 ?_
    exact E _ _ _ _ (⟨rfl, rfl⟩) (rfl) dX5_parted_18

set_option maxHeartbeats 4000000 in
set_option maxRecDepth 100000 in
theorem c_X5_parted_30 (l : Launch) (θ : zH) (ea : Nat → Nat → Nat) (ad : Nat → Nat) (n : Nat → Nat) (g : Nat → Int32) (b : Nat → Bool) (r : Nat → Nat → Int32) (V : Nat → Ev) (set : Int32) (hS : n 10 ≤ 6) (hs : okN set 1073741824 = true) : cI l yX5_parted wsX5_parted 2 θ [.ref (ad 0), .int set, .int (nI 0)] (CW θ ea ad n g b r V) (fun r0 Y => r0 = nI (k_paO (r 4) set (n 10) (n 10)).1 ∧ Y = CW θ ea ad n g b r V) := by
  refine z_cI (by decide) rfl rfl (Nat.le_of_ble_eq_true rfl) (lv := [(0, .ref (ad 0)), (1, .int set), (2, .int (nI 0))]) rfl (fun κ C E => ?_)
  have hinX0 : ∀ w ∈ wsX00, w ∈ wsX5_parted := by decide +kernel
  have hinX5 : ∀ w ∈ wsX50, w ∈ wsX5_parted := by decide +kernel
  refine z_iload_n C dX5_parted_0 rfl (show zlk _ 1 = some (.int set) from rfl) ?_
  refine z_callSi C (As := [.int set]) (rest := []) (c_X5_isSetOfDots l θ _ set) gX5_parted_X5_isSetOfDots rfl 1 (by decide +kernel) (by decide) (by decide) rfl rfl (Nat.le_of_ble_eq_true rfl) dX5_parted_1 ?_
  rintro _ _ ⟨rfl, rfl⟩
  refine z_if_eqB C 16 dX5_parted_4 (by decide) (fun h => absurd h (by rw [hs]; decide)) (fun _ => ?_)
  refine z_iload_n C dX5_parted_7 rfl (show zlk _ 2 = some (.int (nI 0)) from rfl) ?_
  refine z_if_ltN C 16 dX5_parted_8 (by decide) (by omega) ?_
  refine z_iload_n C dX5_parted_11 rfl (show zlk _ 2 = some (.int (nI 0)) from rfl) ?_
  refine z_iconst C (v := nI 1) dX5_parted_12 (by decide) ?_
  refine z_icmp_leT C 19 dX5_parted_13 (by decide) (by omega) (by omega) (by decide) ?_
  refine z_iconst C (v := nI 0) dX5_parted_19 (by decide) ?_
  refine z_istore_n C [(3, .int (nI 0)), (0, .ref (ad 0)), (1, .int set), (2, .int (nI 0))] dX5_parted_20 rfl (by decide) rfl ?_
  refine z_iconst C (v := (-1)) dX5_parted_21 (by decide) ?_
  refine z_istore C [(4, .int (-1)), (3, .int (nI 0)), (0, .ref (ad 0)), (1, .int set), (2, .int (nI 0))] dX5_parted_22 (by decide) rfl ?_
  refine z_iconst C (v := nI 0) dX5_parted_24 (by decide) ?_
  refine z_istore C [(5, .int (nI 0)), (4, .int (-1)), (3, .int (nI 0)), (0, .ref (ad 0)), (1, .int set), (2, .int (nI 0))] dX5_parted_25 (by decide) rfl ?_
  refine z_lv (lv' := [(0, .ref (ad 0)), (1, .int set), (2, .int (nI 0)), (3, .int (nI ((k_paO (r 4) set (n 10) 0).1))), (4, .int ((k_paO (r 4) set (n 10) 0).2)), (5, .int (nI 0))]) rfl ?_
  refine z_up (fun s => Z κ (CW θ ea ad n g b r V) 27 [(0, .ref (ad 0)), (1, .int set), (2, .int (nI 0)), (3, .int (nI ((k_paO (r 4) set (n 10) s).1))), (4, .int ((k_paO (r 4) set (n 10) s).2)), (5, .int (nI s))] []) (n 10) ?_ ?_ 0 (by omega)
  · refine z_iload C dX5_parted_27 (show zlk _ 5 = some (.int (nI (n 10))) from rfl) ?_
    refine z_aload_n C dX5_parted_29 rfl (show zlk _ 0 = some (.ref (ad 0)) from rfl) ?_
    refine z_get C hinX5 0 cc_0 rfl 1 (by decide) (by decide +kernel) cg_0_1 dX5_parted_30 ?_
    refine z_getN C (host := "GnatPortraits") hinX0 3 cc_3 rfl 2 (by decide) (by decide +kernel) cg_3_2 dX5_parted_33 ?_
    refine z_icmp_geT C 164 dX5_parted_36 (by decide) (by omega) (by omega) (by omega) ?_
    refine z_iload_n C dX5_parted_164 rfl (show zlk _ 2 = some (.int (nI 0)) from rfl) ?_
    refine z_if_neN C 172 dX5_parted_165 (by decide) (by decide) (fun h => absurd h (by decide)) (fun _ => ?_)
    refine z_iload_n C dX5_parted_168 rfl (show zlk _ 3 = some (.int (nI ((k_paO (r 4) set (n 10) (n 10)).1))) from rfl) ?_
    refine z_goto C 174 dX5_parted_169 (by decide) ?_
    exact E _ _ _ _ (⟨rfl, rfl⟩) (rfl) dX5_parted_174
  · intro s hk27 ih27
    refine z_iload C dX5_parted_27 (show zlk _ 5 = some (.int (nI s)) from rfl) ?_
    refine z_aload_n C dX5_parted_29 rfl (show zlk _ 0 = some (.ref (ad 0)) from rfl) ?_
    refine z_get C hinX5 0 cc_0 rfl 1 (by decide) (by decide +kernel) cg_0_1 dX5_parted_30 ?_
    refine z_getN C (host := "GnatPortraits") hinX0 3 cc_3 rfl 2 (by decide) (by decide +kernel) cg_3_2 dX5_parted_33 ?_
    refine z_icmp_geF C 164 dX5_parted_36 (by decide) (by omega) (by omega) (by omega) ?_
    refine z_iload C dX5_parted_39 (show zlk _ 5 = some (.int (nI s)) from rfl) ?_
    refine z_iconst C (v := nI 1) dX5_parted_41 (by decide) ?_
    refine z_iaddN C dX5_parted_42 ?_
    refine z_istore C [(6, .int (nI (s + 1))), (0, .ref (ad 0)), (1, .int set), (2, .int (nI 0)), (3, .int (nI ((k_paO (r 4) set (n 10) s).1))), (4, .int ((k_paO (r 4) set (n 10) s).2)), (5, .int (nI s))] dX5_parted_43 (by decide) rfl ?_
    refine z_lv (lv' := [(0, .ref (ad 0)), (1, .int set), (2, .int (nI 0)), (3, .int (nI ((k_paQ (r 4) set s (k_paO (r 4) set (n 10) s) (s + 1)).1))), (4, .int ((k_paQ (r 4) set s (k_paO (r 4) set (n 10) s) (s + 1)).2)), (5, .int (nI s)), (6, .int (nI (s + 1)))]) (by rw [k_paQ_0]; rfl) ?_
    refine z_up (fun q => s + 1 ≤ q → Z κ (CW θ ea ad n g b r V) 45 [(0, .ref (ad 0)), (1, .int set), (2, .int (nI 0)), (3, .int (nI ((k_paQ (r 4) set s (k_paO (r 4) set (n 10) s) q).1))), (4, .int ((k_paQ (r 4) set s (k_paO (r 4) set (n 10) s) q).2)), (5, .int (nI s)), (6, .int (nI q))] []) (n 10) ?_ ?_ (s + 1) (by omega) (Nat.le_refl _)
    · intro hinv45
      refine z_iload C dX5_parted_45 (show zlk _ 6 = some (.int (nI (n 10))) from rfl) ?_
      refine z_aload_n C dX5_parted_47 rfl (show zlk _ 0 = some (.ref (ad 0)) from rfl) ?_
      refine z_get C hinX5 0 cc_0 rfl 1 (by decide) (by decide +kernel) cg_0_1 dX5_parted_48 ?_
      refine z_getN C (host := "GnatPortraits") hinX0 3 cc_3 rfl 2 (by decide) (by decide +kernel) cg_3_2 dX5_parted_51 ?_
      refine z_icmp_geT C 158 dX5_parted_54 (by decide) (by omega) (by omega) (by omega) ?_
      refine z_iincN C [(5, .int (nI (s + 1))), (0, .ref (ad 0)), (1, .int set), (2, .int (nI 0)), (3, .int (nI ((k_paQ (r 4) set s (k_paO (r 4) set (n 10) s) (n 10)).1))), (4, .int ((k_paQ (r 4) set s (k_paO (r 4) set (n 10) s) (n 10)).2)), (6, .int (nI (n 10)))] dX5_parted_158 rfl (by decide) rfl ?_
      refine z_goto C 27 dX5_parted_161 (by decide) ?_
      exact z_to (ih27) (rfl) (rfl)
    · intro q hk45 ih45
      intro hinv45
      refine z_iload C dX5_parted_45 (show zlk _ 6 = some (.int (nI q)) from rfl) ?_
      refine z_aload_n C dX5_parted_47 rfl (show zlk _ 0 = some (.ref (ad 0)) from rfl) ?_
      refine z_get C hinX5 0 cc_0 rfl 1 (by decide) (by decide +kernel) cg_0_1 dX5_parted_48 ?_
      refine z_getN C (host := "GnatPortraits") hinX0 3 cc_3 rfl 2 (by decide) (by decide +kernel) cg_3_2 dX5_parted_51 ?_
      refine z_icmp_geF C 158 dX5_parted_54 (by decide) (by omega) (by omega) (by omega) ?_
      refine z_iconst C (v := nI 0) dX5_parted_57 (by decide) ?_
      refine z_istore C [(7, .int (nI 0)), (0, .ref (ad 0)), (1, .int set), (2, .int (nI 0)), (3, .int (nI ((k_paQ (r 4) set s (k_paO (r 4) set (n 10) s) q).1))), (4, .int ((k_paQ (r 4) set s (k_paO (r 4) set (n 10) s) q).2)), (5, .int (nI s)), (6, .int (nI q))] dX5_parted_58 (by decide) rfl ?_
      refine z_lv (lv' := [(0, .ref (ad 0)), (1, .int set), (2, .int (nI 0)), (3, .int (nI ((k_paI (r 4) set s q (k_paQ (r 4) set s (k_paO (r 4) set (n 10) s) q) 0).1))), (4, .int ((k_paI (r 4) set s q (k_paQ (r 4) set s (k_paO (r 4) set (n 10) s) q) 0).2)), (5, .int (nI s)), (6, .int (nI q)), (7, .int (nI 0))]) rfl ?_
      refine z_up (fun k => Z κ (CW θ ea ad n g b r V) 60 [(0, .ref (ad 0)), (1, .int set), (2, .int (nI 0)), (3, .int (nI ((k_paI (r 4) set s q (k_paQ (r 4) set s (k_paO (r 4) set (n 10) s) q) k).1))), (4, .int ((k_paI (r 4) set s q (k_paQ (r 4) set s (k_paO (r 4) set (n 10) s) q) k).2)), (5, .int (nI s)), (6, .int (nI q)), (7, .int (nI k))] []) (36) ?_ ?_ 0 (by omega)
      · refine z_iload C dX5_parted_60 (show zlk _ 7 = some (.int (nI 36)) from rfl) ?_
        refine z_bipush C (v := nI 36) dX5_parted_62 (by decide) ?_
        refine z_icmp_geT C 152 dX5_parted_64 (by decide) (by omega) (by omega) (by omega) ?_
        refine z_iincN C [(6, .int (nI (q + 1))), (0, .ref (ad 0)), (1, .int set), (2, .int (nI 0)), (3, .int (nI ((k_paI (r 4) set s q (k_paQ (r 4) set s (k_paO (r 4) set (n 10) s) q) 36).1))), (4, .int ((k_paI (r 4) set s q (k_paQ (r 4) set s (k_paO (r 4) set (n 10) s) q) 36).2)), (5, .int (nI s)), (7, .int (nI 36))] dX5_parted_152 rfl (by decide) rfl ?_
        refine z_goto C 45 dX5_parted_155 (by decide) ?_
        exact z_to (ih45 (by omega)) (rfl) (by rw [k_paQ_s _ _ _ _ hinv45]; rfl)
      · intro k hk60 ih60
        refine z_iload C dX5_parted_60 (show zlk _ 7 = some (.int (nI k)) from rfl) ?_
        refine z_bipush C (v := nI 36) dX5_parted_62 (by decide) ?_
        refine z_icmp_geF C 152 dX5_parted_64 (by decide) (by omega) (by omega) (by omega) ?_
        refine z_iload C dX5_parted_67 (show zlk _ 7 = some (.int (nI k)) from rfl) ?_
        refine z_bipush C (v := nI 6) dX5_parted_69 (by decide) ?_
        refine z_idivN C dX5_parted_71 (by omega) (by omega) (by omega) ?_
        refine z_istore C [(8, .int (nI (k / 6))), (0, .ref (ad 0)), (1, .int set), (2, .int (nI 0)), (3, .int (nI ((k_paI (r 4) set s q (k_paQ (r 4) set s (k_paO (r 4) set (n 10) s) q) k).1))), (4, .int ((k_paI (r 4) set s q (k_paQ (r 4) set s (k_paO (r 4) set (n 10) s) q) k).2)), (5, .int (nI s)), (6, .int (nI q)), (7, .int (nI k))] dX5_parted_72 (by decide) rfl ?_
        refine z_iload C dX5_parted_74 (show zlk _ 7 = some (.int (nI k)) from rfl) ?_
        refine z_bipush C (v := nI 6) dX5_parted_76 (by decide) ?_
        refine z_iremN C dX5_parted_78 (by omega) (by omega) (by omega) ?_
        refine z_istore C [(9, .int (nI (k % 6))), (8, .int (nI (k / 6))), (0, .ref (ad 0)), (1, .int set), (2, .int (nI 0)), (3, .int (nI ((k_paI (r 4) set s q (k_paQ (r 4) set s (k_paO (r 4) set (n 10) s) q) k).1))), (4, .int ((k_paI (r 4) set s q (k_paQ (r 4) set s (k_paO (r 4) set (n 10) s) q) k).2)), (5, .int (nI s)), (6, .int (nI q)), (7, .int (nI k))] dX5_parted_79 (by decide) rfl ?_
        refine z_aload_n C dX5_parted_81 rfl (show zlk _ 0 = some (.ref (ad 0)) from rfl) ?_
        refine z_get C hinX5 0 cc_0 rfl 1 (by decide) (by decide +kernel) cg_0_1 dX5_parted_82 ?_
        refine z_getN C (host := "GnatPortraits") hinX0 3 cc_3 rfl 5 (by decide) (by decide +kernel) cg_3_5 dX5_parted_85 ?_
        refine z_iload C dX5_parted_88 (show zlk _ 5 = some (.int (nI s)) from rfl) ?_
        refine z_iald C (f := (r 4)) 15 ca_15 s rfl (by omega) (by decide) dX5_parted_90 ?_
        refine z_iload C dX5_parted_91 (show zlk _ 8 = some (.int (nI (k / 6))) from rfl) ?_
        refine z_callSi C (As := [.int ((r 4) s), .int (nI (k / 6))]) (rest := []) (c_X5_shifted l θ _ ((r 4) s) (nI (k / 6))) gX5_parted_X5_shifted rfl 2 (by decide +kernel) (by decide) (by decide) rfl rfl (Nat.le_of_ble_eq_true rfl) dX5_parted_93 ?_
        rintro _ _ ⟨rfl, rfl⟩
        refine z_aload_n C dX5_parted_96 rfl (show zlk _ 0 = some (.ref (ad 0)) from rfl) ?_
        refine z_get C hinX5 0 cc_0 rfl 1 (by decide) (by decide +kernel) cg_0_1 dX5_parted_97 ?_
        refine z_getN C (host := "GnatPortraits") hinX0 3 cc_3 rfl 5 (by decide) (by decide +kernel) cg_3_5 dX5_parted_100 ?_
        refine z_iload C dX5_parted_103 (show zlk _ 6 = some (.int (nI q)) from rfl) ?_
        refine z_iald C (f := (r 4)) 15 ca_15 q rfl (by omega) (by decide) dX5_parted_105 ?_
        refine z_iload C dX5_parted_106 (show zlk _ 9 = some (.int (nI (k % 6))) from rfl) ?_
        refine z_callSi C (As := [.int ((r 4) q), .int (nI (k % 6))]) (rest := [.int (k_sh ((r 4) s) (nI (k / 6)) 5)]) (c_X5_shifted l θ _ ((r 4) q) (nI (k % 6))) gX5_parted_X5_shifted rfl 2 (by decide +kernel) (by decide) (by decide) rfl rfl (Nat.le_of_ble_eq_true rfl) dX5_parted_108 ?_
        rintro _ _ ⟨rfl, rfl⟩
        refine z_ior C dX5_parted_111 ?_
        refine z_iload_n C dX5_parted_112 rfl (show zlk _ 1 = some (.int set) from rfl) ?_
        refine z_icmp_ne C 146 dX5_parted_113 (by decide) (fun h113t_1 => ?_) (fun h113n_1 => ?_)
        · refine z_iincN C [(7, .int (nI (k + 1))), (9, .int (nI (k % 6))), (8, .int (nI (k / 6))), (0, .ref (ad 0)), (1, .int set), (2, .int (nI 0)), (3, .int (nI ((k_paI (r 4) set s q (k_paQ (r 4) set s (k_paO (r 4) set (n 10) s) q) k).1))), (4, .int ((k_paI (r 4) set s q (k_paQ (r 4) set s (k_paO (r 4) set (n 10) s) q) k).2)), (5, .int (nI s)), (6, .int (nI q))] dX5_parted_146 rfl (by decide) rfl ?_
          refine z_goto C 60 dX5_parted_149 (by decide) ?_
          exact z_to (ih60) (rfl) (by simp [zlk, k_paI, hinv45, h113t_1])
        · refine z_iload_n C dX5_parted_116 rfl (show zlk _ 3 = some (.int (nI ((k_paI (r 4) set s q (k_paQ (r 4) set s (k_paO (r 4) set (n 10) s) q) k).1))) from rfl) ?_
          refine z_if_neN C 143 dX5_parted_117 (by decide) (by have h1 := k_paI_le (r 4) set s q (k_paQ (r 4) set s (k_paO (r 4) set (n 10) s) q) k; have h2 := k_paQ_le (r 4) set s (k_paO (r 4) set (n 10) s) q; have h3 := k_paO_b (r 4) set (S := n 10) (s := s) hS (by omega); omega) (fun h117t_2 => ?_) (fun h117n_2 => ?_)
          · refine z_iincN C [(3, .int (nI ((k_paI (r 4) set s q (k_paQ (r 4) set s (k_paO (r 4) set (n 10) s) q) k).1 + 1))), (9, .int (nI (k % 6))), (8, .int (nI (k / 6))), (0, .ref (ad 0)), (1, .int set), (2, .int (nI 0)), (4, .int ((k_paI (r 4) set s q (k_paQ (r 4) set s (k_paO (r 4) set (n 10) s) q) k).2)), (5, .int (nI s)), (6, .int (nI q)), (7, .int (nI k))] dX5_parted_143 rfl (by decide) rfl ?_
            refine z_iincN C [(7, .int (nI (k + 1))), (3, .int (nI ((k_paI (r 4) set s q (k_paQ (r 4) set s (k_paO (r 4) set (n 10) s) q) k).1 + 1))), (9, .int (nI (k % 6))), (8, .int (nI (k / 6))), (0, .ref (ad 0)), (1, .int set), (2, .int (nI 0)), (4, .int ((k_paI (r 4) set s q (k_paQ (r 4) set s (k_paO (r 4) set (n 10) s) q) k).2)), (5, .int (nI s)), (6, .int (nI q))] dX5_parted_146 rfl (by decide) rfl ?_
            refine z_goto C 60 dX5_parted_149 (by decide) ?_
            exact z_to (ih60) (rfl) (by simp [zlk, k_paI, hinv45, h113n_1, h117t_2])
          · refine z_sipush C (v := nI 1000) dX5_parted_120 (by decide) ?_
            refine z_iload C dX5_parted_123 (show zlk _ 5 = some (.int (nI s)) from rfl) ?_
            refine z_imulN C dX5_parted_125 ?_
            refine z_bipush C (v := nI 100) dX5_parted_126 (by decide) ?_
            refine z_iload C dX5_parted_128 (show zlk _ 6 = some (.int (nI q)) from rfl) ?_
            refine z_imulN C dX5_parted_130 ?_
            refine z_iaddN C dX5_parted_131 ?_
            refine z_bipush C (v := nI 10) dX5_parted_132 (by decide) ?_
            refine z_iload C dX5_parted_134 (show zlk _ 8 = some (.int (nI (k / 6))) from rfl) ?_
            refine z_imulN C dX5_parted_136 ?_
            refine z_iaddN C dX5_parted_137 ?_
            refine z_iload C dX5_parted_138 (show zlk _ 9 = some (.int (nI (k % 6))) from rfl) ?_
            refine z_iaddN C dX5_parted_140 ?_
            refine z_istore C [(4, .int (nI (1000 * s + (100 * q) + (10 * (k / 6)) + (k % 6)))), (9, .int (nI (k % 6))), (8, .int (nI (k / 6))), (0, .ref (ad 0)), (1, .int set), (2, .int (nI 0)), (3, .int (nI ((k_paI (r 4) set s q (k_paQ (r 4) set s (k_paO (r 4) set (n 10) s) q) k).1))), (5, .int (nI s)), (6, .int (nI q)), (7, .int (nI k))] dX5_parted_141 (by decide) rfl ?_
            refine z_iincN C [(3, .int (nI ((k_paI (r 4) set s q (k_paQ (r 4) set s (k_paO (r 4) set (n 10) s) q) k).1 + 1))), (4, .int (nI (1000 * s + (100 * q) + (10 * (k / 6)) + (k % 6)))), (9, .int (nI (k % 6))), (8, .int (nI (k / 6))), (0, .ref (ad 0)), (1, .int set), (2, .int (nI 0)), (5, .int (nI s)), (6, .int (nI q)), (7, .int (nI k))] dX5_parted_143 rfl (by decide) rfl ?_
            refine z_iincN C [(7, .int (nI (k + 1))), (3, .int (nI ((k_paI (r 4) set s q (k_paQ (r 4) set s (k_paO (r 4) set (n 10) s) q) k).1 + 1))), (4, .int (nI (1000 * s + (100 * q) + (10 * (k / 6)) + (k % 6)))), (9, .int (nI (k % 6))), (8, .int (nI (k / 6))), (0, .ref (ad 0)), (1, .int set), (2, .int (nI 0)), (5, .int (nI s)), (6, .int (nI q))] dX5_parted_146 rfl (by decide) rfl ?_
            refine z_goto C 60 dX5_parted_149 (by decide) ?_
            exact z_to (ih60) (rfl) (by simp [zlk, k_paI, hinv45, h113n_1, h117n_2])

set_option maxHeartbeats 4000000 in
set_option maxRecDepth 100000 in
theorem c_X5_parted_31 (l : Launch) (θ : zH) (ea : Nat → Nat → Nat) (ad : Nat → Nat) (n : Nat → Nat) (g : Nat → Int32) (b : Nat → Bool) (r : Nat → Nat → Int32) (V : Nat → Ev) (set : Int32) (hS : n 10 ≤ 6) (hs : okN set 1073741824 = true) : cI l yX5_parted wsX5_parted 2 θ [.ref (ad 0), .int set, .int (nI 1)] (CW θ ea ad n g b r V) (fun r0 Y => r0 = (k_paO (r 4) set (n 10) (n 10)).2 ∧ Y = CW θ ea ad n g b r V) := by
  refine z_cI (by decide) rfl rfl (Nat.le_of_ble_eq_true rfl) (lv := [(0, .ref (ad 0)), (1, .int set), (2, .int (nI 1))]) rfl (fun κ C E => ?_)
  have hinX0 : ∀ w ∈ wsX00, w ∈ wsX5_parted := by decide +kernel
  have hinX5 : ∀ w ∈ wsX50, w ∈ wsX5_parted := by decide +kernel
  refine z_iload_n C dX5_parted_0 rfl (show zlk _ 1 = some (.int set) from rfl) ?_
  refine z_callSi C (As := [.int set]) (rest := []) (c_X5_isSetOfDots l θ _ set) gX5_parted_X5_isSetOfDots rfl 1 (by decide +kernel) (by decide) (by decide) rfl rfl (Nat.le_of_ble_eq_true rfl) dX5_parted_1 ?_
  rintro _ _ ⟨rfl, rfl⟩
  refine z_if_eqB C 16 dX5_parted_4 (by decide) (fun h => absurd h (by rw [hs]; decide)) (fun _ => ?_)
  refine z_iload_n C dX5_parted_7 rfl (show zlk _ 2 = some (.int (nI 1)) from rfl) ?_
  refine z_if_ltN C 16 dX5_parted_8 (by decide) (by omega) ?_
  refine z_iload_n C dX5_parted_11 rfl (show zlk _ 2 = some (.int (nI 1)) from rfl) ?_
  refine z_iconst C (v := nI 1) dX5_parted_12 (by decide) ?_
  refine z_icmp_leT C 19 dX5_parted_13 (by decide) (by omega) (by omega) (by decide) ?_
  refine z_iconst C (v := nI 0) dX5_parted_19 (by decide) ?_
  refine z_istore_n C [(3, .int (nI 0)), (0, .ref (ad 0)), (1, .int set), (2, .int (nI 1))] dX5_parted_20 rfl (by decide) rfl ?_
  refine z_iconst C (v := (-1)) dX5_parted_21 (by decide) ?_
  refine z_istore C [(4, .int (-1)), (3, .int (nI 0)), (0, .ref (ad 0)), (1, .int set), (2, .int (nI 1))] dX5_parted_22 (by decide) rfl ?_
  refine z_iconst C (v := nI 0) dX5_parted_24 (by decide) ?_
  refine z_istore C [(5, .int (nI 0)), (4, .int (-1)), (3, .int (nI 0)), (0, .ref (ad 0)), (1, .int set), (2, .int (nI 1))] dX5_parted_25 (by decide) rfl ?_
  refine z_lv (lv' := [(0, .ref (ad 0)), (1, .int set), (2, .int (nI 1)), (3, .int (nI ((k_paO (r 4) set (n 10) 0).1))), (4, .int ((k_paO (r 4) set (n 10) 0).2)), (5, .int (nI 0))]) rfl ?_
  refine z_up (fun s => Z κ (CW θ ea ad n g b r V) 27 [(0, .ref (ad 0)), (1, .int set), (2, .int (nI 1)), (3, .int (nI ((k_paO (r 4) set (n 10) s).1))), (4, .int ((k_paO (r 4) set (n 10) s).2)), (5, .int (nI s))] []) (n 10) ?_ ?_ 0 (by omega)
  · refine z_iload C dX5_parted_27 (show zlk _ 5 = some (.int (nI (n 10))) from rfl) ?_
    refine z_aload_n C dX5_parted_29 rfl (show zlk _ 0 = some (.ref (ad 0)) from rfl) ?_
    refine z_get C hinX5 0 cc_0 rfl 1 (by decide) (by decide +kernel) cg_0_1 dX5_parted_30 ?_
    refine z_getN C (host := "GnatPortraits") hinX0 3 cc_3 rfl 2 (by decide) (by decide +kernel) cg_3_2 dX5_parted_33 ?_
    refine z_icmp_geT C 164 dX5_parted_36 (by decide) (by omega) (by omega) (by omega) ?_
    refine z_iload_n C dX5_parted_164 rfl (show zlk _ 2 = some (.int (nI 1)) from rfl) ?_
    refine z_if_neN C 172 dX5_parted_165 (by decide) (by decide) (fun _ => ?_) (fun h => absurd h (by decide))
    refine z_iload C dX5_parted_172 (show zlk _ 4 = some (.int ((k_paO (r 4) set (n 10) (n 10)).2)) from rfl) ?_
    exact E _ _ _ _ (⟨rfl, rfl⟩) (rfl) dX5_parted_174
  · intro s hk27 ih27
    refine z_iload C dX5_parted_27 (show zlk _ 5 = some (.int (nI s)) from rfl) ?_
    refine z_aload_n C dX5_parted_29 rfl (show zlk _ 0 = some (.ref (ad 0)) from rfl) ?_
    refine z_get C hinX5 0 cc_0 rfl 1 (by decide) (by decide +kernel) cg_0_1 dX5_parted_30 ?_
    refine z_getN C (host := "GnatPortraits") hinX0 3 cc_3 rfl 2 (by decide) (by decide +kernel) cg_3_2 dX5_parted_33 ?_
    refine z_icmp_geF C 164 dX5_parted_36 (by decide) (by omega) (by omega) (by omega) ?_
    refine z_iload C dX5_parted_39 (show zlk _ 5 = some (.int (nI s)) from rfl) ?_
    refine z_iconst C (v := nI 1) dX5_parted_41 (by decide) ?_
    refine z_iaddN C dX5_parted_42 ?_
    refine z_istore C [(6, .int (nI (s + 1))), (0, .ref (ad 0)), (1, .int set), (2, .int (nI 1)), (3, .int (nI ((k_paO (r 4) set (n 10) s).1))), (4, .int ((k_paO (r 4) set (n 10) s).2)), (5, .int (nI s))] dX5_parted_43 (by decide) rfl ?_
    refine z_lv (lv' := [(0, .ref (ad 0)), (1, .int set), (2, .int (nI 1)), (3, .int (nI ((k_paQ (r 4) set s (k_paO (r 4) set (n 10) s) (s + 1)).1))), (4, .int ((k_paQ (r 4) set s (k_paO (r 4) set (n 10) s) (s + 1)).2)), (5, .int (nI s)), (6, .int (nI (s + 1)))]) (by rw [k_paQ_0]; rfl) ?_
    refine z_up (fun q => s + 1 ≤ q → Z κ (CW θ ea ad n g b r V) 45 [(0, .ref (ad 0)), (1, .int set), (2, .int (nI 1)), (3, .int (nI ((k_paQ (r 4) set s (k_paO (r 4) set (n 10) s) q).1))), (4, .int ((k_paQ (r 4) set s (k_paO (r 4) set (n 10) s) q).2)), (5, .int (nI s)), (6, .int (nI q))] []) (n 10) ?_ ?_ (s + 1) (by omega) (Nat.le_refl _)
    · intro hinv45
      refine z_iload C dX5_parted_45 (show zlk _ 6 = some (.int (nI (n 10))) from rfl) ?_
      refine z_aload_n C dX5_parted_47 rfl (show zlk _ 0 = some (.ref (ad 0)) from rfl) ?_
      refine z_get C hinX5 0 cc_0 rfl 1 (by decide) (by decide +kernel) cg_0_1 dX5_parted_48 ?_
      refine z_getN C (host := "GnatPortraits") hinX0 3 cc_3 rfl 2 (by decide) (by decide +kernel) cg_3_2 dX5_parted_51 ?_
      refine z_icmp_geT C 158 dX5_parted_54 (by decide) (by omega) (by omega) (by omega) ?_
      refine z_iincN C [(5, .int (nI (s + 1))), (0, .ref (ad 0)), (1, .int set), (2, .int (nI 1)), (3, .int (nI ((k_paQ (r 4) set s (k_paO (r 4) set (n 10) s) (n 10)).1))), (4, .int ((k_paQ (r 4) set s (k_paO (r 4) set (n 10) s) (n 10)).2)), (6, .int (nI (n 10)))] dX5_parted_158 rfl (by decide) rfl ?_
      refine z_goto C 27 dX5_parted_161 (by decide) ?_
      exact z_to (ih27) (rfl) (rfl)
    · intro q hk45 ih45
      intro hinv45
      refine z_iload C dX5_parted_45 (show zlk _ 6 = some (.int (nI q)) from rfl) ?_
      refine z_aload_n C dX5_parted_47 rfl (show zlk _ 0 = some (.ref (ad 0)) from rfl) ?_
      refine z_get C hinX5 0 cc_0 rfl 1 (by decide) (by decide +kernel) cg_0_1 dX5_parted_48 ?_
      refine z_getN C (host := "GnatPortraits") hinX0 3 cc_3 rfl 2 (by decide) (by decide +kernel) cg_3_2 dX5_parted_51 ?_
      refine z_icmp_geF C 158 dX5_parted_54 (by decide) (by omega) (by omega) (by omega) ?_
      refine z_iconst C (v := nI 0) dX5_parted_57 (by decide) ?_
      refine z_istore C [(7, .int (nI 0)), (0, .ref (ad 0)), (1, .int set), (2, .int (nI 1)), (3, .int (nI ((k_paQ (r 4) set s (k_paO (r 4) set (n 10) s) q).1))), (4, .int ((k_paQ (r 4) set s (k_paO (r 4) set (n 10) s) q).2)), (5, .int (nI s)), (6, .int (nI q))] dX5_parted_58 (by decide) rfl ?_
      refine z_lv (lv' := [(0, .ref (ad 0)), (1, .int set), (2, .int (nI 1)), (3, .int (nI ((k_paI (r 4) set s q (k_paQ (r 4) set s (k_paO (r 4) set (n 10) s) q) 0).1))), (4, .int ((k_paI (r 4) set s q (k_paQ (r 4) set s (k_paO (r 4) set (n 10) s) q) 0).2)), (5, .int (nI s)), (6, .int (nI q)), (7, .int (nI 0))]) rfl ?_
      refine z_up (fun k => Z κ (CW θ ea ad n g b r V) 60 [(0, .ref (ad 0)), (1, .int set), (2, .int (nI 1)), (3, .int (nI ((k_paI (r 4) set s q (k_paQ (r 4) set s (k_paO (r 4) set (n 10) s) q) k).1))), (4, .int ((k_paI (r 4) set s q (k_paQ (r 4) set s (k_paO (r 4) set (n 10) s) q) k).2)), (5, .int (nI s)), (6, .int (nI q)), (7, .int (nI k))] []) (36) ?_ ?_ 0 (by omega)
      · refine z_iload C dX5_parted_60 (show zlk _ 7 = some (.int (nI 36)) from rfl) ?_
        refine z_bipush C (v := nI 36) dX5_parted_62 (by decide) ?_
        refine z_icmp_geT C 152 dX5_parted_64 (by decide) (by omega) (by omega) (by omega) ?_
        refine z_iincN C [(6, .int (nI (q + 1))), (0, .ref (ad 0)), (1, .int set), (2, .int (nI 1)), (3, .int (nI ((k_paI (r 4) set s q (k_paQ (r 4) set s (k_paO (r 4) set (n 10) s) q) 36).1))), (4, .int ((k_paI (r 4) set s q (k_paQ (r 4) set s (k_paO (r 4) set (n 10) s) q) 36).2)), (5, .int (nI s)), (7, .int (nI 36))] dX5_parted_152 rfl (by decide) rfl ?_
        refine z_goto C 45 dX5_parted_155 (by decide) ?_
        exact z_to (ih45 (by omega)) (rfl) (by rw [k_paQ_s _ _ _ _ hinv45]; rfl)
      · intro k hk60 ih60
        refine z_iload C dX5_parted_60 (show zlk _ 7 = some (.int (nI k)) from rfl) ?_
        refine z_bipush C (v := nI 36) dX5_parted_62 (by decide) ?_
        refine z_icmp_geF C 152 dX5_parted_64 (by decide) (by omega) (by omega) (by omega) ?_
        refine z_iload C dX5_parted_67 (show zlk _ 7 = some (.int (nI k)) from rfl) ?_
        refine z_bipush C (v := nI 6) dX5_parted_69 (by decide) ?_
        refine z_idivN C dX5_parted_71 (by omega) (by omega) (by omega) ?_
        refine z_istore C [(8, .int (nI (k / 6))), (0, .ref (ad 0)), (1, .int set), (2, .int (nI 1)), (3, .int (nI ((k_paI (r 4) set s q (k_paQ (r 4) set s (k_paO (r 4) set (n 10) s) q) k).1))), (4, .int ((k_paI (r 4) set s q (k_paQ (r 4) set s (k_paO (r 4) set (n 10) s) q) k).2)), (5, .int (nI s)), (6, .int (nI q)), (7, .int (nI k))] dX5_parted_72 (by decide) rfl ?_
        refine z_iload C dX5_parted_74 (show zlk _ 7 = some (.int (nI k)) from rfl) ?_
        refine z_bipush C (v := nI 6) dX5_parted_76 (by decide) ?_
        refine z_iremN C dX5_parted_78 (by omega) (by omega) (by omega) ?_
        refine z_istore C [(9, .int (nI (k % 6))), (8, .int (nI (k / 6))), (0, .ref (ad 0)), (1, .int set), (2, .int (nI 1)), (3, .int (nI ((k_paI (r 4) set s q (k_paQ (r 4) set s (k_paO (r 4) set (n 10) s) q) k).1))), (4, .int ((k_paI (r 4) set s q (k_paQ (r 4) set s (k_paO (r 4) set (n 10) s) q) k).2)), (5, .int (nI s)), (6, .int (nI q)), (7, .int (nI k))] dX5_parted_79 (by decide) rfl ?_
        refine z_aload_n C dX5_parted_81 rfl (show zlk _ 0 = some (.ref (ad 0)) from rfl) ?_
        refine z_get C hinX5 0 cc_0 rfl 1 (by decide) (by decide +kernel) cg_0_1 dX5_parted_82 ?_
        refine z_getN C (host := "GnatPortraits") hinX0 3 cc_3 rfl 5 (by decide) (by decide +kernel) cg_3_5 dX5_parted_85 ?_
        refine z_iload C dX5_parted_88 (show zlk _ 5 = some (.int (nI s)) from rfl) ?_
        refine z_iald C (f := (r 4)) 15 ca_15 s rfl (by omega) (by decide) dX5_parted_90 ?_
        refine z_iload C dX5_parted_91 (show zlk _ 8 = some (.int (nI (k / 6))) from rfl) ?_
        refine z_callSi C (As := [.int ((r 4) s), .int (nI (k / 6))]) (rest := []) (c_X5_shifted l θ _ ((r 4) s) (nI (k / 6))) gX5_parted_X5_shifted rfl 2 (by decide +kernel) (by decide) (by decide) rfl rfl (Nat.le_of_ble_eq_true rfl) dX5_parted_93 ?_
        rintro _ _ ⟨rfl, rfl⟩
        refine z_aload_n C dX5_parted_96 rfl (show zlk _ 0 = some (.ref (ad 0)) from rfl) ?_
        refine z_get C hinX5 0 cc_0 rfl 1 (by decide) (by decide +kernel) cg_0_1 dX5_parted_97 ?_
        refine z_getN C (host := "GnatPortraits") hinX0 3 cc_3 rfl 5 (by decide) (by decide +kernel) cg_3_5 dX5_parted_100 ?_
        refine z_iload C dX5_parted_103 (show zlk _ 6 = some (.int (nI q)) from rfl) ?_
        refine z_iald C (f := (r 4)) 15 ca_15 q rfl (by omega) (by decide) dX5_parted_105 ?_
        refine z_iload C dX5_parted_106 (show zlk _ 9 = some (.int (nI (k % 6))) from rfl) ?_
        refine z_callSi C (As := [.int ((r 4) q), .int (nI (k % 6))]) (rest := [.int (k_sh ((r 4) s) (nI (k / 6)) 5)]) (c_X5_shifted l θ _ ((r 4) q) (nI (k % 6))) gX5_parted_X5_shifted rfl 2 (by decide +kernel) (by decide) (by decide) rfl rfl (Nat.le_of_ble_eq_true rfl) dX5_parted_108 ?_
        rintro _ _ ⟨rfl, rfl⟩
        refine z_ior C dX5_parted_111 ?_
        refine z_iload_n C dX5_parted_112 rfl (show zlk _ 1 = some (.int set) from rfl) ?_
        refine z_icmp_ne C 146 dX5_parted_113 (by decide) (fun h113t_1 => ?_) (fun h113n_1 => ?_)
        · refine z_iincN C [(7, .int (nI (k + 1))), (9, .int (nI (k % 6))), (8, .int (nI (k / 6))), (0, .ref (ad 0)), (1, .int set), (2, .int (nI 1)), (3, .int (nI ((k_paI (r 4) set s q (k_paQ (r 4) set s (k_paO (r 4) set (n 10) s) q) k).1))), (4, .int ((k_paI (r 4) set s q (k_paQ (r 4) set s (k_paO (r 4) set (n 10) s) q) k).2)), (5, .int (nI s)), (6, .int (nI q))] dX5_parted_146 rfl (by decide) rfl ?_
          refine z_goto C 60 dX5_parted_149 (by decide) ?_
          exact z_to (ih60) (rfl) (by simp [zlk, k_paI, hinv45, h113t_1])
        · refine z_iload_n C dX5_parted_116 rfl (show zlk _ 3 = some (.int (nI ((k_paI (r 4) set s q (k_paQ (r 4) set s (k_paO (r 4) set (n 10) s) q) k).1))) from rfl) ?_
          refine z_if_neN C 143 dX5_parted_117 (by decide) (by have h1 := k_paI_le (r 4) set s q (k_paQ (r 4) set s (k_paO (r 4) set (n 10) s) q) k; have h2 := k_paQ_le (r 4) set s (k_paO (r 4) set (n 10) s) q; have h3 := k_paO_b (r 4) set (S := n 10) (s := s) hS (by omega); omega) (fun h117t_2 => ?_) (fun h117n_2 => ?_)
          · refine z_iincN C [(3, .int (nI ((k_paI (r 4) set s q (k_paQ (r 4) set s (k_paO (r 4) set (n 10) s) q) k).1 + 1))), (9, .int (nI (k % 6))), (8, .int (nI (k / 6))), (0, .ref (ad 0)), (1, .int set), (2, .int (nI 1)), (4, .int ((k_paI (r 4) set s q (k_paQ (r 4) set s (k_paO (r 4) set (n 10) s) q) k).2)), (5, .int (nI s)), (6, .int (nI q)), (7, .int (nI k))] dX5_parted_143 rfl (by decide) rfl ?_
            refine z_iincN C [(7, .int (nI (k + 1))), (3, .int (nI ((k_paI (r 4) set s q (k_paQ (r 4) set s (k_paO (r 4) set (n 10) s) q) k).1 + 1))), (9, .int (nI (k % 6))), (8, .int (nI (k / 6))), (0, .ref (ad 0)), (1, .int set), (2, .int (nI 1)), (4, .int ((k_paI (r 4) set s q (k_paQ (r 4) set s (k_paO (r 4) set (n 10) s) q) k).2)), (5, .int (nI s)), (6, .int (nI q))] dX5_parted_146 rfl (by decide) rfl ?_
            refine z_goto C 60 dX5_parted_149 (by decide) ?_
            exact z_to (ih60) (rfl) (by simp [zlk, k_paI, hinv45, h113n_1, h117t_2])
          · refine z_sipush C (v := nI 1000) dX5_parted_120 (by decide) ?_
            refine z_iload C dX5_parted_123 (show zlk _ 5 = some (.int (nI s)) from rfl) ?_
            refine z_imulN C dX5_parted_125 ?_
            refine z_bipush C (v := nI 100) dX5_parted_126 (by decide) ?_
            refine z_iload C dX5_parted_128 (show zlk _ 6 = some (.int (nI q)) from rfl) ?_
            refine z_imulN C dX5_parted_130 ?_
            refine z_iaddN C dX5_parted_131 ?_
            refine z_bipush C (v := nI 10) dX5_parted_132 (by decide) ?_
            refine z_iload C dX5_parted_134 (show zlk _ 8 = some (.int (nI (k / 6))) from rfl) ?_
            refine z_imulN C dX5_parted_136 ?_
            refine z_iaddN C dX5_parted_137 ?_
            refine z_iload C dX5_parted_138 (show zlk _ 9 = some (.int (nI (k % 6))) from rfl) ?_
            refine z_iaddN C dX5_parted_140 ?_
            refine z_istore C [(4, .int (nI (1000 * s + (100 * q) + (10 * (k / 6)) + (k % 6)))), (9, .int (nI (k % 6))), (8, .int (nI (k / 6))), (0, .ref (ad 0)), (1, .int set), (2, .int (nI 1)), (3, .int (nI ((k_paI (r 4) set s q (k_paQ (r 4) set s (k_paO (r 4) set (n 10) s) q) k).1))), (5, .int (nI s)), (6, .int (nI q)), (7, .int (nI k))] dX5_parted_141 (by decide) rfl ?_
            refine z_iincN C [(3, .int (nI ((k_paI (r 4) set s q (k_paQ (r 4) set s (k_paO (r 4) set (n 10) s) q) k).1 + 1))), (4, .int (nI (1000 * s + (100 * q) + (10 * (k / 6)) + (k % 6)))), (9, .int (nI (k % 6))), (8, .int (nI (k / 6))), (0, .ref (ad 0)), (1, .int set), (2, .int (nI 1)), (5, .int (nI s)), (6, .int (nI q)), (7, .int (nI k))] dX5_parted_143 rfl (by decide) rfl ?_
            refine z_iincN C [(7, .int (nI (k + 1))), (3, .int (nI ((k_paI (r 4) set s q (k_paQ (r 4) set s (k_paO (r 4) set (n 10) s) q) k).1 + 1))), (4, .int (nI (1000 * s + (100 * q) + (10 * (k / 6)) + (k % 6)))), (9, .int (nI (k % 6))), (8, .int (nI (k / 6))), (0, .ref (ad 0)), (1, .int set), (2, .int (nI 1)), (5, .int (nI s)), (6, .int (nI q))] dX5_parted_146 rfl (by decide) rfl ?_
            refine z_goto C 60 dX5_parted_149 (by decide) ?_
            exact z_to (ih60) (rfl) (by simp [zlk, k_paI, hinv45, h113n_1, h117n_2])

set_option maxHeartbeats 4000000 in
set_option maxRecDepth 100000 in
theorem c_X5_clear_1 (l : Launch) (θ : zH) (ea : Nat → Nat → Nat) (ad : Nat → Nat) (n : Nat → Nat) (g : Nat → Int32) (b : Nat → Bool) (r : Nat → Nat → Int32) (V : Nat → Ev) (x y : Int32) (hx : okN x 61 = false) : cI l yX5_clear wsX5_clear 1 θ [.ref (ad 0), .int x, .int y] (CW θ ea ad n g b r V) (fun r0 Y => r0 = (-1000000002) ∧ Y = CW θ ea ad n g b r V) := by
  refine z_cI (by decide) rfl rfl (Nat.le_of_ble_eq_true rfl) (lv := [(0, .ref (ad 0)), (1, .int x), (2, .int y)]) rfl (fun κ C E => ?_)
  refine z_iload_n C dX5_clear_0 rfl (show zlk _ 1 = some (.int x) from rfl) ?_
  refine z_if_lt C 20 dX5_clear_1 (by decide) (fun h1t_1 => ?_) (fun h1n_1 => ?_)
  · refine z_ldc C (v := (-1000000002)) (by decide +kernel) dX5_clear_20 ?_
    exact E _ _ _ _ (⟨rfl, rfl⟩) (rfl) dX5_clear_22
  · refine z_iload_n C dX5_clear_4 rfl (show zlk _ 1 = some (.int x) from rfl) ?_
    refine z_bipush C (v := nI 60) dX5_clear_5 (by decide) ?_
    refine z_icmp_gt C 20 dX5_clear_7 (by decide) (fun h7t_2 => ?_) (fun h7t_2 => absurd h7t_2 (fun z => z (okN_gt (N := 60) hx h1n_1 (by decide))))
    refine z_ldc C (v := (-1000000002)) (by decide +kernel) dX5_clear_20 ?_
    exact E _ _ _ _ (⟨rfl, rfl⟩) (rfl) dX5_clear_22

set_option maxHeartbeats 4000000 in
set_option maxRecDepth 100000 in
theorem c_X5_clear_2 (l : Launch) (θ : zH) (ea : Nat → Nat → Nat) (ad : Nat → Nat) (n : Nat → Nat) (g : Nat → Int32) (b : Nat → Bool) (r : Nat → Nat → Int32) (V : Nat → Ev) (x y : Int32) (hx : okN x 61 = true) (hy : okN y 101 = false) : cI l yX5_clear wsX5_clear 1 θ [.ref (ad 0), .int x, .int y] (CW θ ea ad n g b r V) (fun r0 Y => r0 = (-1000000002) ∧ Y = CW θ ea ad n g b r V) := by
  refine z_cI (by decide) rfl rfl (Nat.le_of_ble_eq_true rfl) (lv := [(0, .ref (ad 0)), (1, .int x), (2, .int y)]) rfl (fun κ C E => ?_)
  refine z_iload_n C dX5_clear_0 rfl (show zlk _ 1 = some (.int x) from rfl) ?_
  refine z_if_lt C 20 dX5_clear_1 (by decide) (fun h1n_1 => absurd h1n_1 (okN_n0 hx)) (fun h1n_1 => ?_)
  refine z_iload_n C dX5_clear_4 rfl (show zlk _ 1 = some (.int x) from rfl) ?_
  refine z_bipush C (v := nI 60) dX5_clear_5 (by decide) ?_
  refine z_icmp_gt C 20 dX5_clear_7 (by decide) (fun h7n_2 => absurd h7n_2 (okN_ngt (N := 60) hx (by decide))) (fun h7n_2 => ?_)
  refine z_iload_n C dX5_clear_10 rfl (show zlk _ 2 = some (.int y) from rfl) ?_
  refine z_if_lt C 20 dX5_clear_11 (by decide) (fun h11t_3 => ?_) (fun h11n_3 => ?_)
  · refine z_ldc C (v := (-1000000002)) (by decide +kernel) dX5_clear_20 ?_
    exact E _ _ _ _ (⟨rfl, rfl⟩) (rfl) dX5_clear_22
  · refine z_iload_n C dX5_clear_14 rfl (show zlk _ 2 = some (.int y) from rfl) ?_
    refine z_bipush C (v := nI 100) dX5_clear_15 (by decide) ?_
    refine z_icmp_le C 23 dX5_clear_17 (by decide) (fun h17n_4 => absurd h17n_4 (okN_nle (N := 100) hy h11n_3 (by decide))) (fun h17n_4 => ?_)
    refine z_ldc C (v := (-1000000002)) (by decide +kernel) dX5_clear_20 ?_
    exact E _ _ _ _ (⟨rfl, rfl⟩) (rfl) dX5_clear_22

set_option maxHeartbeats 4000000 in
set_option maxRecDepth 100000 in
theorem c_X5_clear_3 (l : Launch) (θ : zH) (ea : Nat → Nat → Nat) (ad : Nat → Nat) (n : Nat → Nat) (g : Nat → Int32) (b : Nat → Bool) (r : Nat → Nat → Int32) (V : Nat → Ev) (m q : Nat) (hm : m < 61) (hq : q < 101) : cI l yX5_clear wsX5_clear 1 θ [.ref (ad 0), .int (nI m), .int (nI q)] (CW θ ea ad n g b r V) (fun r0 Y => r0 = Int64.toInt32 (m_clr q m) ∧ Y = CW θ ea ad n g b r V) := by
  refine z_cI (by decide) rfl rfl (Nat.le_of_ble_eq_true rfl) (lv := [(0, .ref (ad 0)), (1, .int (nI m)), (2, .int (nI q))]) rfl (fun κ C E => ?_)
  refine z_iload_n C dX5_clear_0 rfl (show zlk _ 1 = some (.int (nI m)) from rfl) ?_
  refine z_if_ltN C 20 dX5_clear_1 (by decide) (by omega) ?_
  refine z_iload_n C dX5_clear_4 rfl (show zlk _ 1 = some (.int (nI m)) from rfl) ?_
  refine z_bipush C (v := nI 60) dX5_clear_5 (by decide) ?_
  refine z_icmp_gtF C 20 dX5_clear_7 (by decide) (by omega) (by omega) (by omega) ?_
  refine z_iload_n C dX5_clear_10 rfl (show zlk _ 2 = some (.int (nI q)) from rfl) ?_
  refine z_if_ltN C 20 dX5_clear_11 (by decide) (by omega) ?_
  refine z_iload_n C dX5_clear_14 rfl (show zlk _ 2 = some (.int (nI q)) from rfl) ?_
  refine z_bipush C (v := nI 100) dX5_clear_15 (by decide) ?_
  refine z_icmp_leT C 23 dX5_clear_17 (by decide) (by omega) (by omega) (by omega) ?_
  refine z_ldc2 C (v := 1000000000) (by decide +kernel) dX5_clear_23 ?_
  refine z_lstore_n C [(3, .long (1000000000)), (0, .ref (ad 0)), (1, .int (nI m)), (2, .int (nI q))] dX5_clear_26 rfl (by decide) rfl ?_
  refine z_iconst C (v := nI 0) dX5_clear_27 (by decide) ?_
  refine z_istore C [(5, .int (nI 0)), (3, .long (1000000000)), (0, .ref (ad 0)), (1, .int (nI m)), (2, .int (nI q))] dX5_clear_28 (by decide) rfl ?_
  refine z_lv (lv' := [(0, .ref (ad 0)), (1, .int (nI m)), (2, .int (nI q)), (3, .long (m_clr q 0)), (5, .int (nI 0))]) rfl ?_
  refine z_up (fun k => Z κ (CW θ ea ad n g b r V) 30 [(0, .ref (ad 0)), (1, .int (nI m)), (2, .int (nI q)), (3, .long (m_clr q k)), (5, .int (nI k))] []) (m) ?_ ?_ 0 (by omega)
  · refine z_iload C dX5_clear_30 (show zlk _ 5 = some (.int (nI m)) from rfl) ?_
    refine z_iload_n C dX5_clear_32 rfl (show zlk _ 1 = some (.int (nI m)) from rfl) ?_
    refine z_icmp_geT C 51 dX5_clear_33 (by decide) (by omega) (by omega) (by omega) ?_
    refine z_lload_n C dX5_clear_51 rfl (show zlk _ 3 = some (.long (m_clr q m)) from rfl) ?_
    refine z_l2i C dX5_clear_52 ?_
    exact E _ _ _ _ (⟨rfl, rfl⟩) (rfl) dX5_clear_53
  · intro k hk30 ih30
    refine z_iload C dX5_clear_30 (show zlk _ 5 = some (.int (nI k)) from rfl) ?_
    refine z_iload_n C dX5_clear_32 rfl (show zlk _ 1 = some (.int (nI m)) from rfl) ?_
    refine z_icmp_geF C 51 dX5_clear_33 (by decide) (by omega) (by omega) (by omega) ?_
    refine z_lload_n C dX5_clear_36 rfl (show zlk _ 3 = some (.long (m_clr q k)) from rfl) ?_
    refine z_iload_n C dX5_clear_37 rfl (show zlk _ 2 = some (.int (nI q)) from rfl) ?_
    refine z_i2l C dX5_clear_38 ?_
    refine z_lmul C dX5_clear_39 ?_
    refine z_ldc2 C (v := 100) (by decide +kernel) dX5_clear_40 ?_
    refine z_ldiv C dX5_clear_43 (by decide) ?_
    refine z_lstore_n C [(3, .long (((m_clr q k) * (Int32.toInt64 (nI q))) / (100))), (0, .ref (ad 0)), (1, .int (nI m)), (2, .int (nI q)), (5, .int (nI k))] dX5_clear_44 rfl (by decide) rfl ?_
    refine z_iincN C [(5, .int (nI (k + 1))), (3, .long (((m_clr q k) * (Int32.toInt64 (nI q))) / (100))), (0, .ref (ad 0)), (1, .int (nI m)), (2, .int (nI q))] dX5_clear_45 rfl (by decide) rfl ?_
    refine z_goto C 30 dX5_clear_48 (by decide) ?_
    exact z_to (ih30) (rfl) (rfl)

def k_g (P D : Nat) : Int32 := if nI D < nI P - nI D then nI P - nI D else nI D
def k_ab (P : Nat) (D : Nat → Nat) : Nat → Int32 × Int32
  | 0 => ((-1), nI P)
  | k + 1 => if (k_ab P D k).2 ≤ k_g P (D k) then k_ab P D k else (nI k, k_g P (D k))
def k_D (g : Nat → Int32) (o : Nat → Int32) (S k : Nat) : Nat := k_pf g o (nI 1 <<< (nI k &&& 31)) S
set_option maxHeartbeats 4000000 in
set_option maxRecDepth 100000 in
theorem c_X5_ask (l : Launch) (θ : zH) (ea : Nat → Nat → Nat) (ad : Nat → Nat) (n : Nat → Nat) (g : Nat → Int32) (b : Nat → Bool) (r : Nat → Nat → Int32) (V : Nat → Ev)  (hS : n 10 ≤ 6) : cI l yX5_ask wsX5_ask 3 θ [.ref (ad 0)] (CW θ ea ad n g b r V) (fun r0 Y => r0 = (k_ab (k_pf g (r 4) (nI 0) (n 10)) (k_D g (r 4) (n 10)) 30).1 ∧ Y = CW θ ea ad n g b r V) := by
  refine z_cI (by decide) rfl rfl (Nat.le_of_ble_eq_true rfl) (lv := [(0, .ref (ad 0))]) rfl (fun κ C E => ?_)
  refine z_aload_n C dX5_ask_0 rfl (show zlk _ 0 = some (.ref (ad 0)) from rfl) ?_
  refine z_iconst C (v := nI 0) dX5_ask_1 (by decide) ?_
  refine z_callVi C (As := [.int (nI 0)]) (rest := []) (c_X5_pairsThatFit l θ ea ad n g b r V (nI 0) hS) gX5_ask_X5_pairsThatFit rfl 1 (by decide +kernel) (by decide) (by decide) 0 rfl rfl rfl rfl rfl (Nat.le_of_ble_eq_true rfl) dX5_ask_2 ?_
  rintro _ _ ⟨rfl, rfl⟩
  refine z_istore_n C [(1, .int (nI (k_pf g (r 4) (nI 0) (n 10)))), (0, .ref (ad 0))] dX5_ask_5 rfl (by decide) rfl ?_
  refine z_iconst C (v := (-1)) dX5_ask_6 (by decide) ?_
  refine z_istore_n C [(2, .int (-1)), (1, .int (nI (k_pf g (r 4) (nI 0) (n 10)))), (0, .ref (ad 0))] dX5_ask_7 rfl (by decide) rfl ?_
  refine z_iload_n C dX5_ask_8 rfl (show zlk _ 1 = some (.int (nI (k_pf g (r 4) (nI 0) (n 10)))) from rfl) ?_
  refine z_istore_n C [(3, .int (nI (k_pf g (r 4) (nI 0) (n 10)))), (2, .int (-1)), (1, .int (nI (k_pf g (r 4) (nI 0) (n 10)))), (0, .ref (ad 0))] dX5_ask_9 rfl (by decide) rfl ?_
  refine z_iconst C (v := nI 0) dX5_ask_10 (by decide) ?_
  refine z_istore C [(4, .int (nI 0)), (3, .int (nI (k_pf g (r 4) (nI 0) (n 10)))), (2, .int (-1)), (1, .int (nI (k_pf g (r 4) (nI 0) (n 10)))), (0, .ref (ad 0))] dX5_ask_11 (by decide) rfl ?_
  refine z_lv (lv' := [(0, .ref (ad 0)), (1, .int (nI (k_pf g (r 4) (nI 0) (n 10)))), (2, .int ((k_ab (k_pf g (r 4) (nI 0) (n 10)) (k_D g (r 4) (n 10)) 0).1)), (3, .int ((k_ab (k_pf g (r 4) (nI 0) (n 10)) (k_D g (r 4) (n 10)) 0).2)), (4, .int (nI 0))]) rfl ?_
  refine z_up (fun k => Z κ (CW θ ea ad n g b r V) 13 [(0, .ref (ad 0)), (1, .int (nI (k_pf g (r 4) (nI 0) (n 10)))), (2, .int ((k_ab (k_pf g (r 4) (nI 0) (n 10)) (k_D g (r 4) (n 10)) k).1)), (3, .int ((k_ab (k_pf g (r 4) (nI 0) (n 10)) (k_D g (r 4) (n 10)) k).2)), (4, .int (nI k))] []) (30) ?_ ?_ 0 (by omega)
  · refine z_iload C dX5_ask_13 (show zlk _ 4 = some (.int (nI 30)) from rfl) ?_
    refine z_bipush C (v := nI 30) dX5_ask_15 (by decide) ?_
    refine z_icmp_geT C 59 dX5_ask_17 (by decide) (by omega) (by omega) (by omega) ?_
    refine z_iload_n C dX5_ask_59 rfl (show zlk _ 2 = some (.int ((k_ab (k_pf g (r 4) (nI 0) (n 10)) (k_D g (r 4) (n 10)) 30).1)) from rfl) ?_
    exact E _ _ _ _ (⟨rfl, rfl⟩) (rfl) dX5_ask_60
  · intro k hk13 ih13
    refine z_iload C dX5_ask_13 (show zlk _ 4 = some (.int (nI k)) from rfl) ?_
    refine z_bipush C (v := nI 30) dX5_ask_15 (by decide) ?_
    refine z_icmp_geF C 59 dX5_ask_17 (by decide) (by omega) (by omega) (by omega) ?_
    refine z_aload_n C dX5_ask_20 rfl (show zlk _ 0 = some (.ref (ad 0)) from rfl) ?_
    refine z_iconst C (v := nI 1) dX5_ask_21 (by decide) ?_
    refine z_iload C dX5_ask_22 (show zlk _ 4 = some (.int (nI k)) from rfl) ?_
    refine z_ishl C dX5_ask_24 ?_
    refine z_callVi C (As := [.int ((nI 1) <<< ((nI k) &&& 31))]) (rest := []) (c_X5_pairsThatFit l θ ea ad n g b r V ((nI 1) <<< ((nI k) &&& 31)) hS) gX5_ask_X5_pairsThatFit rfl 1 (by decide +kernel) (by decide) (by decide) 0 rfl rfl rfl rfl rfl (Nat.le_of_ble_eq_true rfl) dX5_ask_25 ?_
    rintro _ _ ⟨rfl, rfl⟩
    refine z_top (v' := .int (nI (k_D g (r 4) (n 10) k))) (rfl) ?_
    refine z_istore C [(5, .int (nI (k_D g (r 4) (n 10) k))), (0, .ref (ad 0)), (1, .int (nI (k_pf g (r 4) (nI 0) (n 10)))), (2, .int ((k_ab (k_pf g (r 4) (nI 0) (n 10)) (k_D g (r 4) (n 10)) k).1)), (3, .int ((k_ab (k_pf g (r 4) (nI 0) (n 10)) (k_D g (r 4) (n 10)) k).2)), (4, .int (nI k))] dX5_ask_28 (by decide) rfl ?_
    refine z_iload C dX5_ask_30 (show zlk _ 5 = some (.int (nI (k_D g (r 4) (n 10) k))) from rfl) ?_
    refine z_iload_n C dX5_ask_32 rfl (show zlk _ 1 = some (.int (nI (k_pf g (r 4) (nI 0) (n 10)))) from rfl) ?_
    refine z_iload C dX5_ask_33 (show zlk _ 5 = some (.int (nI (k_D g (r 4) (n 10) k))) from rfl) ?_
    refine z_isub C dX5_ask_35 ?_
    refine z_mmax C (by decide +kernel) (by decide +kernel) (by decide +kernel) (by decide +kernel) (by decide) (Nat.le_of_ble_eq_true rfl) dX5_ask_36 ?_
    refine z_top (v' := .int (k_g (k_pf g (r 4) (nI 0) (n 10)) (k_D g (r 4) (n 10) k))) (rfl) ?_
    refine z_istore C [(6, .int (k_g (k_pf g (r 4) (nI 0) (n 10)) (k_D g (r 4) (n 10) k))), (5, .int (nI (k_D g (r 4) (n 10) k))), (0, .ref (ad 0)), (1, .int (nI (k_pf g (r 4) (nI 0) (n 10)))), (2, .int ((k_ab (k_pf g (r 4) (nI 0) (n 10)) (k_D g (r 4) (n 10)) k).1)), (3, .int ((k_ab (k_pf g (r 4) (nI 0) (n 10)) (k_D g (r 4) (n 10)) k).2)), (4, .int (nI k))] dX5_ask_39 (by decide) rfl ?_
    refine z_iload C dX5_ask_41 (show zlk _ 6 = some (.int (k_g (k_pf g (r 4) (nI 0) (n 10)) (k_D g (r 4) (n 10) k))) from rfl) ?_
    refine z_iload_n C dX5_ask_43 rfl (show zlk _ 3 = some (.int ((k_ab (k_pf g (r 4) (nI 0) (n 10)) (k_D g (r 4) (n 10)) k).2)) from rfl) ?_
    refine z_icmp_ge C 53 dX5_ask_44 (by decide) (fun h44t_1 => ?_) (fun h44n_1 => ?_)
    · refine z_iincN C [(4, .int (nI (k + 1))), (6, .int (k_g (k_pf g (r 4) (nI 0) (n 10)) (k_D g (r 4) (n 10) k))), (5, .int (nI (k_D g (r 4) (n 10) k))), (0, .ref (ad 0)), (1, .int (nI (k_pf g (r 4) (nI 0) (n 10)))), (2, .int ((k_ab (k_pf g (r 4) (nI 0) (n 10)) (k_D g (r 4) (n 10)) k).1)), (3, .int ((k_ab (k_pf g (r 4) (nI 0) (n 10)) (k_D g (r 4) (n 10)) k).2))] dX5_ask_53 rfl (by decide) rfl ?_
      refine z_goto C 13 dX5_ask_56 (by decide) ?_
      exact z_to (ih13) (rfl) (by simp [zlk, k_ab, h44t_1])
    · refine z_iload C dX5_ask_47 (show zlk _ 6 = some (.int (k_g (k_pf g (r 4) (nI 0) (n 10)) (k_D g (r 4) (n 10) k))) from rfl) ?_
      refine z_istore_n C [(3, .int (k_g (k_pf g (r 4) (nI 0) (n 10)) (k_D g (r 4) (n 10) k))), (6, .int (k_g (k_pf g (r 4) (nI 0) (n 10)) (k_D g (r 4) (n 10) k))), (5, .int (nI (k_D g (r 4) (n 10) k))), (0, .ref (ad 0)), (1, .int (nI (k_pf g (r 4) (nI 0) (n 10)))), (2, .int ((k_ab (k_pf g (r 4) (nI 0) (n 10)) (k_D g (r 4) (n 10)) k).1)), (4, .int (nI k))] dX5_ask_49 rfl (by decide) rfl ?_
      refine z_iload C dX5_ask_50 (show zlk _ 4 = some (.int (nI k)) from rfl) ?_
      refine z_istore_n C [(2, .int (nI k)), (3, .int (k_g (k_pf g (r 4) (nI 0) (n 10)) (k_D g (r 4) (n 10) k))), (6, .int (k_g (k_pf g (r 4) (nI 0) (n 10)) (k_D g (r 4) (n 10) k))), (5, .int (nI (k_D g (r 4) (n 10) k))), (0, .ref (ad 0)), (1, .int (nI (k_pf g (r 4) (nI 0) (n 10)))), (4, .int (nI k))] dX5_ask_52 rfl (by decide) rfl ?_
      refine z_iincN C [(4, .int (nI (k + 1))), (2, .int (nI k)), (3, .int (k_g (k_pf g (r 4) (nI 0) (n 10)) (k_D g (r 4) (n 10) k))), (6, .int (k_g (k_pf g (r 4) (nI 0) (n 10)) (k_D g (r 4) (n 10) k))), (5, .int (nI (k_D g (r 4) (n 10) k))), (0, .ref (ad 0)), (1, .int (nI (k_pf g (r 4) (nI 0) (n 10))))] dX5_ask_53 rfl (by decide) rfl ?_
      refine z_goto C 13 dX5_ask_56 (by decide) ?_
      exact z_to (ih13) (rfl) (by simp [zlk, k_ab, h44n_1])

set_option maxHeartbeats 4000000 in
set_option maxRecDepth 100000 in
theorem c_X5_told_0 (l : Launch) (θ : zH) (ea : Nat → Nat → Nat) (ad : Nat → Nat) (n : Nat → Nat) (g : Nat → Int32) (b : Nat → Bool) (r : Nat → Nat → Int32) (V : Nat → Ev)  (hW : n 11 ≤ 5) (hS : n 10 ≤ 6) (h9 : n 9 ≤ 30) : cI l yX5_told wsX5_told 4 θ [.ref (ad 0), .int (nI 0)] (CW θ ea ad n g b r V) (fun r0 Y => r0 = nI (n 9) ∧ Y = CW θ ea ad n g b r V) := by
  refine z_cI (by decide) rfl rfl (Nat.le_of_ble_eq_true rfl) (lv := [(0, .ref (ad 0)), (1, .int (nI 0))]) rfl (fun κ C E => ?_)
  have hinX0 : ∀ w ∈ wsX00, w ∈ wsX5_told := by decide +kernel
  have hinX5 : ∀ w ∈ wsX50, w ∈ wsX5_told := by decide +kernel
  refine z_iload_n C dX5_told_0 rfl (show zlk _ 1 = some (.int (nI 0)) from rfl) ?_
  refine z_tableIn C 80 dX5_told_1 (by decide) (by decide) (off := 79) (by decide) (by decide) ?_
  refine z_aload_n C dX5_told_80 rfl (show zlk _ 0 = some (.ref (ad 0)) from rfl) ?_
  refine z_get C hinX5 0 cc_0 rfl 1 (by decide) (by decide +kernel) cg_0_1 dX5_told_81 ?_
  refine z_getN C (host := "GnatPortraits") hinX0 3 cc_3 rfl 1 (by decide) (by decide +kernel) cg_3_1 dX5_told_84 ?_
  exact E _ _ _ _ (⟨rfl, rfl⟩) (rfl) dX5_told_87

set_option maxHeartbeats 4000000 in
set_option maxRecDepth 100000 in
theorem c_X5_told_1 (l : Launch) (θ : zH) (ea : Nat → Nat → Nat) (ad : Nat → Nat) (n : Nat → Nat) (g : Nat → Int32) (b : Nat → Bool) (r : Nat → Nat → Int32) (V : Nat → Ev)  (hW : n 11 ≤ 5) (hS : n 10 ≤ 6) (h9 : n 9 ≤ 30) : cI l yX5_told wsX5_told 4 θ [.ref (ad 0), .int (nI 1)] (CW θ ea ad n g b r V) (fun r0 Y => r0 = nI (n 10) ∧ Y = CW θ ea ad n g b r V) := by
  refine z_cI (by decide) rfl rfl (Nat.le_of_ble_eq_true rfl) (lv := [(0, .ref (ad 0)), (1, .int (nI 1))]) rfl (fun κ C E => ?_)
  have hinX0 : ∀ w ∈ wsX00, w ∈ wsX5_told := by decide +kernel
  have hinX5 : ∀ w ∈ wsX50, w ∈ wsX5_told := by decide +kernel
  refine z_iload_n C dX5_told_0 rfl (show zlk _ 1 = some (.int (nI 1)) from rfl) ?_
  refine z_tableIn C 88 dX5_told_1 (by decide) (by decide) (off := 87) (by decide) (by decide) ?_
  refine z_aload_n C dX5_told_88 rfl (show zlk _ 0 = some (.ref (ad 0)) from rfl) ?_
  refine z_get C hinX5 0 cc_0 rfl 1 (by decide) (by decide +kernel) cg_0_1 dX5_told_89 ?_
  refine z_getN C (host := "GnatPortraits") hinX0 3 cc_3 rfl 2 (by decide) (by decide +kernel) cg_3_2 dX5_told_92 ?_
  exact E _ _ _ _ (⟨rfl, rfl⟩) (rfl) dX5_told_95

set_option maxHeartbeats 4000000 in
set_option maxRecDepth 100000 in
theorem c_X5_told_2 (l : Launch) (θ : zH) (ea : Nat → Nat → Nat) (ad : Nat → Nat) (n : Nat → Nat) (g : Nat → Int32) (b : Nat → Bool) (r : Nat → Nat → Int32) (V : Nat → Ev)  (hW : n 11 ≤ 5) (hS : n 10 ≤ 6) (h9 : n 9 ≤ 30) : cI l yX5_told wsX5_told 4 θ [.ref (ad 0), .int (nI 2)] (CW θ ea ad n g b r V) (fun r0 Y => r0 = nI (n 11) ∧ Y = CW θ ea ad n g b r V) := by
  refine z_cI (by decide) rfl rfl (Nat.le_of_ble_eq_true rfl) (lv := [(0, .ref (ad 0)), (1, .int (nI 2))]) rfl (fun κ C E => ?_)
  have hinX0 : ∀ w ∈ wsX00, w ∈ wsX5_told := by decide +kernel
  have hinX5 : ∀ w ∈ wsX50, w ∈ wsX5_told := by decide +kernel
  refine z_iload_n C dX5_told_0 rfl (show zlk _ 1 = some (.int (nI 2)) from rfl) ?_
  refine z_tableIn C 96 dX5_told_1 (by decide) (by decide) (off := 95) (by decide) (by decide) ?_
  refine z_aload_n C dX5_told_96 rfl (show zlk _ 0 = some (.ref (ad 0)) from rfl) ?_
  refine z_get C hinX5 0 cc_0 rfl 1 (by decide) (by decide +kernel) cg_0_1 dX5_told_97 ?_
  refine z_getN C (host := "GnatPortraits") hinX0 3 cc_3 rfl 3 (by decide) (by decide +kernel) cg_3_3 dX5_told_100 ?_
  exact E _ _ _ _ (⟨rfl, rfl⟩) (rfl) dX5_told_103

set_option maxHeartbeats 4000000 in
set_option maxRecDepth 100000 in
theorem c_X5_told_3 (l : Launch) (θ : zH) (ea : Nat → Nat → Nat) (ad : Nat → Nat) (n : Nat → Nat) (g : Nat → Int32) (b : Nat → Bool) (r : Nat → Nat → Int32) (V : Nat → Ev)  (hW : n 11 ≤ 5) (hS : n 10 ≤ 6) (h9 : n 9 ≤ 30) : cI l yX5_told wsX5_told 4 θ [.ref (ad 0), .int (nI 3)] (CW θ ea ad n g b r V) (fun r0 Y => r0 = nI (n 12) ∧ Y = CW θ ea ad n g b r V) := by
  refine z_cI (by decide) rfl rfl (Nat.le_of_ble_eq_true rfl) (lv := [(0, .ref (ad 0)), (1, .int (nI 3))]) rfl (fun κ C E => ?_)
  have hinX0 : ∀ w ∈ wsX00, w ∈ wsX5_told := by decide +kernel
  have hinX5 : ∀ w ∈ wsX50, w ∈ wsX5_told := by decide +kernel
  refine z_iload_n C dX5_told_0 rfl (show zlk _ 1 = some (.int (nI 3)) from rfl) ?_
  refine z_tableIn C 104 dX5_told_1 (by decide) (by decide) (off := 103) (by decide) (by decide) ?_
  refine z_aload_n C dX5_told_104 rfl (show zlk _ 0 = some (.ref (ad 0)) from rfl) ?_
  refine z_get C hinX5 0 cc_0 rfl 1 (by decide) (by decide +kernel) cg_0_1 dX5_told_105 ?_
  refine z_getN C (host := "GnatPortraits") hinX0 3 cc_3 rfl 4 (by decide) (by decide +kernel) cg_3_4 dX5_told_108 ?_
  exact E _ _ _ _ (⟨rfl, rfl⟩) (rfl) dX5_told_111

set_option maxHeartbeats 4000000 in
set_option maxRecDepth 100000 in
theorem c_X5_told_4 (l : Launch) (θ : zH) (ea : Nat → Nat → Nat) (ad : Nat → Nat) (n : Nat → Nat) (g : Nat → Int32) (b : Nat → Bool) (r : Nat → Nat → Int32) (V : Nat → Ev)  (hW : n 11 ≤ 5) (hS : n 10 ≤ 6) (h9 : n 9 ≤ 30) : cI l yX5_told wsX5_told 4 θ [.ref (ad 0), .int (nI 4)] (CW θ ea ad n g b r V) (fun r0 Y => r0 = nI (n 2) ∧ Y = CW θ ea ad n g b r V) := by
  refine z_cI (by decide) rfl rfl (Nat.le_of_ble_eq_true rfl) (lv := [(0, .ref (ad 0)), (1, .int (nI 4))]) rfl (fun κ C E => ?_)
  have hinX4 : ∀ w ∈ wsX40, w ∈ wsX5_told := by decide +kernel
  have hinX5 : ∀ w ∈ wsX50, w ∈ wsX5_told := by decide +kernel
  refine z_iload_n C dX5_told_0 rfl (show zlk _ 1 = some (.int (nI 4)) from rfl) ?_
  refine z_tableIn C 112 dX5_told_1 (by decide) (by decide) (off := 111) (by decide) (by decide) ?_
  refine z_aload_n C dX5_told_112 rfl (show zlk _ 0 = some (.ref (ad 0)) from rfl) ?_
  refine z_get C hinX5 0 cc_0 rfl 0 (by decide) (by decide +kernel) cg_0_0 dX5_told_113 ?_
  refine z_getN C (host := "GnatPortraits") hinX4 1 cc_1 rfl 2 (by decide) (by decide +kernel) cg_1_2 dX5_told_116 ?_
  exact E _ _ _ _ (⟨rfl, rfl⟩) (rfl) dX5_told_119

set_option maxHeartbeats 4000000 in
set_option maxRecDepth 100000 in
theorem c_X5_told_5 (l : Launch) (θ : zH) (ea : Nat → Nat → Nat) (ad : Nat → Nat) (n : Nat → Nat) (g : Nat → Int32) (b : Nat → Bool) (r : Nat → Nat → Int32) (V : Nat → Ev)  (hW : n 11 ≤ 5) (hS : n 10 ≤ 6) (h9 : n 9 ≤ 30) : cI l yX5_told wsX5_told 4 θ [.ref (ad 0), .int (nI 5)] (CW θ ea ad n g b r V) (fun r0 Y => r0 = nI (n 13) ∧ Y = CW θ ea ad n g b r V) := by
  refine z_cI (by decide) rfl rfl (Nat.le_of_ble_eq_true rfl) (lv := [(0, .ref (ad 0)), (1, .int (nI 5))]) rfl (fun κ C E => ?_)
  have hinX1 : ∀ w ∈ wsX10, w ∈ wsX5_told := by decide +kernel
  have hinX5 : ∀ w ∈ wsX50, w ∈ wsX5_told := by decide +kernel
  refine z_iload_n C dX5_told_0 rfl (show zlk _ 1 = some (.int (nI 5)) from rfl) ?_
  refine z_tableIn C 120 dX5_told_1 (by decide) (by decide) (off := 119) (by decide) (by decide) ?_
  refine z_aload_n C dX5_told_120 rfl (show zlk _ 0 = some (.ref (ad 0)) from rfl) ?_
  refine z_get C hinX5 0 cc_0 rfl 2 (by decide) (by decide +kernel) cg_0_2 dX5_told_121 ?_
  refine z_getN C (host := "GnatPortraits") hinX1 4 cc_4 rfl 5 (by decide) (by decide +kernel) cg_4_5 dX5_told_124 ?_
  exact E _ _ _ _ (⟨rfl, rfl⟩) (rfl) dX5_told_127

set_option maxHeartbeats 4000000 in
set_option maxRecDepth 100000 in
theorem c_X5_told_6 (l : Launch) (θ : zH) (ea : Nat → Nat → Nat) (ad : Nat → Nat) (n : Nat → Nat) (g : Nat → Int32) (b : Nat → Bool) (r : Nat → Nat → Int32) (V : Nat → Ev)  (hW : n 11 ≤ 5) (hS : n 10 ≤ 6) (h9 : n 9 ≤ 30) : cI l yX5_told wsX5_told 4 θ [.ref (ad 0), .int (nI 6)] (CW θ ea ad n g b r V) (fun r0 Y => r0 = g 3 + nI 3 ∧ Y = CW θ ea ad n g b r V) := by
  refine z_cI (by decide) rfl rfl (Nat.le_of_ble_eq_true rfl) (lv := [(0, .ref (ad 0)), (1, .int (nI 6))]) rfl (fun κ C E => ?_)
  have hinX1 : ∀ w ∈ wsX10, w ∈ wsX5_told := by decide +kernel
  have hinX5 : ∀ w ∈ wsX50, w ∈ wsX5_told := by decide +kernel
  refine z_iload_n C dX5_told_0 rfl (show zlk _ 1 = some (.int (nI 6)) from rfl) ?_
  refine z_tableIn C 128 dX5_told_1 (by decide) (by decide) (off := 127) (by decide) (by decide) ?_
  refine z_aload_n C dX5_told_128 rfl (show zlk _ 0 = some (.ref (ad 0)) from rfl) ?_
  refine z_get C hinX5 0 cc_0 rfl 2 (by decide) (by decide +kernel) cg_0_2 dX5_told_129 ?_
  refine z_getN C (host := "GnatPortraits") hinX1 4 cc_4 rfl 0 (by decide) (by decide +kernel) cg_4_0 dX5_told_132 ?_
  refine z_iconst C (v := nI 3) dX5_told_135 (by decide) ?_
  refine z_iadd C dX5_told_136 ?_
  exact E _ _ _ _ (⟨rfl, rfl⟩) (rfl) dX5_told_137

set_option maxHeartbeats 4000000 in
set_option maxRecDepth 100000 in
theorem c_X5_told_7 (l : Launch) (θ : zH) (ea : Nat → Nat → Nat) (ad : Nat → Nat) (n : Nat → Nat) (g : Nat → Int32) (b : Nat → Bool) (r : Nat → Nat → Int32) (V : Nat → Ev)  (hW : n 11 ≤ 5) (hS : n 10 ≤ 6) (h9 : n 9 ≤ 30) : cI l yX5_told wsX5_told 4 θ [.ref (ad 0), .int (nI 7)] (CW θ ea ad n g b r V) (fun r0 Y => r0 = g 4 ∧ Y = CW θ ea ad n g b r V) := by
  refine z_cI (by decide) rfl rfl (Nat.le_of_ble_eq_true rfl) (lv := [(0, .ref (ad 0)), (1, .int (nI 7))]) rfl (fun κ C E => ?_)
  have hinX1 : ∀ w ∈ wsX10, w ∈ wsX5_told := by decide +kernel
  have hinX5 : ∀ w ∈ wsX50, w ∈ wsX5_told := by decide +kernel
  refine z_iload_n C dX5_told_0 rfl (show zlk _ 1 = some (.int (nI 7)) from rfl) ?_
  refine z_tableIn C 138 dX5_told_1 (by decide) (by decide) (off := 137) (by decide) (by decide) ?_
  refine z_aload_n C dX5_told_138 rfl (show zlk _ 0 = some (.ref (ad 0)) from rfl) ?_
  refine z_get C hinX5 0 cc_0 rfl 2 (by decide) (by decide +kernel) cg_0_2 dX5_told_139 ?_
  refine z_getN C (host := "GnatPortraits") hinX1 4 cc_4 rfl 1 (by decide) (by decide +kernel) cg_4_1 dX5_told_142 ?_
  exact E _ _ _ _ (⟨rfl, rfl⟩) (rfl) dX5_told_145

set_option maxHeartbeats 4000000 in
set_option maxRecDepth 100000 in
theorem c_X5_told_8 (l : Launch) (θ : zH) (ea : Nat → Nat → Nat) (ad : Nat → Nat) (n : Nat → Nat) (g : Nat → Int32) (b : Nat → Bool) (r : Nat → Nat → Int32) (V : Nat → Ev)  (hW : n 11 ≤ 5) (hS : n 10 ≤ 6) (h9 : n 9 ≤ 30) : cI l yX5_told wsX5_told 4 θ [.ref (ad 0), .int (nI 8)] (CW θ ea ad n g b r V) (fun r0 Y => r0 = g 5 ∧ Y = CW θ ea ad n g b r V) := by
  refine z_cI (by decide) rfl rfl (Nat.le_of_ble_eq_true rfl) (lv := [(0, .ref (ad 0)), (1, .int (nI 8))]) rfl (fun κ C E => ?_)
  have hinX1 : ∀ w ∈ wsX10, w ∈ wsX5_told := by decide +kernel
  have hinX5 : ∀ w ∈ wsX50, w ∈ wsX5_told := by decide +kernel
  refine z_iload_n C dX5_told_0 rfl (show zlk _ 1 = some (.int (nI 8)) from rfl) ?_
  refine z_tableIn C 146 dX5_told_1 (by decide) (by decide) (off := 145) (by decide) (by decide) ?_
  refine z_aload_n C dX5_told_146 rfl (show zlk _ 0 = some (.ref (ad 0)) from rfl) ?_
  refine z_get C hinX5 0 cc_0 rfl 2 (by decide) (by decide +kernel) cg_0_2 dX5_told_147 ?_
  refine z_getN C (host := "GnatPortraits") hinX1 4 cc_4 rfl 2 (by decide) (by decide +kernel) cg_4_2 dX5_told_150 ?_
  exact E _ _ _ _ (⟨rfl, rfl⟩) (rfl) dX5_told_153

set_option maxHeartbeats 4000000 in
set_option maxRecDepth 100000 in
theorem c_X5_told_9 (l : Launch) (θ : zH) (ea : Nat → Nat → Nat) (ad : Nat → Nat) (n : Nat → Nat) (g : Nat → Int32) (b : Nat → Bool) (r : Nat → Nat → Int32) (V : Nat → Ev)  (hW : n 11 ≤ 5) (hS : n 10 ≤ 6) (h9 : n 9 ≤ 30) : cI l yX5_told wsX5_told 4 θ [.ref (ad 0), .int (nI 9)] (CW θ ea ad n g b r V) (fun r0 Y => r0 = bI (b 2) ∧ Y = CW θ ea ad n g b r V) := by
  refine z_cI (by decide) rfl rfl (Nat.le_of_ble_eq_true rfl) (lv := [(0, .ref (ad 0)), (1, .int (nI 9))]) rfl (fun κ C E => ?_)
  have hinX1 : ∀ w ∈ wsX10, w ∈ wsX5_told := by decide +kernel
  have hinX5 : ∀ w ∈ wsX50, w ∈ wsX5_told := by decide +kernel
  refine z_iload_n C dX5_told_0 rfl (show zlk _ 1 = some (.int (nI 9)) from rfl) ?_
  refine z_tableIn C 154 dX5_told_1 (by decide) (by decide) (off := 153) (by decide) (by decide) ?_
  refine z_aload_n C dX5_told_154 rfl (show zlk _ 0 = some (.ref (ad 0)) from rfl) ?_
  refine z_get C hinX5 0 cc_0 rfl 2 (by decide) (by decide +kernel) cg_0_2 dX5_told_155 ?_
  refine z_getN C (host := "GnatPortraits") hinX1 4 cc_4 rfl 3 (by decide) (by decide +kernel) cg_4_3 dX5_told_158 ?_
  refine z_if_eqB C 168 dX5_told_161 (by decide) (fun h161t_1 => ?_) (fun h161n_1 => ?_)
  · refine z_iconst C (v := nI 0) dX5_told_168 (by decide) ?_
    exact E _ _ _ _ (⟨bI_f h161t_1, rfl⟩) (rfl) dX5_told_169
  · refine z_iconst C (v := nI 1) dX5_told_164 (by decide) ?_
    refine z_goto C 169 dX5_told_165 (by decide) ?_
    exact E _ _ _ _ (⟨bI_t h161n_1, rfl⟩) (rfl) dX5_told_169

set_option maxHeartbeats 4000000 in
set_option maxRecDepth 100000 in
theorem c_X5_told_10 (l : Launch) (θ : zH) (ea : Nat → Nat → Nat) (ad : Nat → Nat) (n : Nat → Nat) (g : Nat → Int32) (b : Nat → Bool) (r : Nat → Nat → Int32) (V : Nat → Ev)  (hW : n 11 ≤ 5) (hS : n 10 ≤ 6) (h9 : n 9 ≤ 30) : cI l yX5_told wsX5_told 4 θ [.ref (ad 0), .int (nI 10)] (CW θ ea ad n g b r V) (fun r0 Y => r0 = g 6 ∧ Y = CW θ ea ad n g b r V) := by
  refine z_cI (by decide) rfl rfl (Nat.le_of_ble_eq_true rfl) (lv := [(0, .ref (ad 0)), (1, .int (nI 10))]) rfl (fun κ C E => ?_)
  have hinX1 : ∀ w ∈ wsX10, w ∈ wsX5_told := by decide +kernel
  have hinX5 : ∀ w ∈ wsX50, w ∈ wsX5_told := by decide +kernel
  refine z_iload_n C dX5_told_0 rfl (show zlk _ 1 = some (.int (nI 10)) from rfl) ?_
  refine z_tableIn C 170 dX5_told_1 (by decide) (by decide) (off := 169) (by decide) (by decide) ?_
  refine z_aload_n C dX5_told_170 rfl (show zlk _ 0 = some (.ref (ad 0)) from rfl) ?_
  refine z_get C hinX5 0 cc_0 rfl 2 (by decide) (by decide +kernel) cg_0_2 dX5_told_171 ?_
  refine z_getN C (host := "GnatPortraits") hinX1 4 cc_4 rfl 4 (by decide) (by decide +kernel) cg_4_4 dX5_told_174 ?_
  exact E _ _ _ _ (⟨rfl, rfl⟩) (rfl) dX5_told_177

set_option maxHeartbeats 4000000 in
set_option maxRecDepth 100000 in
theorem c_X5_told_11 (l : Launch) (θ : zH) (ea : Nat → Nat → Nat) (ad : Nat → Nat) (n : Nat → Nat) (g : Nat → Int32) (b : Nat → Bool) (r : Nat → Nat → Int32) (V : Nat → Ev)  (hW : n 11 ≤ 5) (hS : n 10 ≤ 6) (h9 : n 9 ≤ 30) : cI l yX5_told wsX5_told 4 θ [.ref (ad 0), .int (nI 11)] (CW θ ea ad n g b r V) (fun r0 Y => r0 = k_cl n g b r (n 11) ∧ Y = CW θ ea ad n g b r V) := by
  refine z_cI (by decide) rfl rfl (Nat.le_of_ble_eq_true rfl) (lv := [(0, .ref (ad 0)), (1, .int (nI 11))]) rfl (fun κ C E => ?_)
  refine z_iload_n C dX5_told_0 rfl (show zlk _ 1 = some (.int (nI 11)) from rfl) ?_
  refine z_tableIn C 178 dX5_told_1 (by decide) (by decide) (off := 177) (by decide) (by decide) ?_
  refine z_aload_n C dX5_told_178 rfl (show zlk _ 0 = some (.ref (ad 0)) from rfl) ?_
  refine z_callVi C (As := []) (rest := []) (c_X5_cloudNow l θ ea ad n g b r V hW hS h9) gX5_told_X5_cloudNow rfl 0 (by decide +kernel) (by decide) (by decide) 0 rfl rfl rfl rfl rfl (Nat.le_of_ble_eq_true rfl) dX5_told_179 ?_
  rintro _ _ ⟨rfl, rfl⟩
  exact E _ _ _ _ (⟨rfl, rfl⟩) (rfl) dX5_told_182

set_option maxHeartbeats 4000000 in
set_option maxRecDepth 100000 in
theorem c_X5_told_12 (l : Launch) (θ : zH) (ea : Nat → Nat → Nat) (ad : Nat → Nat) (n : Nat → Nat) (g : Nat → Int32) (b : Nat → Bool) (r : Nat → Nat → Int32) (V : Nat → Ev)  (hW : n 11 ≤ 5) (hS : n 10 ≤ 6) (h9 : n 9 ≤ 30) : cI l yX5_told wsX5_told 4 θ [.ref (ad 0), .int (nI 12)] (CW θ ea ad n g b r V) (fun r0 Y => r0 = nI (n 14) ∧ Y = CW θ ea ad n g b r V) := by
  refine z_cI (by decide) rfl rfl (Nat.le_of_ble_eq_true rfl) (lv := [(0, .ref (ad 0)), (1, .int (nI 12))]) rfl (fun κ C E => ?_)
  have hinX1 : ∀ w ∈ wsX10, w ∈ wsX5_told := by decide +kernel
  have hinX5 : ∀ w ∈ wsX50, w ∈ wsX5_told := by decide +kernel
  refine z_iload_n C dX5_told_0 rfl (show zlk _ 1 = some (.int (nI 12)) from rfl) ?_
  refine z_tableIn C 183 dX5_told_1 (by decide) (by decide) (off := 182) (by decide) (by decide) ?_
  refine z_aload_n C dX5_told_183 rfl (show zlk _ 0 = some (.ref (ad 0)) from rfl) ?_
  refine z_get C hinX5 0 cc_0 rfl 2 (by decide) (by decide +kernel) cg_0_2 dX5_told_184 ?_
  refine z_getN C (host := "GnatPortraits") hinX1 4 cc_4 rfl 6 (by decide) (by decide +kernel) cg_4_6 dX5_told_187 ?_
  exact E _ _ _ _ (⟨rfl, rfl⟩) (rfl) dX5_told_190

set_option maxHeartbeats 4000000 in
set_option maxRecDepth 100000 in
theorem c_X5_told_13 (l : Launch) (θ : zH) (ea : Nat → Nat → Nat) (ad : Nat → Nat) (n : Nat → Nat) (g : Nat → Int32) (b : Nat → Bool) (r : Nat → Nat → Int32) (V : Nat → Ev)  (hW : n 11 ≤ 5) (hS : n 10 ≤ 6) (h9 : n 9 ≤ 30) : cI l yX5_told wsX5_told 4 θ [.ref (ad 0), .int (nI 13)] (CW θ ea ad n g b r V) (fun r0 Y => r0 = nI (n 1) ∧ Y = CW θ ea ad n g b r V) := by
  refine z_cI (by decide) rfl rfl (Nat.le_of_ble_eq_true rfl) (lv := [(0, .ref (ad 0)), (1, .int (nI 13))]) rfl (fun κ C E => ?_)
  have hinX5 : ∀ w ∈ wsX50, w ∈ wsX5_told := by decide +kernel
  refine z_iload_n C dX5_told_0 rfl (show zlk _ 1 = some (.int (nI 13)) from rfl) ?_
  refine z_tableIn C 191 dX5_told_1 (by decide) (by decide) (off := 190) (by decide) (by decide) ?_
  refine z_aload_n C dX5_told_191 rfl (show zlk _ 0 = some (.ref (ad 0)) from rfl) ?_
  refine z_get C hinX5 0 cc_0 rfl 10 (by decide) (by decide +kernel) cg_0_10 dX5_told_192 ?_
  exact E _ _ _ _ (⟨rfl, rfl⟩) (rfl) dX5_told_195

set_option maxHeartbeats 4000000 in
set_option maxRecDepth 100000 in
theorem c_X5_told_14 (l : Launch) (θ : zH) (ea : Nat → Nat → Nat) (ad : Nat → Nat) (n : Nat → Nat) (g : Nat → Int32) (b : Nat → Bool) (r : Nat → Nat → Int32) (V : Nat → Ev)  (hW : n 11 ≤ 5) (hS : n 10 ≤ 6) (h9 : n 9 ≤ 30) : cI l yX5_told wsX5_told 4 θ [.ref (ad 0), .int (nI 14)] (CW θ ea ad n g b r V) (fun r0 Y => r0 = k_sf g (r 4) (n 10) ∧ Y = CW θ ea ad n g b r V) := by
  refine z_cI (by decide) rfl rfl (Nat.le_of_ble_eq_true rfl) (lv := [(0, .ref (ad 0)), (1, .int (nI 14))]) rfl (fun κ C E => ?_)
  refine z_iload_n C dX5_told_0 rfl (show zlk _ 1 = some (.int (nI 14)) from rfl) ?_
  refine z_tableIn C 196 dX5_told_1 (by decide) (by decide) (off := 195) (by decide) (by decide) ?_
  refine z_aload_n C dX5_told_196 rfl (show zlk _ 0 = some (.ref (ad 0)) from rfl) ?_
  refine z_callVi C (As := []) (rest := []) (c_X5_sittersThatFit l θ ea ad n g b r V hS) gX5_told_X5_sittersThatFit rfl 0 (by decide +kernel) (by decide) (by decide) 0 rfl rfl rfl rfl rfl (Nat.le_of_ble_eq_true rfl) dX5_told_197 ?_
  rintro _ _ ⟨rfl, rfl⟩
  exact E _ _ _ _ (⟨rfl, rfl⟩) (rfl) dX5_told_200

set_option maxHeartbeats 4000000 in
set_option maxRecDepth 100000 in
theorem c_X5_told_15 (l : Launch) (θ : zH) (ea : Nat → Nat → Nat) (ad : Nat → Nat) (n : Nat → Nat) (g : Nat → Int32) (b : Nat → Bool) (r : Nat → Nat → Int32) (V : Nat → Ev)  (hW : n 11 ≤ 5) (hS : n 10 ≤ 6) (h9 : n 9 ≤ 30) : cI l yX5_told wsX5_told 4 θ [.ref (ad 0), .int (nI 15)] (CW θ ea ad n g b r V) (fun r0 Y => r0 = nI (n 16) ∧ Y = CW θ ea ad n g b r V) := by
  refine z_cI (by decide) rfl rfl (Nat.le_of_ble_eq_true rfl) (lv := [(0, .ref (ad 0)), (1, .int (nI 15))]) rfl (fun κ C E => ?_)
  have hinX2 : ∀ w ∈ wsX20, w ∈ wsX5_told := by decide +kernel
  have hinX5 : ∀ w ∈ wsX50, w ∈ wsX5_told := by decide +kernel
  refine z_iload_n C dX5_told_0 rfl (show zlk _ 1 = some (.int (nI 15)) from rfl) ?_
  refine z_tableIn C 201 dX5_told_1 (by decide) (by decide) (off := 200) (by decide) (by decide) ?_
  refine z_aload_n C dX5_told_201 rfl (show zlk _ 0 = some (.ref (ad 0)) from rfl) ?_
  refine z_get C hinX5 0 cc_0 rfl 3 (by decide) (by decide +kernel) cg_0_3 dX5_told_202 ?_
  refine z_getN C (host := "GnatPortraits") hinX2 5 cc_5 rfl 1 (by decide) (by decide +kernel) cg_5_1 dX5_told_205 ?_
  exact E _ _ _ _ (⟨rfl, rfl⟩) (rfl) dX5_told_208

set_option maxHeartbeats 4000000 in
set_option maxRecDepth 100000 in
theorem c_X5_told_x (l : Launch) (θ : zH) (ea : Nat → Nat → Nat) (ad : Nat → Nat) (n : Nat → Nat) (g : Nat → Int32) (b : Nat → Bool) (r : Nat → Nat → Int32) (V : Nat → Ev) (x : Int32) (hx : okN x 16 = false) : cI l yX5_told wsX5_told 4 θ [.ref (ad 0), .int x] (CW θ ea ad n g b r V) (fun r0 Y => r0 = (-1000000002) ∧ Y = CW θ ea ad n g b r V) := by
  refine z_cI (by decide) rfl rfl (Nat.le_of_ble_eq_true rfl) (lv := [(0, .ref (ad 0)), (1, .int x)]) rfl (fun κ C E => ?_)
  refine z_iload_n C dX5_told_0 rfl (show zlk _ 1 = some (.int x) from rfl) ?_
  refine z_tableOut C 209 dX5_told_1 (okN_out (N := 15) hx) (by decide) ?_
  refine z_ldc C (v := (-1000000002)) (by decide +kernel) dX5_told_209 ?_
  exact E _ _ _ _ (⟨rfl, rfl⟩) (rfl) dX5_told_211

set_option maxHeartbeats 4000000 in
set_option maxRecDepth 100000 in
theorem c_X5_sitter_1 (l : Launch) (θ : zH) (ea : Nat → Nat → Nat) (ad : Nat → Nat) (n : Nat → Nat) (g : Nat → Int32) (b : Nat → Bool) (r : Nat → Nat → Int32) (V : Nat → Ev) (s x : Int32) (hS : n 10 ≤ 6) (hj : okN s (n 10) = false) : cI l yX5_sitter wsX5_sitter 3 θ [.ref (ad 0), .int s, .int x] (CW θ ea ad n g b r V) (fun r0 Y => r0 = (-1000000001) ∧ Y = CW θ ea ad n g b r V) := by
  refine z_cI (by decide) rfl rfl (Nat.le_of_ble_eq_true rfl) (lv := [(0, .ref (ad 0)), (1, .int s), (2, .int x)]) rfl (fun κ C E => ?_)
  refine z_aload_n C dX5_sitter_0 rfl (show zlk _ 0 = some (.ref (ad 0)) from rfl) ?_
  refine z_iload_n C dX5_sitter_1 rfl (show zlk _ 1 = some (.int s) from rfl) ?_
  refine z_callVi C (As := [.int s]) (rest := []) (c_X5_isSitter l θ ea ad n g b r V s (by omega)) gX5_sitter_X5_isSitter rfl 1 (by decide +kernel) (by decide) (by decide) 0 rfl rfl rfl rfl rfl (Nat.le_of_ble_eq_true rfl) dX5_sitter_2 ?_
  rintro _ _ ⟨rfl, rfl⟩
  refine z_if_neB C 11 dX5_sitter_5 (by decide) (fun h => absurd h (by rw [hj]; decide)) (fun _ => ?_)
  refine z_ldc C (v := (-1000000001)) (by decide +kernel) dX5_sitter_8 ?_
  exact E _ _ _ _ (⟨rfl, rfl⟩) (rfl) dX5_sitter_10

set_option maxHeartbeats 4000000 in
set_option maxRecDepth 100000 in
theorem c_X5_sitter_20 (l : Launch) (θ : zH) (ea : Nat → Nat → Nat) (ad : Nat → Nat) (n : Nat → Nat) (g : Nat → Int32) (b : Nat → Bool) (r : Nat → Nat → Int32) (V : Nat → Ev) (j : Nat) (hS : n 10 ≤ 6) (hj : j < n 10) (hn : n 15 < 20) (hz : n 14 ≤ 20) : cI l yX5_sitter wsX5_sitter 3 θ [.ref (ad 0), .int (nI j), .int (nI 0)] (CW θ ea ad n g b r V) (fun r0 Y => r0 = r 4 j ∧ Y = CW θ ea ad n g b r V) := by
  refine z_cI (by decide) rfl rfl (Nat.le_of_ble_eq_true rfl) (lv := [(0, .ref (ad 0)), (1, .int (nI j)), (2, .int (nI 0))]) rfl (fun κ C E => ?_)
  have hinX0 : ∀ w ∈ wsX00, w ∈ wsX5_sitter := by decide +kernel
  have hinX5 : ∀ w ∈ wsX50, w ∈ wsX5_sitter := by decide +kernel
  refine z_aload_n C dX5_sitter_0 rfl (show zlk _ 0 = some (.ref (ad 0)) from rfl) ?_
  refine z_iload_n C dX5_sitter_1 rfl (show zlk _ 1 = some (.int (nI j)) from rfl) ?_
  refine z_callVi C (As := [.int (nI j)]) (rest := []) (c_X5_isSitter l θ ea ad n g b r V (nI j) (by omega)) gX5_sitter_X5_isSitter rfl 1 (by decide +kernel) (by decide) (by decide) 0 rfl rfl rfl rfl rfl (Nat.le_of_ble_eq_true rfl) dX5_sitter_2 ?_
  rintro _ _ ⟨rfl, rfl⟩
  refine z_if_neB C 11 dX5_sitter_5 (by decide) (fun _ => ?_) (fun h => absurd h (by rw [okN_lt hj (by omega)]; decide))
  refine z_iload_n C dX5_sitter_11 rfl (show zlk _ 2 = some (.int (nI 0)) from rfl) ?_
  refine z_tableIn C 40 dX5_sitter_12 (by decide) (by decide) (off := 28) (by decide) (by decide) ?_
  refine z_aload_n C dX5_sitter_40 rfl (show zlk _ 0 = some (.ref (ad 0)) from rfl) ?_
  refine z_get C hinX5 0 cc_0 rfl 1 (by decide) (by decide +kernel) cg_0_1 dX5_sitter_41 ?_
  refine z_getN C (host := "GnatPortraits") hinX0 3 cc_3 rfl 5 (by decide) (by decide +kernel) cg_3_5 dX5_sitter_44 ?_
  refine z_iload_n C dX5_sitter_47 rfl (show zlk _ 1 = some (.int (nI j)) from rfl) ?_
  refine z_iald C (f := (r 4)) 15 ca_15 j rfl (by omega) (by decide) dX5_sitter_48 ?_
  exact E _ _ _ _ (⟨rfl, rfl⟩) (rfl) dX5_sitter_49

set_option maxHeartbeats 4000000 in
set_option maxRecDepth 100000 in
theorem c_X5_sitter_21 (l : Launch) (θ : zH) (ea : Nat → Nat → Nat) (ad : Nat → Nat) (n : Nat → Nat) (g : Nat → Int32) (b : Nat → Bool) (r : Nat → Nat → Int32) (V : Nat → Ev) (j : Nat) (hS : n 10 ≤ 6) (hj : j < n 10) (hn : n 15 < 20) (hz : n 14 ≤ 20) : cI l yX5_sitter wsX5_sitter 3 θ [.ref (ad 0), .int (nI j), .int (nI 1)] (CW θ ea ad n g b r V) (fun r0 Y => r0 = k_wo (r 8) (nI j) ∧ Y = CW θ ea ad n g b r V) := by
  refine z_cI (by decide) rfl rfl (Nat.le_of_ble_eq_true rfl) (lv := [(0, .ref (ad 0)), (1, .int (nI j)), (2, .int (nI 1))]) rfl (fun κ C E => ?_)
  have hinX5 : ∀ w ∈ wsX50, w ∈ wsX5_sitter := by decide +kernel
  refine z_aload_n C dX5_sitter_0 rfl (show zlk _ 0 = some (.ref (ad 0)) from rfl) ?_
  refine z_iload_n C dX5_sitter_1 rfl (show zlk _ 1 = some (.int (nI j)) from rfl) ?_
  refine z_callVi C (As := [.int (nI j)]) (rest := []) (c_X5_isSitter l θ ea ad n g b r V (nI j) (by omega)) gX5_sitter_X5_isSitter rfl 1 (by decide +kernel) (by decide) (by decide) 0 rfl rfl rfl rfl rfl (Nat.le_of_ble_eq_true rfl) dX5_sitter_2 ?_
  rintro _ _ ⟨rfl, rfl⟩
  refine z_if_neB C 11 dX5_sitter_5 (by decide) (fun _ => ?_) (fun h => absurd h (by rw [okN_lt hj (by omega)]; decide))
  refine z_iload_n C dX5_sitter_11 rfl (show zlk _ 2 = some (.int (nI 1)) from rfl) ?_
  refine z_tableIn C 50 dX5_sitter_12 (by decide) (by decide) (off := 38) (by decide) (by decide) ?_
  refine z_aload_n C dX5_sitter_50 rfl (show zlk _ 0 = some (.ref (ad 0)) from rfl) ?_
  refine z_get C hinX5 0 cc_0 rfl 2 (by decide) (by decide +kernel) cg_0_2 dX5_sitter_51 ?_
  refine z_iload_n C dX5_sitter_54 rfl (show zlk _ 1 = some (.int (nI j)) from rfl) ?_
  refine z_callNi C (As := [.int (nI j)]) (rest := []) (host := "GnatPortraits") (c_X1_windowOf l θ ea ad n g b r V (nI j)) gX5_sitter_X1_windowOf_n149 rfl 1 (by decide +kernel) (by decide +kernel) (by decide +kernel) (by decide +kernel) (by decide +kernel) (by decide) (by decide) 4 rfl rfl rfl rfl rfl (Nat.le_of_ble_eq_true rfl) dX5_sitter_55 ?_
  rintro _ _ ⟨rfl, rfl⟩
  exact E _ _ _ _ (⟨rfl, rfl⟩) (rfl) dX5_sitter_58

set_option maxHeartbeats 4000000 in
set_option maxRecDepth 100000 in
theorem c_X5_sitter_22 (l : Launch) (θ : zH) (ea : Nat → Nat → Nat) (ad : Nat → Nat) (n : Nat → Nat) (g : Nat → Int32) (b : Nat → Bool) (r : Nat → Nat → Int32) (V : Nat → Ev) (j : Nat) (hS : n 10 ≤ 6) (hj : j < n 10) (hn : n 15 < 20) (hz : n 14 ≤ 20) : cI l yX5_sitter wsX5_sitter 3 θ [.ref (ad 0), .int (nI j), .int (nI 2)] (CW θ ea ad n g b r V) (fun r0 Y => r0 = nI (k_ti (r 11) (n 15) (nI j) (n 14)) ∧ Y = CW θ ea ad n g b r V) := by
  refine z_cI (by decide) rfl rfl (Nat.le_of_ble_eq_true rfl) (lv := [(0, .ref (ad 0)), (1, .int (nI j)), (2, .int (nI 2))]) rfl (fun κ C E => ?_)
  have hinX5 : ∀ w ∈ wsX50, w ∈ wsX5_sitter := by decide +kernel
  refine z_aload_n C dX5_sitter_0 rfl (show zlk _ 0 = some (.ref (ad 0)) from rfl) ?_
  refine z_iload_n C dX5_sitter_1 rfl (show zlk _ 1 = some (.int (nI j)) from rfl) ?_
  refine z_callVi C (As := [.int (nI j)]) (rest := []) (c_X5_isSitter l θ ea ad n g b r V (nI j) (by omega)) gX5_sitter_X5_isSitter rfl 1 (by decide +kernel) (by decide) (by decide) 0 rfl rfl rfl rfl rfl (Nat.le_of_ble_eq_true rfl) dX5_sitter_2 ?_
  rintro _ _ ⟨rfl, rfl⟩
  refine z_if_neB C 11 dX5_sitter_5 (by decide) (fun _ => ?_) (fun h => absurd h (by rw [okN_lt hj (by omega)]; decide))
  refine z_iload_n C dX5_sitter_11 rfl (show zlk _ 2 = some (.int (nI 2)) from rfl) ?_
  refine z_tableIn C 59 dX5_sitter_12 (by decide) (by decide) (off := 47) (by decide) (by decide) ?_
  refine z_aload_n C dX5_sitter_59 rfl (show zlk _ 0 = some (.ref (ad 0)) from rfl) ?_
  refine z_get C hinX5 0 cc_0 rfl 2 (by decide) (by decide +kernel) cg_0_2 dX5_sitter_60 ?_
  refine z_iload_n C dX5_sitter_63 rfl (show zlk _ 1 = some (.int (nI j)) from rfl) ?_
  refine z_callNi C (As := [.int (nI j)]) (rest := []) (host := "GnatPortraits") (c_X1_timesInAlbum l θ ea ad n g b r V (nI j) hn hz) gX5_sitter_X1_timesInAlbum_n153 rfl 1 (by decide +kernel) (by decide +kernel) (by decide +kernel) (by decide +kernel) (by decide +kernel) (by decide) (by decide) 4 rfl rfl rfl rfl rfl (Nat.le_of_ble_eq_true rfl) dX5_sitter_64 ?_
  rintro _ _ ⟨rfl, rfl⟩
  exact E _ _ _ _ (⟨rfl, rfl⟩) (rfl) dX5_sitter_67

set_option maxHeartbeats 4000000 in
set_option maxRecDepth 100000 in
theorem c_X5_sitter_3 (l : Launch) (θ : zH) (ea : Nat → Nat → Nat) (ad : Nat → Nat) (n : Nat → Nat) (g : Nat → Int32) (b : Nat → Bool) (r : Nat → Nat → Int32) (V : Nat → Ev) (j : Nat) (x : Int32) (hS : n 10 ≤ 6) (hj : j < n 10) (hx : okN x 3 = false) : cI l yX5_sitter wsX5_sitter 3 θ [.ref (ad 0), .int (nI j), .int x] (CW θ ea ad n g b r V) (fun r0 Y => r0 = (-1000000002) ∧ Y = CW θ ea ad n g b r V) := by
  refine z_cI (by decide) rfl rfl (Nat.le_of_ble_eq_true rfl) (lv := [(0, .ref (ad 0)), (1, .int (nI j)), (2, .int x)]) rfl (fun κ C E => ?_)
  refine z_aload_n C dX5_sitter_0 rfl (show zlk _ 0 = some (.ref (ad 0)) from rfl) ?_
  refine z_iload_n C dX5_sitter_1 rfl (show zlk _ 1 = some (.int (nI j)) from rfl) ?_
  refine z_callVi C (As := [.int (nI j)]) (rest := []) (c_X5_isSitter l θ ea ad n g b r V (nI j) (by omega)) gX5_sitter_X5_isSitter rfl 1 (by decide +kernel) (by decide) (by decide) 0 rfl rfl rfl rfl rfl (Nat.le_of_ble_eq_true rfl) dX5_sitter_2 ?_
  rintro _ _ ⟨rfl, rfl⟩
  refine z_if_neB C 11 dX5_sitter_5 (by decide) (fun _ => ?_) (fun h => absurd h (by rw [okN_lt hj (by omega)]; decide))
  refine z_iload_n C dX5_sitter_11 rfl (show zlk _ 2 = some (.int x) from rfl) ?_
  refine z_tableOut C 68 dX5_sitter_12 (okN_out (N := 2) hx) (by decide) ?_
  refine z_ldc C (v := (-1000000002)) (by decide +kernel) dX5_sitter_68 ?_
  exact E _ _ _ _ (⟨rfl, rfl⟩) (rfl) dX5_sitter_70

set_option maxHeartbeats 4000000 in
set_option maxRecDepth 100000 in
theorem c_X5_window_1 (l : Launch) (θ : zH) (ea : Nat → Nat → Nat) (ad : Nat → Nat) (n : Nat → Nat) (g : Nat → Int32) (b : Nat → Bool) (r : Nat → Nat → Int32) (V : Nat → Ev) (w x : Int32) (hW : n 11 ≤ 5) (hw : okN w (n 11) = false) : cI l yX5_window wsX5_window 3 θ [.ref (ad 0), .int w, .int x] (CW θ ea ad n g b r V) (fun r0 Y => r0 = (-1000000001) ∧ Y = CW θ ea ad n g b r V) := by
  refine z_cI (by decide) rfl rfl (Nat.le_of_ble_eq_true rfl) (lv := [(0, .ref (ad 0)), (1, .int w), (2, .int x)]) rfl (fun κ C E => ?_)
  refine z_aload_n C dX5_window_0 rfl (show zlk _ 0 = some (.ref (ad 0)) from rfl) ?_
  refine z_iload_n C dX5_window_1 rfl (show zlk _ 1 = some (.int w) from rfl) ?_
  refine z_callVi C (As := [.int w]) (rest := []) (c_X5_isWindow l θ ea ad n g b r V w (by omega)) gX5_window_X5_isWindow rfl 1 (by decide +kernel) (by decide) (by decide) 0 rfl rfl rfl rfl rfl (Nat.le_of_ble_eq_true rfl) dX5_window_2 ?_
  rintro _ _ ⟨rfl, rfl⟩
  refine z_if_neB C 11 dX5_window_5 (by decide) (fun h => absurd h (by rw [hw]; decide)) (fun _ => ?_)
  refine z_ldc C (v := (-1000000001)) (by decide +kernel) dX5_window_8 ?_
  exact E _ _ _ _ (⟨rfl, rfl⟩) (rfl) dX5_window_10

set_option maxHeartbeats 4000000 in
set_option maxRecDepth 100000 in
theorem c_X5_window_20 (l : Launch) (θ : zH) (ea : Nat → Nat → Nat) (ad : Nat → Nat) (n : Nat → Nat) (g : Nat → Int32) (b : Nat → Bool) (r : Nat → Nat → Int32) (V : Nat → Ev) (w : Nat) (hW : n 11 ≤ 5) (hw : w < n 11) (hS : n 10 ≤ 6) (h9 : n 9 ≤ 30) : cI l yX5_window wsX5_window 3 θ [.ref (ad 0), .int (nI w), .int (nI 0)] (CW θ ea ad n g b r V) (fun r0 Y => r0 = r 7 w ∧ Y = CW θ ea ad n g b r V) := by
  refine z_cI (by decide) rfl rfl (Nat.le_of_ble_eq_true rfl) (lv := [(0, .ref (ad 0)), (1, .int (nI w)), (2, .int (nI 0))]) rfl (fun κ C E => ?_)
  have hinX1 : ∀ w ∈ wsX10, w ∈ wsX5_window := by decide +kernel
  have hinX5 : ∀ w ∈ wsX50, w ∈ wsX5_window := by decide +kernel
  refine z_aload_n C dX5_window_0 rfl (show zlk _ 0 = some (.ref (ad 0)) from rfl) ?_
  refine z_iload_n C dX5_window_1 rfl (show zlk _ 1 = some (.int (nI w)) from rfl) ?_
  refine z_callVi C (As := [.int (nI w)]) (rest := []) (c_X5_isWindow l θ ea ad n g b r V (nI w) (by omega)) gX5_window_X5_isWindow rfl 1 (by decide +kernel) (by decide) (by decide) 0 rfl rfl rfl rfl rfl (Nat.le_of_ble_eq_true rfl) dX5_window_2 ?_
  rintro _ _ ⟨rfl, rfl⟩
  refine z_if_neB C 11 dX5_window_5 (by decide) (fun _ => ?_) (fun h => absurd h (by rw [okN_lt hw (by omega)]; decide))
  refine z_iload_n C dX5_window_11 rfl (show zlk _ 2 = some (.int (nI 0)) from rfl) ?_
  refine z_tableIn C 44 dX5_window_12 (by decide) (by decide) (off := 32) (by decide) (by decide) ?_
  refine z_aload_n C dX5_window_44 rfl (show zlk _ 0 = some (.ref (ad 0)) from rfl) ?_
  refine z_get C hinX5 0 cc_0 rfl 2 (by decide) (by decide +kernel) cg_0_2 dX5_window_45 ?_
  refine z_getN C (host := "GnatPortraits") hinX1 4 cc_4 rfl 8 (by decide) (by decide +kernel) cg_4_8 dX5_window_48 ?_
  refine z_iload_n C dX5_window_51 rfl (show zlk _ 1 = some (.int (nI w)) from rfl) ?_
  refine z_iald C (f := (r 7)) 18 ca_18 w rfl (by omega) (by decide) dX5_window_52 ?_
  exact E _ _ _ _ (⟨rfl, rfl⟩) (rfl) dX5_window_53

set_option maxHeartbeats 4000000 in
set_option maxRecDepth 100000 in
theorem c_X5_window_21 (l : Launch) (θ : zH) (ea : Nat → Nat → Nat) (ad : Nat → Nat) (n : Nat → Nat) (g : Nat → Int32) (b : Nat → Bool) (r : Nat → Nat → Int32) (V : Nat → Ev) (w : Nat) (hW : n 11 ≤ 5) (hw : w < n 11) (hS : n 10 ≤ 6) (h9 : n 9 ≤ 30) : cI l yX5_window wsX5_window 3 θ [.ref (ad 0), .int (nI w), .int (nI 1)] (CW θ ea ad n g b r V) (fun r0 Y => r0 = r 8 w ∧ Y = CW θ ea ad n g b r V) := by
  refine z_cI (by decide) rfl rfl (Nat.le_of_ble_eq_true rfl) (lv := [(0, .ref (ad 0)), (1, .int (nI w)), (2, .int (nI 1))]) rfl (fun κ C E => ?_)
  have hinX1 : ∀ w ∈ wsX10, w ∈ wsX5_window := by decide +kernel
  have hinX5 : ∀ w ∈ wsX50, w ∈ wsX5_window := by decide +kernel
  refine z_aload_n C dX5_window_0 rfl (show zlk _ 0 = some (.ref (ad 0)) from rfl) ?_
  refine z_iload_n C dX5_window_1 rfl (show zlk _ 1 = some (.int (nI w)) from rfl) ?_
  refine z_callVi C (As := [.int (nI w)]) (rest := []) (c_X5_isWindow l θ ea ad n g b r V (nI w) (by omega)) gX5_window_X5_isWindow rfl 1 (by decide +kernel) (by decide) (by decide) 0 rfl rfl rfl rfl rfl (Nat.le_of_ble_eq_true rfl) dX5_window_2 ?_
  rintro _ _ ⟨rfl, rfl⟩
  refine z_if_neB C 11 dX5_window_5 (by decide) (fun _ => ?_) (fun h => absurd h (by rw [okN_lt hw (by omega)]; decide))
  refine z_iload_n C dX5_window_11 rfl (show zlk _ 2 = some (.int (nI 1)) from rfl) ?_
  refine z_tableIn C 54 dX5_window_12 (by decide) (by decide) (off := 42) (by decide) (by decide) ?_
  refine z_aload_n C dX5_window_54 rfl (show zlk _ 0 = some (.ref (ad 0)) from rfl) ?_
  refine z_get C hinX5 0 cc_0 rfl 2 (by decide) (by decide +kernel) cg_0_2 dX5_window_55 ?_
  refine z_getN C (host := "GnatPortraits") hinX1 4 cc_4 rfl 9 (by decide) (by decide +kernel) cg_4_9 dX5_window_58 ?_
  refine z_iload_n C dX5_window_61 rfl (show zlk _ 1 = some (.int (nI w)) from rfl) ?_
  refine z_iald C (f := (r 8)) 19 ca_19 w rfl (by omega) (by decide) dX5_window_62 ?_
  exact E _ _ _ _ (⟨rfl, rfl⟩) (rfl) dX5_window_63

set_option maxHeartbeats 4000000 in
set_option maxRecDepth 100000 in
theorem c_X5_window_22 (l : Launch) (θ : zH) (ea : Nat → Nat → Nat) (ad : Nat → Nat) (n : Nat → Nat) (g : Nat → Int32) (b : Nat → Bool) (r : Nat → Nat → Int32) (V : Nat → Ev) (w : Nat) (hW : n 11 ≤ 5) (hw : w < n 11) (hS : n 10 ≤ 6) (h9 : n 9 ≤ 30) : cI l yX5_window wsX5_window 3 θ [.ref (ad 0), .int (nI w), .int (nI 2)] (CW θ ea ad n g b r V) (fun r0 Y => r0 = k_dAt n g b r w ∧ Y = CW θ ea ad n g b r V) := by
  refine z_cI (by decide) rfl rfl (Nat.le_of_ble_eq_true rfl) (lv := [(0, .ref (ad 0)), (1, .int (nI w)), (2, .int (nI 2))]) rfl (fun κ C E => ?_)
  refine z_aload_n C dX5_window_0 rfl (show zlk _ 0 = some (.ref (ad 0)) from rfl) ?_
  refine z_iload_n C dX5_window_1 rfl (show zlk _ 1 = some (.int (nI w)) from rfl) ?_
  refine z_callVi C (As := [.int (nI w)]) (rest := []) (c_X5_isWindow l θ ea ad n g b r V (nI w) (by omega)) gX5_window_X5_isWindow rfl 1 (by decide +kernel) (by decide) (by decide) 0 rfl rfl rfl rfl rfl (Nat.le_of_ble_eq_true rfl) dX5_window_2 ?_
  rintro _ _ ⟨rfl, rfl⟩
  refine z_if_neB C 11 dX5_window_5 (by decide) (fun _ => ?_) (fun h => absurd h (by rw [okN_lt hw (by omega)]; decide))
  refine z_iload_n C dX5_window_11 rfl (show zlk _ 2 = some (.int (nI 2)) from rfl) ?_
  refine z_tableIn C 64 dX5_window_12 (by decide) (by decide) (off := 52) (by decide) (by decide) ?_
  refine z_aload_n C dX5_window_64 rfl (show zlk _ 0 = some (.ref (ad 0)) from rfl) ?_
  refine z_iload_n C dX5_window_65 rfl (show zlk _ 1 = some (.int (nI w)) from rfl) ?_
  refine z_callVi C (As := [.int (nI w)]) (rest := []) (c_X5_drawnAt l θ ea ad n g b r V w (by omega) hS h9) gX5_window_X5_drawnAt rfl 1 (by decide +kernel) (by decide) (by decide) 0 rfl rfl rfl rfl rfl (Nat.le_of_ble_eq_true rfl) dX5_window_66 ?_
  rintro _ _ ⟨rfl, rfl⟩
  exact E _ _ _ _ (⟨rfl, rfl⟩) (rfl) dX5_window_69

set_option maxHeartbeats 4000000 in
set_option maxRecDepth 100000 in
theorem c_X5_window_23 (l : Launch) (θ : zH) (ea : Nat → Nat → Nat) (ad : Nat → Nat) (n : Nat → Nat) (g : Nat → Int32) (b : Nat → Bool) (r : Nat → Nat → Int32) (V : Nat → Ev) (w : Nat) (hW : n 11 ≤ 5) (hw : w < n 11) (hS : n 10 ≤ 6) (h9 : n 9 ≤ 30) : cI l yX5_window wsX5_window 3 θ [.ref (ad 0), .int (nI w), .int (nI 3)] (CW θ ea ad n g b r V) (fun r0 Y => r0 = (if k_dAt n g b r w = nI 0 then (-1) else (k_ml (r 4) (k_dAt n g b r w) (nI 1073741823) (n 10)).1) ∧ Y = CW θ ea ad n g b r V) := by
  refine z_cI (by decide) rfl rfl (Nat.le_of_ble_eq_true rfl) (lv := [(0, .ref (ad 0)), (1, .int (nI w)), (2, .int (nI 3))]) rfl (fun κ C E => ?_)
  refine z_aload_n C dX5_window_0 rfl (show zlk _ 0 = some (.ref (ad 0)) from rfl) ?_
  refine z_iload_n C dX5_window_1 rfl (show zlk _ 1 = some (.int (nI w)) from rfl) ?_
  refine z_callVi C (As := [.int (nI w)]) (rest := []) (c_X5_isWindow l θ ea ad n g b r V (nI w) (by omega)) gX5_window_X5_isWindow rfl 1 (by decide +kernel) (by decide) (by decide) 0 rfl rfl rfl rfl rfl (Nat.le_of_ble_eq_true rfl) dX5_window_2 ?_
  rintro _ _ ⟨rfl, rfl⟩
  refine z_if_neB C 11 dX5_window_5 (by decide) (fun _ => ?_) (fun h => absurd h (by rw [okN_lt hw (by omega)]; decide))
  refine z_iload_n C dX5_window_11 rfl (show zlk _ 2 = some (.int (nI 3)) from rfl) ?_
  refine z_tableIn C 70 dX5_window_12 (by decide) (by decide) (off := 58) (by decide) (by decide) ?_
  refine z_aload_n C dX5_window_70 rfl (show zlk _ 0 = some (.ref (ad 0)) from rfl) ?_
  refine z_iload_n C dX5_window_71 rfl (show zlk _ 1 = some (.int (nI w)) from rfl) ?_
  refine z_callVi C (As := [.int (nI w)]) (rest := []) (c_X5_drawnAt l θ ea ad n g b r V w (by omega) hS h9) gX5_window_X5_drawnAt rfl 1 (by decide +kernel) (by decide) (by decide) 0 rfl rfl rfl rfl rfl (Nat.le_of_ble_eq_true rfl) dX5_window_72 ?_
  rintro _ _ ⟨rfl, rfl⟩
  refine z_if_ne C 82 dX5_window_75 (by decide) (fun h75t_1 => ?_) (fun h75n_1 => ?_)
  · refine z_aload_n C dX5_window_82 rfl (show zlk _ 0 = some (.ref (ad 0)) from rfl) ?_
    refine z_aload_n C dX5_window_83 rfl (show zlk _ 0 = some (.ref (ad 0)) from rfl) ?_
    refine z_iload_n C dX5_window_84 rfl (show zlk _ 1 = some (.int (nI w)) from rfl) ?_
    refine z_callVi C (As := [.int (nI w)]) (rest := [.ref (ad 0)]) (c_X5_drawnAt l θ ea ad n g b r V w (by omega) hS h9) gX5_window_X5_drawnAt rfl 1 (by decide +kernel) (by decide) (by decide) 0 rfl rfl rfl rfl rfl (Nat.le_of_ble_eq_true rfl) dX5_window_85 ?_
    rintro _ _ ⟨rfl, rfl⟩
    refine z_ldc C (v := 1073741823) (by decide +kernel) dX5_window_88 ?_
    refine z_top (v' := .int (nI 1073741823)) rfl ?_
    refine z_callVi C (As := [.int (k_dAt n g b r w), .int (nI 1073741823)]) (rest := []) (c_X5_mostLike l θ ea ad n g b r V (k_dAt n g b r w) (nI 1073741823) hS) gX5_window_X5_mostLike rfl 2 (by decide +kernel) (by decide) (by decide) 0 rfl rfl rfl rfl rfl (Nat.le_of_ble_eq_true rfl) dX5_window_90 ?_
    rintro _ _ ⟨rfl, rfl⟩
    exact E _ _ _ _ (⟨by rw [if_neg (show ¬ k_dAt n g b r w = nI 0 from h75t_1)], rfl⟩) (rfl) dX5_window_93
  · refine z_iconst C (v := (-1)) dX5_window_78 (by decide) ?_
    refine z_goto C 93 dX5_window_79 (by decide) ?_
    exact E _ _ _ _ (⟨by rw [if_pos (show k_dAt n g b r w = nI 0 from h75n_1)], rfl⟩) (rfl) dX5_window_93

set_option maxHeartbeats 4000000 in
set_option maxRecDepth 100000 in
theorem c_X5_window_3 (l : Launch) (θ : zH) (ea : Nat → Nat → Nat) (ad : Nat → Nat) (n : Nat → Nat) (g : Nat → Int32) (b : Nat → Bool) (r : Nat → Nat → Int32) (V : Nat → Ev) (w : Nat) (x : Int32) (hW : n 11 ≤ 5) (hw : w < n 11) (hx : okN x 4 = false) : cI l yX5_window wsX5_window 3 θ [.ref (ad 0), .int (nI w), .int x] (CW θ ea ad n g b r V) (fun r0 Y => r0 = (-1000000002) ∧ Y = CW θ ea ad n g b r V) := by
  refine z_cI (by decide) rfl rfl (Nat.le_of_ble_eq_true rfl) (lv := [(0, .ref (ad 0)), (1, .int (nI w)), (2, .int x)]) rfl (fun κ C E => ?_)
  refine z_aload_n C dX5_window_0 rfl (show zlk _ 0 = some (.ref (ad 0)) from rfl) ?_
  refine z_iload_n C dX5_window_1 rfl (show zlk _ 1 = some (.int (nI w)) from rfl) ?_
  refine z_callVi C (As := [.int (nI w)]) (rest := []) (c_X5_isWindow l θ ea ad n g b r V (nI w) (by omega)) gX5_window_X5_isWindow rfl 1 (by decide +kernel) (by decide) (by decide) 0 rfl rfl rfl rfl rfl (Nat.le_of_ble_eq_true rfl) dX5_window_2 ?_
  rintro _ _ ⟨rfl, rfl⟩
  refine z_if_neB C 11 dX5_window_5 (by decide) (fun _ => ?_) (fun h => absurd h (by rw [okN_lt hw (by omega)]; decide))
  refine z_iload_n C dX5_window_11 rfl (show zlk _ 2 = some (.int x) from rfl) ?_
  refine z_tableOut C 94 dX5_window_12 (okN_out (N := 3) hx) (by decide) ?_
  refine z_ldc C (v := (-1000000002)) (by decide +kernel) dX5_window_94 ?_
  exact E _ _ _ _ (⟨rfl, rfl⟩) (rfl) dX5_window_96

set_option maxHeartbeats 4000000 in
set_option maxRecDepth 100000 in
theorem c_X5_album_1 (l : Launch) (θ : zH) (ea : Nat → Nat → Nat) (ad : Nat → Nat) (n : Nat → Nat) (g : Nat → Int32) (b : Nat → Bool) (r : Nat → Nat → Int32) (V : Nat → Ev) (i x : Int32) (hx : okN x 3 = false) : cI l yX5_album wsX5_album 2 θ [.ref (ad 0), .int i, .int x] (CW θ ea ad n g b r V) (fun r0 Y => r0 = (-1000000002) ∧ Y = CW θ ea ad n g b r V) := by
  refine z_cI (by decide) rfl rfl (Nat.le_of_ble_eq_true rfl) (lv := [(0, .ref (ad 0)), (1, .int i), (2, .int x)]) rfl (fun κ C E => ?_)
  refine z_iload_n C dX5_album_0 rfl (show zlk _ 2 = some (.int x) from rfl) ?_
  refine z_if_lt C 9 dX5_album_1 (by decide) (fun h1t_1 => ?_) (fun h1n_1 => ?_)
  · refine z_ldc C (v := (-1000000002)) (by decide +kernel) dX5_album_9 ?_
    exact E _ _ _ _ (⟨rfl, rfl⟩) (rfl) dX5_album_11
  · refine z_iload_n C dX5_album_4 rfl (show zlk _ 2 = some (.int x) from rfl) ?_
    refine z_iconst C (v := nI 2) dX5_album_5 (by decide) ?_
    refine z_icmp_le C 12 dX5_album_6 (by decide) (fun h6n_2 => absurd h6n_2 (okN_nle (N := 2) hx h1n_1 (by decide))) (fun h6n_2 => ?_)
    refine z_ldc C (v := (-1000000002)) (by decide +kernel) dX5_album_9 ?_
    exact E _ _ _ _ (⟨rfl, rfl⟩) (rfl) dX5_album_11

theorem okN_nlt {x : Int32} {N : Nat} (h : okN x N = false) (h0 : ¬ x < 0) (hN : N < 2 ^ 31) : ¬ x < nI N := fun z => by
  have h2 : ¬ nI N ≤ x := by rw [zf_lt] at z; rw [zf_le]; omega
  rw [okN_t h0 h2 hN] at h
  cases h
set_option maxHeartbeats 4000000 in
set_option maxRecDepth 100000 in
theorem c_X5_album_2 (l : Launch) (θ : zH) (ea : Nat → Nat → Nat) (ad : Nat → Nat) (n : Nat → Nat) (g : Nat → Int32) (b : Nat → Bool) (r : Nat → Nat → Int32) (V : Nat → Ev) (i x : Int32) (hx : okN x 3 = true) (hi : okN i (n 14) = false) (hz : n 14 ≤ 20) : cI l yX5_album wsX5_album 2 θ [.ref (ad 0), .int i, .int x] (CW θ ea ad n g b r V) (fun r0 Y => r0 = (-1) ∧ Y = CW θ ea ad n g b r V) := by
  refine z_cI (by decide) rfl rfl (Nat.le_of_ble_eq_true rfl) (lv := [(0, .ref (ad 0)), (1, .int i), (2, .int x)]) rfl (fun κ C E => ?_)
  have hinX1 : ∀ w ∈ wsX10, w ∈ wsX5_album := by decide +kernel
  have hinX5 : ∀ w ∈ wsX50, w ∈ wsX5_album := by decide +kernel
  refine z_iload_n C dX5_album_0 rfl (show zlk _ 2 = some (.int x) from rfl) ?_
  refine z_if_lt C 9 dX5_album_1 (by decide) (fun h1n_1 => absurd h1n_1 (okN_n0 hx)) (fun h1n_1 => ?_)
  refine z_iload_n C dX5_album_4 rfl (show zlk _ 2 = some (.int x) from rfl) ?_
  refine z_iconst C (v := nI 2) dX5_album_5 (by decide) ?_
  refine z_icmp_le C 12 dX5_album_6 (by decide) (fun h6t_2 => ?_) (fun h6t_2 => absurd h6t_2 (fun z => z (okN_le (N := 2) hx (by decide))))
  refine z_iload_n C dX5_album_12 rfl (show zlk _ 1 = some (.int i) from rfl) ?_
  refine z_if_lt C 27 dX5_album_13 (by decide) (fun h13t_3 => ?_) (fun h13n_3 => ?_)
  · refine z_iconst C (v := (-1)) dX5_album_27 (by decide) ?_
    exact E _ _ _ _ (⟨rfl, rfl⟩) (rfl) dX5_album_28
  · refine z_iload_n C dX5_album_16 rfl (show zlk _ 1 = some (.int i) from rfl) ?_
    refine z_aload_n C dX5_album_17 rfl (show zlk _ 0 = some (.ref (ad 0)) from rfl) ?_
    refine z_get C hinX5 0 cc_0 rfl 2 (by decide) (by decide +kernel) cg_0_2 dX5_album_18 ?_
    refine z_getN C (host := "GnatPortraits") hinX1 4 cc_4 rfl 6 (by decide) (by decide +kernel) cg_4_6 dX5_album_21 ?_
    refine z_icmp_lt C 29 dX5_album_24 (by decide) (fun h24n_4 => absurd h24n_4 (okN_nlt hi h13n_3 (by omega))) (fun h24n_4 => ?_)
    refine z_iconst C (v := (-1)) dX5_album_27 (by decide) ?_
    exact E _ _ _ _ (⟨rfl, rfl⟩) (rfl) dX5_album_28

set_option maxHeartbeats 4000000 in
set_option maxRecDepth 100000 in
theorem c_X5_album_30 (l : Launch) (θ : zH) (ea : Nat → Nat → Nat) (ad : Nat → Nat) (n : Nat → Nat) (g : Nat → Int32) (b : Nat → Bool) (r : Nat → Nat → Int32) (V : Nat → Ev) (i : Nat) (hi : i < n 14) (hn : n 15 < 20) (hz : n 14 ≤ 20) : cI l yX5_album wsX5_album 2 θ [.ref (ad 0), .int (nI i), .int (nI 0)] (CW θ ea ad n g b r V) (fun r0 Y => r0 = r 10 ((n 15 + 39 - i) % 20) ∧ Y = CW θ ea ad n g b r V) := by
  refine z_cI (by decide) rfl rfl (Nat.le_of_ble_eq_true rfl) (lv := [(0, .ref (ad 0)), (1, .int (nI i)), (2, .int (nI 0))]) rfl (fun κ C E => ?_)
  have hinX1 : ∀ w ∈ wsX10, w ∈ wsX5_album := by decide +kernel
  have hinX5 : ∀ w ∈ wsX50, w ∈ wsX5_album := by decide +kernel
  refine z_iload_n C dX5_album_0 rfl (show zlk _ 2 = some (.int (nI 0)) from rfl) ?_
  refine z_if_ltN C 9 dX5_album_1 (by decide) (by omega) ?_
  refine z_iload_n C dX5_album_4 rfl (show zlk _ 2 = some (.int (nI 0)) from rfl) ?_
  refine z_iconst C (v := nI 2) dX5_album_5 (by decide) ?_
  refine z_icmp_leT C 12 dX5_album_6 (by decide) (by omega) (by omega) (by decide) ?_
  refine z_iload_n C dX5_album_12 rfl (show zlk _ 1 = some (.int (nI i)) from rfl) ?_
  refine z_if_ltN C 27 dX5_album_13 (by decide) (by omega) ?_
  refine z_iload_n C dX5_album_16 rfl (show zlk _ 1 = some (.int (nI i)) from rfl) ?_
  refine z_aload_n C dX5_album_17 rfl (show zlk _ 0 = some (.ref (ad 0)) from rfl) ?_
  refine z_get C hinX5 0 cc_0 rfl 2 (by decide) (by decide +kernel) cg_0_2 dX5_album_18 ?_
  refine z_getN C (host := "GnatPortraits") hinX1 4 cc_4 rfl 6 (by decide) (by decide +kernel) cg_4_6 dX5_album_21 ?_
  refine z_icmp_ltT C 29 dX5_album_24 (by decide) (by omega) (by omega) (hi) ?_
  refine z_aload_n C dX5_album_29 rfl (show zlk _ 0 = some (.ref (ad 0)) from rfl) ?_
  refine z_get C hinX5 0 cc_0 rfl 2 (by decide) (by decide +kernel) cg_0_2 dX5_album_30 ?_
  refine z_iload_n C dX5_album_33 rfl (show zlk _ 1 = some (.int (nI i)) from rfl) ?_
  refine z_callNi C (As := [.int (nI i)]) (rest := []) (host := "GnatPortraits") (c_X1_albumPlace l θ ea ad n g b r V i (show n 15 < 20 from hn) (by omega)) gX5_album_X1_albumPlace_n173 rfl 1 (by decide +kernel) (by decide +kernel) (by decide +kernel) (by decide +kernel) (by decide +kernel) (by decide) (by decide) 4 rfl rfl rfl rfl rfl (Nat.le_of_ble_eq_true rfl) dX5_album_34 ?_
  rintro _ _ ⟨rfl, rfl⟩
  refine z_istore_n C [(3, .int (nI ((n 15 + 39 - i) % 20))), (0, .ref (ad 0)), (1, .int (nI i)), (2, .int (nI 0))] dX5_album_37 rfl (by decide) rfl ?_
  refine z_iload_n C dX5_album_38 rfl (show zlk _ 2 = some (.int (nI 0)) from rfl) ?_
  refine z_lookup C 64 dX5_album_39 (by decide) (off := 25) (by decide) (by decide) ?_
  refine z_aload_n C dX5_album_64 rfl (show zlk _ 0 = some (.ref (ad 0)) from rfl) ?_
  refine z_get C hinX5 0 cc_0 rfl 2 (by decide) (by decide +kernel) cg_0_2 dX5_album_65 ?_
  refine z_getN C (host := "GnatPortraits") hinX1 4 cc_4 rfl 11 (by decide) (by decide +kernel) cg_4_11 dX5_album_68 ?_
  refine z_iload_n C dX5_album_71 rfl (show zlk _ 3 = some (.int (nI ((n 15 + 39 - i) % 20))) from rfl) ?_
  refine z_iald C (f := (r 10)) 21 ca_21 ((n 15 + 39 - i) % 20) rfl (by omega) (by decide) dX5_album_72 ?_
  exact E _ _ _ _ (⟨rfl, rfl⟩) (rfl) dX5_album_73

set_option maxHeartbeats 4000000 in
set_option maxRecDepth 100000 in
theorem c_X5_album_31 (l : Launch) (θ : zH) (ea : Nat → Nat → Nat) (ad : Nat → Nat) (n : Nat → Nat) (g : Nat → Int32) (b : Nat → Bool) (r : Nat → Nat → Int32) (V : Nat → Ev) (i : Nat) (hi : i < n 14) (hn : n 15 < 20) (hz : n 14 ≤ 20) : cI l yX5_album wsX5_album 2 θ [.ref (ad 0), .int (nI i), .int (nI 1)] (CW θ ea ad n g b r V) (fun r0 Y => r0 = r 11 ((n 15 + 39 - i) % 20) ∧ Y = CW θ ea ad n g b r V) := by
  refine z_cI (by decide) rfl rfl (Nat.le_of_ble_eq_true rfl) (lv := [(0, .ref (ad 0)), (1, .int (nI i)), (2, .int (nI 1))]) rfl (fun κ C E => ?_)
  have hinX1 : ∀ w ∈ wsX10, w ∈ wsX5_album := by decide +kernel
  have hinX5 : ∀ w ∈ wsX50, w ∈ wsX5_album := by decide +kernel
  refine z_iload_n C dX5_album_0 rfl (show zlk _ 2 = some (.int (nI 1)) from rfl) ?_
  refine z_if_ltN C 9 dX5_album_1 (by decide) (by omega) ?_
  refine z_iload_n C dX5_album_4 rfl (show zlk _ 2 = some (.int (nI 1)) from rfl) ?_
  refine z_iconst C (v := nI 2) dX5_album_5 (by decide) ?_
  refine z_icmp_leT C 12 dX5_album_6 (by decide) (by omega) (by omega) (by decide) ?_
  refine z_iload_n C dX5_album_12 rfl (show zlk _ 1 = some (.int (nI i)) from rfl) ?_
  refine z_if_ltN C 27 dX5_album_13 (by decide) (by omega) ?_
  refine z_iload_n C dX5_album_16 rfl (show zlk _ 1 = some (.int (nI i)) from rfl) ?_
  refine z_aload_n C dX5_album_17 rfl (show zlk _ 0 = some (.ref (ad 0)) from rfl) ?_
  refine z_get C hinX5 0 cc_0 rfl 2 (by decide) (by decide +kernel) cg_0_2 dX5_album_18 ?_
  refine z_getN C (host := "GnatPortraits") hinX1 4 cc_4 rfl 6 (by decide) (by decide +kernel) cg_4_6 dX5_album_21 ?_
  refine z_icmp_ltT C 29 dX5_album_24 (by decide) (by omega) (by omega) (hi) ?_
  refine z_aload_n C dX5_album_29 rfl (show zlk _ 0 = some (.ref (ad 0)) from rfl) ?_
  refine z_get C hinX5 0 cc_0 rfl 2 (by decide) (by decide +kernel) cg_0_2 dX5_album_30 ?_
  refine z_iload_n C dX5_album_33 rfl (show zlk _ 1 = some (.int (nI i)) from rfl) ?_
  refine z_callNi C (As := [.int (nI i)]) (rest := []) (host := "GnatPortraits") (c_X1_albumPlace l θ ea ad n g b r V i (show n 15 < 20 from hn) (by omega)) gX5_album_X1_albumPlace_n173 rfl 1 (by decide +kernel) (by decide +kernel) (by decide +kernel) (by decide +kernel) (by decide +kernel) (by decide) (by decide) 4 rfl rfl rfl rfl rfl (Nat.le_of_ble_eq_true rfl) dX5_album_34 ?_
  rintro _ _ ⟨rfl, rfl⟩
  refine z_istore_n C [(3, .int (nI ((n 15 + 39 - i) % 20))), (0, .ref (ad 0)), (1, .int (nI i)), (2, .int (nI 1))] dX5_album_37 rfl (by decide) rfl ?_
  refine z_iload_n C dX5_album_38 rfl (show zlk _ 2 = some (.int (nI 1)) from rfl) ?_
  refine z_lookup C 74 dX5_album_39 (by decide) (off := 35) (by decide) (by decide) ?_
  refine z_aload_n C dX5_album_74 rfl (show zlk _ 0 = some (.ref (ad 0)) from rfl) ?_
  refine z_get C hinX5 0 cc_0 rfl 2 (by decide) (by decide +kernel) cg_0_2 dX5_album_75 ?_
  refine z_getN C (host := "GnatPortraits") hinX1 4 cc_4 rfl 12 (by decide) (by decide +kernel) cg_4_12 dX5_album_78 ?_
  refine z_iload_n C dX5_album_81 rfl (show zlk _ 3 = some (.int (nI ((n 15 + 39 - i) % 20))) from rfl) ?_
  refine z_iald C (f := (r 11)) 22 ca_22 ((n 15 + 39 - i) % 20) rfl (by omega) (by decide) dX5_album_82 ?_
  exact E _ _ _ _ (⟨rfl, rfl⟩) (rfl) dX5_album_83

set_option maxHeartbeats 4000000 in
set_option maxRecDepth 100000 in
theorem c_X5_album_32 (l : Launch) (θ : zH) (ea : Nat → Nat → Nat) (ad : Nat → Nat) (n : Nat → Nat) (g : Nat → Int32) (b : Nat → Bool) (r : Nat → Nat → Int32) (V : Nat → Ev) (i : Nat) (hi : i < n 14) (hn : n 15 < 20) (hz : n 14 ≤ 20) : cI l yX5_album wsX5_album 2 θ [.ref (ad 0), .int (nI i), .int (nI 2)] (CW θ ea ad n g b r V) (fun r0 Y => r0 = r 12 ((n 15 + 39 - i) % 20) ∧ Y = CW θ ea ad n g b r V) := by
  refine z_cI (by decide) rfl rfl (Nat.le_of_ble_eq_true rfl) (lv := [(0, .ref (ad 0)), (1, .int (nI i)), (2, .int (nI 2))]) rfl (fun κ C E => ?_)
  have hinX1 : ∀ w ∈ wsX10, w ∈ wsX5_album := by decide +kernel
  have hinX5 : ∀ w ∈ wsX50, w ∈ wsX5_album := by decide +kernel
  refine z_iload_n C dX5_album_0 rfl (show zlk _ 2 = some (.int (nI 2)) from rfl) ?_
  refine z_if_ltN C 9 dX5_album_1 (by decide) (by omega) ?_
  refine z_iload_n C dX5_album_4 rfl (show zlk _ 2 = some (.int (nI 2)) from rfl) ?_
  refine z_iconst C (v := nI 2) dX5_album_5 (by decide) ?_
  refine z_icmp_leT C 12 dX5_album_6 (by decide) (by omega) (by omega) (by decide) ?_
  refine z_iload_n C dX5_album_12 rfl (show zlk _ 1 = some (.int (nI i)) from rfl) ?_
  refine z_if_ltN C 27 dX5_album_13 (by decide) (by omega) ?_
  refine z_iload_n C dX5_album_16 rfl (show zlk _ 1 = some (.int (nI i)) from rfl) ?_
  refine z_aload_n C dX5_album_17 rfl (show zlk _ 0 = some (.ref (ad 0)) from rfl) ?_
  refine z_get C hinX5 0 cc_0 rfl 2 (by decide) (by decide +kernel) cg_0_2 dX5_album_18 ?_
  refine z_getN C (host := "GnatPortraits") hinX1 4 cc_4 rfl 6 (by decide) (by decide +kernel) cg_4_6 dX5_album_21 ?_
  refine z_icmp_ltT C 29 dX5_album_24 (by decide) (by omega) (by omega) (hi) ?_
  refine z_aload_n C dX5_album_29 rfl (show zlk _ 0 = some (.ref (ad 0)) from rfl) ?_
  refine z_get C hinX5 0 cc_0 rfl 2 (by decide) (by decide +kernel) cg_0_2 dX5_album_30 ?_
  refine z_iload_n C dX5_album_33 rfl (show zlk _ 1 = some (.int (nI i)) from rfl) ?_
  refine z_callNi C (As := [.int (nI i)]) (rest := []) (host := "GnatPortraits") (c_X1_albumPlace l θ ea ad n g b r V i (show n 15 < 20 from hn) (by omega)) gX5_album_X1_albumPlace_n173 rfl 1 (by decide +kernel) (by decide +kernel) (by decide +kernel) (by decide +kernel) (by decide +kernel) (by decide) (by decide) 4 rfl rfl rfl rfl rfl (Nat.le_of_ble_eq_true rfl) dX5_album_34 ?_
  rintro _ _ ⟨rfl, rfl⟩
  refine z_istore_n C [(3, .int (nI ((n 15 + 39 - i) % 20))), (0, .ref (ad 0)), (1, .int (nI i)), (2, .int (nI 2))] dX5_album_37 rfl (by decide) rfl ?_
  refine z_iload_n C dX5_album_38 rfl (show zlk _ 2 = some (.int (nI 2)) from rfl) ?_
  refine z_lookup C 84 dX5_album_39 (by decide) (off := 45) (by decide) (by decide) ?_
  refine z_aload_n C dX5_album_84 rfl (show zlk _ 0 = some (.ref (ad 0)) from rfl) ?_
  refine z_get C hinX5 0 cc_0 rfl 2 (by decide) (by decide +kernel) cg_0_2 dX5_album_85 ?_
  refine z_getN C (host := "GnatPortraits") hinX1 4 cc_4 rfl 13 (by decide) (by decide +kernel) cg_4_13 dX5_album_88 ?_
  refine z_iload_n C dX5_album_91 rfl (show zlk _ 3 = some (.int (nI ((n 15 + 39 - i) % 20))) from rfl) ?_
  refine z_iald C (f := (r 12)) 23 ca_23 ((n 15 + 39 - i) % 20) rfl (by omega) (by decide) dX5_album_92 ?_
  exact E _ _ _ _ (⟨rfl, rfl⟩) (rfl) dX5_album_93

