section ZK
variable {κ : zX} {l0 : Launch} {cc : ByteArray} {n0 : Nat} {own : String} {Ts : List Cond} {kf : Nat} {θ : zH} {X : va_W} {pc : Nat} {lv : List (Nat × Value)} {st : List Value}
theorem z_mmin (C : zC κ l0 cc n0 own Ts kf θ) {index : Nat} {x y : Int32} (h1 : Cond.methodLink own index Lib.Math.min.name ∈ Ts) (h2 : Cond.static Lib.Math.min.name ∈ Ts) (h3 : Cond.initialized "java/lang/Math" ∈ Ts) (h4 : Cond.code Lib.Math.min.name Lib.Math.min.code 2 (some .int) ∈ Ts) (hk : 1 ≤ kf) (hr : (st.map fun v => v.category).sum ≤ 8) (hd : decode cc pc = .ok (.invokestatic index, 3)) (kk : Z κ X (pc + 3) lv (.int (if y < x then y else x) :: st)) : Z κ X pc lv (.int y :: .int x :: st) := by
  obtain ⟨p, l, e, R, s, m, args, below, meth, c, Q, A, θ', n⟩ := κ
  obtain ⟨rfl, rfl, rfl, hR, hx, hb, hml, hown, hts, hK, hN, hA⟩ := C
  subst hR
  intro H locs ls hP hD hS hl
  exact va_mmin hx hb (hml.trans hl.1.symm) hown (hts _ h1) (hts _ h2) (hts _ h3) (hts _ h4) (show 1 ≤ kf from hk) (show _ ≤ 40 * kf by omega) (Nat.zero_le _) (Nat.zero_le _) hd (kk H locs ls hP hD hS hl)
theorem z_mminN (C : zC κ l0 cc n0 own Ts kf θ) {index a b : Nat} (h1 : Cond.methodLink own index Lib.Math.min.name ∈ Ts) (h2 : Cond.static Lib.Math.min.name ∈ Ts) (h3 : Cond.initialized "java/lang/Math" ∈ Ts) (h4 : Cond.code Lib.Math.min.name Lib.Math.min.code 2 (some .int) ∈ Ts) (hk : 1 ≤ kf) (hr : (st.map fun v => v.category).sum ≤ 8) (ha : a < 2 ^ 31) (hb : b < 2 ^ 31) (hd : decode cc pc = .ok (.invokestatic index, 3)) (kk : Z κ X (pc + 3) lv (.int (nI (min a b)) :: st)) : Z κ X pc lv (.int (nI b) :: .int (nI a) :: st) := by
  refine z_mmin C h1 h2 h3 h4 hk hr hd ?_
  have e : (if nI b < nI a then nI b else nI a : Int32) = nI (min a b) := by
    by_cases h : b < a
    · rw [if_pos ((nI_ltI hb ha).mpr h)]; congr 1; omega
    · rw [if_neg (fun z => h ((nI_ltI hb ha).mp z))]; congr 1; omega
  rw [e]; exact kk
theorem z_mmax (C : zC κ l0 cc n0 own Ts kf θ) {index : Nat} {x y : Int32} (h1 : Cond.methodLink own index Lib.Math.max.name ∈ Ts) (h2 : Cond.static Lib.Math.max.name ∈ Ts) (h3 : Cond.initialized "java/lang/Math" ∈ Ts) (h4 : Cond.code Lib.Math.max.name Lib.Math.max.code 2 (some .int) ∈ Ts) (hk : 1 ≤ kf) (hr : (st.map fun v => v.category).sum ≤ 8) (hd : decode cc pc = .ok (.invokestatic index, 3)) (kk : Z κ X (pc + 3) lv (.int (if x < y then y else x) :: st)) : Z κ X pc lv (.int y :: .int x :: st) := by
  obtain ⟨p, l, e, R, s, m, args, below, meth, c, Q, A, θ', n⟩ := κ
  obtain ⟨rfl, rfl, rfl, hR, hx, hb, hml, hown, hts, hK, hN, hA⟩ := C
  subst hR
  intro H locs ls hP hD hS hl
  exact va_mmax hx hb (hml.trans hl.1.symm) hown (hts _ h1) (hts _ h2) (hts _ h3) (hts _ h4) (show 1 ≤ kf from hk) (show _ ≤ 40 * kf by omega) (Nat.zero_le _) (Nat.zero_le _) hd (kk H locs ls hP hD hS hl)
theorem z_mmaxN (C : zC κ l0 cc n0 own Ts kf θ) {index a b : Nat} (h1 : Cond.methodLink own index Lib.Math.max.name ∈ Ts) (h2 : Cond.static Lib.Math.max.name ∈ Ts) (h3 : Cond.initialized "java/lang/Math" ∈ Ts) (h4 : Cond.code Lib.Math.max.name Lib.Math.max.code 2 (some .int) ∈ Ts) (hk : 1 ≤ kf) (hr : (st.map fun v => v.category).sum ≤ 8) (ha : a < 2 ^ 31) (hb : b < 2 ^ 31) (hd : decode cc pc = .ok (.invokestatic index, 3)) (kk : Z κ X (pc + 3) lv (.int (nI (max a b)) :: st)) : Z κ X pc lv (.int (nI b) :: .int (nI a) :: st) := by
  refine z_mmax C h1 h2 h3 h4 hk hr hd ?_
  have e : (if nI a < nI b then nI b else nI a : Int32) = nI (max a b) := by
    by_cases h : a < b
    · rw [if_pos ((nI_ltI ha hb).mpr h)]; congr 1; omega
    · rw [if_neg (fun z => h ((nI_ltI ha hb).mp z))]; congr 1; omega
  rw [e]; exact kk
theorem z_copy (C : zC κ l0 cc n0 own Ts kf θ) {index a0 a m0 m1 : Nat} {f g : Nat → Int32} (h1 : Cond.methodLink own index arraycopyName ∈ Ts) (h2 : Cond.native arraycopyName ∈ Ts) (h3 : Cond.static arraycopyName ∈ Ts) (h4 : Cond.initialized "java/lang/System" ∈ Ts) (q0 q1 : Nat) (ha0 : X[q0]? = some (a0, .inl (θ.2.1, m0, .inl f))) (ha1 : X[q1]? = some (a, .inl (θ.2.1, m1, .inl g))) (k : Nat) (hk0 : k ≤ m0) (hk1 : k ≤ m1) (hk : k < 2 ^ 31) (Y : va_W) (hY : X.set q1 (a, .inl (θ.2.1, m1, .inl (va_cpy f g 0 0 k))) = Y) (hkf : 1 ≤ kf) (hr : (st.map fun v => v.category).sum ≤ 8) (hd : decode cc pc = .ok (.invokestatic index, 3)) (kk : Z κ Y (pc + 3) lv st) : Z κ X pc lv (.int (nI k) :: .int (nI 0) :: .ref a :: .int (nI 0) :: .ref a0 :: st) := by
  obtain ⟨p, l, e, R, s, m, args, below, meth, c, Q, A, θ', n⟩ := κ
  obtain ⟨rfl, rfl, rfl, hR, hx, hb, hml, hown, hts, hK, hN, hA⟩ := C
  subst hR
  intro H locs ls hP hD hS hl
  subst hY
  have e0 : (nI 0).toNatClampNeg = 0 := nI_clamp (by decide)
  have ek : (nI k).toNatClampNeg = k := nI_clamp hk
  have hw : nativeFrameWords "java/lang/System" "arraycopy" 5 ≤ 20 := by decide
  refine va_copyi hx hb (hml.trans hl.1.symm) hown (hts _ h1) (hts _ h2) (hts _ h3) (hts _ h4) hK hP hD hS q0 q1 0 0 ha0 ha1 rfl rfl rfl (nI_pos (by decide)) (nI_pos (by decide)) (nI_pos hk) (by rw [e0, ek]; omega) (by rw [e0, ek]; omega) (fun i _ => rfl) (show 1 ≤ kf from hkf) (show _ ≤ 40 * kf by omega) hd ?_
  rw [e0, ek]
  exact fun H locs hP hD hS => kk H locs ls hP hD hS hl
end ZK
def k_wo (f : Nat → Int32) (s : Int32) : Int32 := if f 0 = s then nI 0 else if f 1 = s then nI 1 else if f 2 = s then nI 2 else if f 3 = s then nI 3 else if f 4 = s then nI 4 else (-1)
def k_mv (f : Nat → Int32) (s : Int32) : Nat → Nat → Int32
  | 0 => f
  | k + 1 => if k_mv f s k k = s then upd (k_mv f s k) k (-1) else k_mv f s k
def k_fm (x y : Int32) : Int32 := if 0 ≤ x ^^^ y then x - x / y * y else if x - x / y * y = 0 then x - x / y * y else x - x / y * y + y
def k_w1 (x : Int32) : Int32 := if x ≤ 0 then (if 0 ≤ x then x else x + nI 1) else x - nI 1
def k_ti (f : Nat → Int32) (nx : Nat) (s : Int32) : Nat → Nat
  | 0 => 0
  | i + 1 => if f ((nx + 39 - i) % 20) = s then k_ti f nx s i + 1 else k_ti f nx s i
theorem k_ti_le (f : Nat → Int32) (nx : Nat) (s : Int32) : ∀ i, k_ti f nx s i ≤ i
  | 0 => by simp [k_ti]
  | i + 1 => by
    have := k_ti_le f nx s i
    unfold k_ti
    split <;> omega
theorem k_fm_20 {nx i : Nat} (hn : nx < 20) (hi : i < 20) : k_fm (nI nx - nI 1 - nI i) (nI 20) = nI ((nx + 39 - i) % 20) := by
  have key : ∀ a : Fin 20, ∀ j : Fin 20, k_fm (nI a.val - nI 1 - nI j.val) (nI 20) = nI ((a.val + 39 - j.val) % 20) := by decide +kernel
  exact key ⟨nx, hn⟩ ⟨i, hi⟩
set_option maxHeartbeats 4000000 in
set_option maxRecDepth 100000 in
theorem c_X1_windowOf (l : Launch) (θ : zH) (ea : Nat → Nat → Nat) (ad : Nat → Nat) (n : Nat → Nat) (g : Nat → Int32) (b : Nat → Bool) (r : Nat → Nat → Int32) (V : Nat → Ev) (s : Int32) : cI l yX1_windowOf wsX1_windowOf 0 θ [.ref (ad 4), .int s] (CW θ ea ad n g b r V) (fun r0 Y => r0 = k_wo (r 8) s ∧ Y = CW θ ea ad n g b r V) := by
  refine z_cI (by decide) rfl rfl (Nat.le_of_ble_eq_true rfl) (lv := [(0, .ref (ad 4)), (1, .int s)]) rfl (fun κ C E => ?_)
  have hinX1 : ∀ w ∈ wsX10, w ∈ wsX1_windowOf := by decide +kernel
  refine z_iconst C (v := nI 0) dX1_windowOf_0 (by decide) ?_
  refine z_istore_n C [(2, .int (nI 0)), (0, .ref (ad 4)), (1, .int s)] dX1_windowOf_1 rfl (by decide) rfl ?_
  refine z_iload_n C dX1_windowOf_2 rfl (show zlk _ 2 = some (.int (nI 0)) from rfl) ?_
  refine z_iconst C (v := nI 5) dX1_windowOf_3 (by decide) ?_
  refine z_icmp_geF C 25 dX1_windowOf_4 (by decide) (by omega) (by omega) (by decide) ?_
  refine z_aload_n C dX1_windowOf_7 rfl (show zlk _ 0 = some (.ref (ad 4)) from rfl) ?_
  refine z_get C hinX1 4 cc_4 rfl 9 (by decide) (by decide +kernel) cg_4_9 dX1_windowOf_8 ?_
  refine z_iload_n C dX1_windowOf_11 rfl (show zlk _ 2 = some (.int (nI 0)) from rfl) ?_
  refine z_iald C (f := (r 8)) 19 ca_19 0 rfl (by omega) (by decide) dX1_windowOf_12 ?_
  refine z_iload_n C dX1_windowOf_13 rfl (show zlk _ 1 = some (.int s) from rfl) ?_
  refine z_icmp_ne C 19 dX1_windowOf_14 (by decide) (fun h14t_1 => ?_) (fun h14n_1 => ?_)
  · refine z_iincN C [(2, .int (nI 1)), (0, .ref (ad 4)), (1, .int s)] dX1_windowOf_19 rfl (by decide) rfl ?_
    refine z_goto C 2 dX1_windowOf_22 (by decide) ?_
    refine z_iload_n C dX1_windowOf_2 rfl (show zlk _ 2 = some (.int (nI 1)) from rfl) ?_
    refine z_iconst C (v := nI 5) dX1_windowOf_3 (by decide) ?_
    refine z_icmp_geF C 25 dX1_windowOf_4 (by decide) (by omega) (by omega) (by decide) ?_
    refine z_aload_n C dX1_windowOf_7 rfl (show zlk _ 0 = some (.ref (ad 4)) from rfl) ?_
    refine z_get C hinX1 4 cc_4 rfl 9 (by decide) (by decide +kernel) cg_4_9 dX1_windowOf_8 ?_
    refine z_iload_n C dX1_windowOf_11 rfl (show zlk _ 2 = some (.int (nI 1)) from rfl) ?_
    refine z_iald C (f := (r 8)) 19 ca_19 1 rfl (by omega) (by decide) dX1_windowOf_12 ?_
    refine z_iload_n C dX1_windowOf_13 rfl (show zlk _ 1 = some (.int s) from rfl) ?_
    refine z_icmp_ne C 19 dX1_windowOf_14 (by decide) (fun h14t_2 => ?_) (fun h14n_2 => ?_)
    · refine z_iincN C [(2, .int (nI 2)), (0, .ref (ad 4)), (1, .int s)] dX1_windowOf_19 rfl (by decide) rfl ?_
      refine z_goto C 2 dX1_windowOf_22 (by decide) ?_
      refine z_iload_n C dX1_windowOf_2 rfl (show zlk _ 2 = some (.int (nI 2)) from rfl) ?_
      refine z_iconst C (v := nI 5) dX1_windowOf_3 (by decide) ?_
      refine z_icmp_geF C 25 dX1_windowOf_4 (by decide) (by omega) (by omega) (by decide) ?_
      refine z_aload_n C dX1_windowOf_7 rfl (show zlk _ 0 = some (.ref (ad 4)) from rfl) ?_
      refine z_get C hinX1 4 cc_4 rfl 9 (by decide) (by decide +kernel) cg_4_9 dX1_windowOf_8 ?_
      refine z_iload_n C dX1_windowOf_11 rfl (show zlk _ 2 = some (.int (nI 2)) from rfl) ?_
      refine z_iald C (f := (r 8)) 19 ca_19 2 rfl (by omega) (by decide) dX1_windowOf_12 ?_
      refine z_iload_n C dX1_windowOf_13 rfl (show zlk _ 1 = some (.int s) from rfl) ?_
      refine z_icmp_ne C 19 dX1_windowOf_14 (by decide) (fun h14t_3 => ?_) (fun h14n_3 => ?_)
      · refine z_iincN C [(2, .int (nI 3)), (0, .ref (ad 4)), (1, .int s)] dX1_windowOf_19 rfl (by decide) rfl ?_
        refine z_goto C 2 dX1_windowOf_22 (by decide) ?_
        refine z_iload_n C dX1_windowOf_2 rfl (show zlk _ 2 = some (.int (nI 3)) from rfl) ?_
        refine z_iconst C (v := nI 5) dX1_windowOf_3 (by decide) ?_
        refine z_icmp_geF C 25 dX1_windowOf_4 (by decide) (by omega) (by omega) (by decide) ?_
        refine z_aload_n C dX1_windowOf_7 rfl (show zlk _ 0 = some (.ref (ad 4)) from rfl) ?_
        refine z_get C hinX1 4 cc_4 rfl 9 (by decide) (by decide +kernel) cg_4_9 dX1_windowOf_8 ?_
        refine z_iload_n C dX1_windowOf_11 rfl (show zlk _ 2 = some (.int (nI 3)) from rfl) ?_
        refine z_iald C (f := (r 8)) 19 ca_19 3 rfl (by omega) (by decide) dX1_windowOf_12 ?_
        refine z_iload_n C dX1_windowOf_13 rfl (show zlk _ 1 = some (.int s) from rfl) ?_
        refine z_icmp_ne C 19 dX1_windowOf_14 (by decide) (fun h14t_4 => ?_) (fun h14n_4 => ?_)
        · refine z_iincN C [(2, .int (nI 4)), (0, .ref (ad 4)), (1, .int s)] dX1_windowOf_19 rfl (by decide) rfl ?_
          refine z_goto C 2 dX1_windowOf_22 (by decide) ?_
          refine z_iload_n C dX1_windowOf_2 rfl (show zlk _ 2 = some (.int (nI 4)) from rfl) ?_
          refine z_iconst C (v := nI 5) dX1_windowOf_3 (by decide) ?_
          refine z_icmp_geF C 25 dX1_windowOf_4 (by decide) (by omega) (by omega) (by decide) ?_
          refine z_aload_n C dX1_windowOf_7 rfl (show zlk _ 0 = some (.ref (ad 4)) from rfl) ?_
          refine z_get C hinX1 4 cc_4 rfl 9 (by decide) (by decide +kernel) cg_4_9 dX1_windowOf_8 ?_
          refine z_iload_n C dX1_windowOf_11 rfl (show zlk _ 2 = some (.int (nI 4)) from rfl) ?_
          refine z_iald C (f := (r 8)) 19 ca_19 4 rfl (by omega) (by decide) dX1_windowOf_12 ?_
          refine z_iload_n C dX1_windowOf_13 rfl (show zlk _ 1 = some (.int s) from rfl) ?_
          refine z_icmp_ne C 19 dX1_windowOf_14 (by decide) (fun h14t_5 => ?_) (fun h14n_5 => ?_)
          · refine z_iincN C [(2, .int (nI 5)), (0, .ref (ad 4)), (1, .int s)] dX1_windowOf_19 rfl (by decide) rfl ?_
            refine z_goto C 2 dX1_windowOf_22 (by decide) ?_
            refine z_iload_n C dX1_windowOf_2 rfl (show zlk _ 2 = some (.int (nI 5)) from rfl) ?_
            refine z_iconst C (v := nI 5) dX1_windowOf_3 (by decide) ?_
            refine z_icmp_geT C 25 dX1_windowOf_4 (by decide) (by omega) (by omega) (by decide) ?_
            refine z_iconst C (v := (-1)) dX1_windowOf_25 (by decide) ?_
            exact E _ _ _ _ (⟨by unfold k_wo; rw [if_neg h14t_1, if_neg h14t_2, if_neg h14t_3, if_neg h14t_4, if_neg h14t_5], rfl⟩) (rfl) dX1_windowOf_26
          · refine z_iload_n C dX1_windowOf_17 rfl (show zlk _ 2 = some (.int (nI 4)) from rfl) ?_
            exact E _ _ _ _ (⟨by unfold k_wo; rw [if_neg h14t_1, if_neg h14t_2, if_neg h14t_3, if_neg h14t_4, if_pos h14n_5], rfl⟩) (rfl) dX1_windowOf_18
        · refine z_iload_n C dX1_windowOf_17 rfl (show zlk _ 2 = some (.int (nI 3)) from rfl) ?_
          exact E _ _ _ _ (⟨by unfold k_wo; rw [if_neg h14t_1, if_neg h14t_2, if_neg h14t_3, if_pos h14n_4], rfl⟩) (rfl) dX1_windowOf_18
      · refine z_iload_n C dX1_windowOf_17 rfl (show zlk _ 2 = some (.int (nI 2)) from rfl) ?_
        exact E _ _ _ _ (⟨by unfold k_wo; rw [if_neg h14t_1, if_neg h14t_2, if_pos h14n_3], rfl⟩) (rfl) dX1_windowOf_18
    · refine z_iload_n C dX1_windowOf_17 rfl (show zlk _ 2 = some (.int (nI 1)) from rfl) ?_
      exact E _ _ _ _ (⟨by unfold k_wo; rw [if_neg h14t_1, if_pos h14n_2], rfl⟩) (rfl) dX1_windowOf_18
  · refine z_iload_n C dX1_windowOf_17 rfl (show zlk _ 2 = some (.int (nI 0)) from rfl) ?_
    exact E _ _ _ _ (⟨by unfold k_wo; rw [if_pos h14n_1], rfl⟩) (rfl) dX1_windowOf_18

set_option maxHeartbeats 4000000 in
set_option maxRecDepth 100000 in
theorem c_X1_moveTo (l : Launch) (θ : zH) (ea : Nat → Nat → Nat) (ad : Nat → Nat) (n : Nat → Nat) (g : Nat → Int32) (b : Nat → Bool) (r : Nat → Nat → Int32) (V : Nat → Ev) (s : Int32) (w : Nat) (hw : w < 5) : cV l yX1_moveTo wsX1_moveTo 0 θ [.ref (ad 4), .int s, .int (nI w)] (CW θ ea ad n g b r V) (fun Y => Y = CW θ ea ad n g b (crv (r 0) (r 1) (r 2) (r 3) (r 4) (r 5) (r 6) (r 7) (upd (k_mv (r 8) s 5) w s) (r 9) (r 10) (r 11) (r 12) (r 13) (r 14) (r 15) (r 16) (r 17) (r 18)) V) := by
  refine z_cV (by decide) rfl rfl (Nat.le_of_ble_eq_true rfl) (lv := [(0, .ref (ad 4)), (1, .int s), (2, .int (nI w))]) rfl (fun κ C E => ?_)
  have hinX1 : ∀ w ∈ wsX10, w ∈ wsX1_moveTo := by decide +kernel
  refine z_iconst C (v := nI 0) dX1_moveTo_0 (by decide) ?_
  refine z_istore_n C [(3, .int (nI 0)), (0, .ref (ad 4)), (1, .int s), (2, .int (nI w))] dX1_moveTo_1 rfl (by decide) rfl ?_
  refine z_lv (lv' := [(0, .ref (ad 4)), (1, .int s), (2, .int (nI w)), (3, .int (nI 0))]) rfl ?_
  refine z_X (Y := CW θ ea ad n g b (crv (r 0) (r 1) (r 2) (r 3) (r 4) (r 5) (r 6) (r 7) (k_mv (r 8) s 0) (r 9) (r 10) (r 11) (r 12) (r 13) (r 14) (r 15) (r 16) (r 17) (r 18)) V) (cw_eq rfl rfl rfl rfl rfl rfl rfl rfl rfl rfl rfl rfl rfl rfl rfl rfl rfl rfl rfl rfl rfl rfl rfl rfl rfl rfl rfl rfl rfl rfl rfl rfl rfl rfl rfl rfl rfl rfl rfl rfl rfl rfl rfl rfl rfl rfl rfl rfl rfl rfl rfl) ?_
  refine z_up (fun k => Z κ (CW θ ea ad n g b (crv (r 0) (r 1) (r 2) (r 3) (r 4) (r 5) (r 6) (r 7) (k_mv (r 8) s k) (r 9) (r 10) (r 11) (r 12) (r 13) (r 14) (r 15) (r 16) (r 17) (r 18)) V) 2 [(0, .ref (ad 4)), (1, .int s), (2, .int (nI w)), (3, .int (nI k))] []) (5) ?_ ?_ 0 (by omega)
  · refine z_iload_n C dX1_moveTo_2 rfl (show zlk _ 3 = some (.int (nI 5)) from rfl) ?_
    refine z_iconst C (v := nI 5) dX1_moveTo_3 (by decide) ?_
    refine z_icmp_geT C 30 dX1_moveTo_4 (by decide) (by omega) (by omega) (by omega) ?_
    refine z_iload_n C dX1_moveTo_30 rfl (show zlk _ 2 = some (.int (nI w)) from rfl) ?_
    refine z_if_ltN C 46 dX1_moveTo_31 (by decide) (by omega) ?_
    refine z_iload_n C dX1_moveTo_34 rfl (show zlk _ 2 = some (.int (nI w)) from rfl) ?_
    refine z_iconst C (v := nI 5) dX1_moveTo_35 (by decide) ?_
    refine z_icmp_geF C 46 dX1_moveTo_36 (by decide) (by omega) (by omega) (by omega) ?_
    refine z_aload_n C dX1_moveTo_39 rfl (show zlk _ 0 = some (.ref (ad 4)) from rfl) ?_
    refine z_get C hinX1 4 cc_4 rfl 9 (by decide) (by decide +kernel) cg_4_9 dX1_moveTo_40 ?_
    refine z_iload_n C dX1_moveTo_43 rfl (show zlk _ 2 = some (.int (nI w)) from rfl) ?_
    refine z_iload_n C dX1_moveTo_44 rfl (show zlk _ 1 = some (.int s) from rfl) ?_
    refine z_iast C (f := (k_mv (r 8) s 5)) 19 cav_19 w rfl (by omega) (by decide) _ csv_19 dX1_moveTo_45 ?_
    exact E _ _ _ ((cw_eq rfl rfl rfl rfl rfl rfl rfl rfl rfl rfl rfl rfl rfl rfl rfl rfl rfl rfl rfl rfl rfl rfl rfl rfl rfl rfl rfl rfl rfl rfl rfl rfl rfl rfl rfl rfl rfl rfl rfl rfl rfl rfl rfl rfl rfl rfl rfl rfl rfl rfl rfl)) dX1_moveTo_46
  · intro k hk2 ih2
    refine z_iload_n C dX1_moveTo_2 rfl (show zlk _ 3 = some (.int (nI k)) from rfl) ?_
    refine z_iconst C (v := nI 5) dX1_moveTo_3 (by decide) ?_
    refine z_icmp_geF C 30 dX1_moveTo_4 (by decide) (by omega) (by omega) (by omega) ?_
    refine z_aload_n C dX1_moveTo_7 rfl (show zlk _ 0 = some (.ref (ad 4)) from rfl) ?_
    refine z_get C hinX1 4 cc_4 rfl 9 (by decide) (by decide +kernel) cg_4_9 dX1_moveTo_8 ?_
    refine z_iload_n C dX1_moveTo_11 rfl (show zlk _ 3 = some (.int (nI k)) from rfl) ?_
    refine z_iald C (f := (k_mv (r 8) s k)) 19 cav_19 k rfl (by omega) (by decide) dX1_moveTo_12 ?_
    refine z_iload_n C dX1_moveTo_13 rfl (show zlk _ 1 = some (.int s) from rfl) ?_
    refine z_icmp_ne C 24 dX1_moveTo_14 (by decide) (fun h14t_1 => ?_) (fun h14n_1 => ?_)
    · refine z_iincN C [(3, .int (nI (k + 1))), (0, .ref (ad 4)), (1, .int s), (2, .int (nI w))] dX1_moveTo_24 rfl (by decide) rfl ?_
      refine z_goto C 2 dX1_moveTo_27 (by decide) ?_
      exact z_to (ih2) (by rw [k_mv, if_neg h14t_1] <;> exact (cw_eq rfl rfl rfl rfl rfl rfl rfl rfl rfl rfl rfl rfl rfl rfl rfl rfl rfl rfl rfl rfl rfl rfl rfl rfl rfl rfl rfl rfl rfl rfl rfl rfl rfl rfl rfl rfl rfl rfl rfl rfl rfl rfl rfl rfl rfl rfl rfl rfl rfl rfl rfl)) (rfl)
    · refine z_aload_n C dX1_moveTo_17 rfl (show zlk _ 0 = some (.ref (ad 4)) from rfl) ?_
      refine z_get C hinX1 4 cc_4 rfl 9 (by decide) (by decide +kernel) cg_4_9 dX1_moveTo_18 ?_
      refine z_iload_n C dX1_moveTo_21 rfl (show zlk _ 3 = some (.int (nI k)) from rfl) ?_
      refine z_iconst C (v := (-1)) dX1_moveTo_22 (by decide) ?_
      refine z_iast C (f := (k_mv (r 8) s k)) 19 cav_19 k rfl (by omega) (by decide) _ csv_19 dX1_moveTo_23 ?_
      refine z_iincN C [(3, .int (nI (k + 1))), (0, .ref (ad 4)), (1, .int s), (2, .int (nI w))] dX1_moveTo_24 rfl (by decide) rfl ?_
      refine z_goto C 2 dX1_moveTo_27 (by decide) ?_
      exact z_to (ih2) (by rw [k_mv, if_pos h14n_1] <;> exact (cw_eq rfl rfl rfl rfl rfl rfl rfl rfl rfl rfl rfl rfl rfl rfl rfl rfl rfl rfl rfl rfl rfl rfl rfl rfl rfl rfl rfl rfl rfl rfl rfl rfl rfl rfl rfl rfl rfl rfl rfl rfl rfl rfl rfl rfl rfl rfl rfl rfl rfl rfl rfl)) (rfl)

set_option maxHeartbeats 4000000 in
set_option maxRecDepth 100000 in
theorem c_X1_endDusk (l : Launch) (θ : zH) (ea : Nat → Nat → Nat) (ad : Nat → Nat) (n : Nat → Nat) (g : Nat → Int32) (b : Nat → Bool) (r : Nat → Nat → Int32) (V : Nat → Ev)  (hd : n 13 < 2 ^ 30) : cV l yX1_endDusk wsX1_endDusk 0 θ [.ref (ad 4)] (CW θ ea ad n g b r V) (fun Y => Y = CW θ ea ad (cnv (n 0) (n 1) (n 2) (n 3) (n 4) (n 5) (n 6) (n 7) (n 8) (n 9) (n 10) (n 11) (n 12) (n 13 + 1) (n 14) (n 15) (n 16) (n 17) (n 18) (n 19) (n 20)) (cgv (g 0) (g 1) (g 2) (k_w1 (g 3)) (nI 0) (if n 13 % 3 = 2 then nI 0 else g 5) (nI 0)) (cbv (b 0) (b 1) false) r V) := by
  refine z_cV (by decide) rfl rfl (Nat.le_of_ble_eq_true rfl) (lv := [(0, .ref (ad 4))]) rfl (fun κ C E => ?_)
  have hinX1 : ∀ w ∈ wsX10, w ∈ wsX1_endDusk := by decide +kernel
  refine z_aload_n C dX1_endDusk_0 rfl (show zlk _ 0 = some (.ref (ad 4)) from rfl) ?_
  refine z_get C hinX1 4 cc_4 rfl 0 (by decide) (by decide +kernel) cg_4_0 dX1_endDusk_1 ?_
  refine z_if_le C 20 dX1_endDusk_4 (by decide) (fun h4t_1 => ?_) (fun h4n_1 => ?_)
  · refine z_aload_n C dX1_endDusk_20 rfl (show zlk _ 0 = some (.ref (ad 4)) from rfl) ?_
    refine z_get C hinX1 4 cc_4 rfl 0 (by decide) (by decide +kernel) cg_4_0 dX1_endDusk_21 ?_
    refine z_if_ge C 37 dX1_endDusk_24 (by decide) (fun h24t_2 => ?_) (fun h24n_2 => ?_)
    · refine z_aload_n C dX1_endDusk_37 rfl (show zlk _ 0 = some (.ref (ad 4)) from rfl) ?_
      refine z_iconst C (v := nI 0) dX1_endDusk_38 (by decide) ?_
      refine z_put C hinX1 tyX1 tyX1_ok nmX1 4 cc_4 rfl 1 (by decide) (by decide +kernel) rfl rfl rfl rfl (Nat.le_of_ble_eq_true rfl) _ cp_4_1 dX1_endDusk_39 ?_
      refine z_aload_n C dX1_endDusk_42 rfl (show zlk _ 0 = some (.ref (ad 4)) from rfl) ?_
      refine z_iconst C (v := nI 0) dX1_endDusk_43 (by decide) ?_
      refine z_top (v' := .int (bI false)) rfl ?_
      refine z_put C hinX1 tyX1 tyX1_ok nmX1 4 cc_4 rfl 3 (by decide) (by decide +kernel) rfl rfl (bI_n _) (bI_f2 _) (Nat.le_of_ble_eq_true rfl) _ cp_4_3 dX1_endDusk_44 ?_
      refine z_aload_n C dX1_endDusk_47 rfl (show zlk _ 0 = some (.ref (ad 4)) from rfl) ?_
      refine z_iconst C (v := nI 0) dX1_endDusk_48 (by decide) ?_
      refine z_put C hinX1 tyX1 tyX1_ok nmX1 4 cc_4 rfl 4 (by decide) (by decide +kernel) rfl rfl rfl rfl (Nat.le_of_ble_eq_true rfl) _ cv_4_4 dX1_endDusk_49 ?_
      refine z_aload_n C dX1_endDusk_52 rfl (show zlk _ 0 = some (.ref (ad 4)) from rfl) ?_
      refine z_get C hinX1 4 cc_4 rfl 5 (by decide) (by decide +kernel) cg_4_5 dX1_endDusk_53 ?_
      refine z_iconst C (v := nI 3) dX1_endDusk_56 (by decide) ?_
      refine z_iremN C dX1_endDusk_57 (by omega) (by decide) (by decide) ?_
      refine z_iconst C (v := nI 2) dX1_endDusk_58 (by decide) ?_
      refine z_icmp_neN C 67 dX1_endDusk_59 (by decide) (by omega) (by omega) (fun h59t_3 => ?_) (fun h59n_3 => ?_)
      · refine z_aload_n C dX1_endDusk_67 rfl (show zlk _ 0 = some (.ref (ad 4)) from rfl) ?_
        refine z_dup C dX1_endDusk_68 rfl ?_
        refine z_get C hinX1 4 cc_4 rfl 5 (by decide) (by decide +kernel) cg_4_5 dX1_endDusk_69 ?_
        refine z_iconst C (v := nI 1) dX1_endDusk_72 (by decide) ?_
        refine z_iaddN C dX1_endDusk_73 ?_
        refine z_put C hinX1 tyX1 tyX1_ok nmX1 4 cc_4 rfl 5 (by decide) (by decide +kernel) rfl rfl rfl rfl (Nat.le_of_ble_eq_true rfl) _ cp_4_5 dX1_endDusk_74 ?_
        exact E _ _ _ (by rw [show k_w1 (g 3) = g 3 by (unfold k_w1; rw [if_pos h4t_1, if_pos h24t_2]), if_neg h59t_3] <;> exact (cw_eq rfl rfl rfl rfl rfl rfl rfl rfl rfl rfl rfl rfl rfl rfl rfl rfl rfl rfl rfl rfl rfl rfl rfl rfl rfl rfl rfl rfl rfl rfl rfl rfl rfl rfl rfl rfl rfl rfl rfl rfl rfl rfl rfl rfl rfl rfl rfl rfl rfl rfl rfl)) dX1_endDusk_77
      · refine z_aload_n C dX1_endDusk_62 rfl (show zlk _ 0 = some (.ref (ad 4)) from rfl) ?_
        refine z_iconst C (v := nI 0) dX1_endDusk_63 (by decide) ?_
        refine z_put C hinX1 tyX1 tyX1_ok nmX1 4 cc_4 rfl 2 (by decide) (by decide +kernel) rfl rfl rfl rfl (Nat.le_of_ble_eq_true rfl) _ cv_4_2 dX1_endDusk_64 ?_
        refine z_aload_n C dX1_endDusk_67 rfl (show zlk _ 0 = some (.ref (ad 4)) from rfl) ?_
        refine z_dup C dX1_endDusk_68 rfl ?_
        refine z_get C hinX1 4 cc_4 rfl 5 (by decide) (by decide +kernel) cg_4_5 dX1_endDusk_69 ?_
        refine z_iconst C (v := nI 1) dX1_endDusk_72 (by decide) ?_
        refine z_iaddN C dX1_endDusk_73 ?_
        refine z_put C hinX1 tyX1 tyX1_ok nmX1 4 cc_4 rfl 5 (by decide) (by decide +kernel) rfl rfl rfl rfl (Nat.le_of_ble_eq_true rfl) _ cp_4_5 dX1_endDusk_74 ?_
        exact E _ _ _ (by rw [show k_w1 (g 3) = g 3 by (unfold k_w1; rw [if_pos h4t_1, if_pos h24t_2]), if_pos h59n_3] <;> exact (cw_eq rfl rfl rfl rfl rfl rfl rfl rfl rfl rfl rfl rfl rfl rfl rfl rfl rfl rfl rfl rfl rfl rfl rfl rfl rfl rfl rfl rfl rfl rfl rfl rfl rfl rfl rfl rfl rfl rfl rfl rfl rfl rfl rfl rfl rfl rfl rfl rfl rfl rfl rfl)) dX1_endDusk_77
    · refine z_aload_n C dX1_endDusk_27 rfl (show zlk _ 0 = some (.ref (ad 4)) from rfl) ?_
      refine z_dup C dX1_endDusk_28 rfl ?_
      refine z_get C hinX1 4 cc_4 rfl 0 (by decide) (by decide +kernel) cg_4_0 dX1_endDusk_29 ?_
      refine z_iconst C (v := nI 1) dX1_endDusk_32 (by decide) ?_
      refine z_iadd C dX1_endDusk_33 ?_
      refine z_put C hinX1 tyX1 tyX1_ok nmX1 4 cc_4 rfl 0 (by decide) (by decide +kernel) rfl rfl rfl rfl (Nat.le_of_ble_eq_true rfl) _ cp_4_0 dX1_endDusk_34 ?_
      refine z_aload_n C dX1_endDusk_37 rfl (show zlk _ 0 = some (.ref (ad 4)) from rfl) ?_
      refine z_iconst C (v := nI 0) dX1_endDusk_38 (by decide) ?_
      refine z_put C hinX1 tyX1 tyX1_ok nmX1 4 cc_4 rfl 1 (by decide) (by decide +kernel) rfl rfl rfl rfl (Nat.le_of_ble_eq_true rfl) _ cv_4_1 dX1_endDusk_39 ?_
      refine z_aload_n C dX1_endDusk_42 rfl (show zlk _ 0 = some (.ref (ad 4)) from rfl) ?_
      refine z_iconst C (v := nI 0) dX1_endDusk_43 (by decide) ?_
      refine z_top (v' := .int (bI false)) rfl ?_
      refine z_put C hinX1 tyX1 tyX1_ok nmX1 4 cc_4 rfl 3 (by decide) (by decide +kernel) rfl rfl (bI_n _) (bI_f2 _) (Nat.le_of_ble_eq_true rfl) _ cp_4_3 dX1_endDusk_44 ?_
      refine z_aload_n C dX1_endDusk_47 rfl (show zlk _ 0 = some (.ref (ad 4)) from rfl) ?_
      refine z_iconst C (v := nI 0) dX1_endDusk_48 (by decide) ?_
      refine z_put C hinX1 tyX1 tyX1_ok nmX1 4 cc_4 rfl 4 (by decide) (by decide +kernel) rfl rfl rfl rfl (Nat.le_of_ble_eq_true rfl) _ cv_4_4 dX1_endDusk_49 ?_
      refine z_aload_n C dX1_endDusk_52 rfl (show zlk _ 0 = some (.ref (ad 4)) from rfl) ?_
      refine z_get C hinX1 4 cc_4 rfl 5 (by decide) (by decide +kernel) cg_4_5 dX1_endDusk_53 ?_
      refine z_iconst C (v := nI 3) dX1_endDusk_56 (by decide) ?_
      refine z_iremN C dX1_endDusk_57 (by omega) (by decide) (by decide) ?_
      refine z_iconst C (v := nI 2) dX1_endDusk_58 (by decide) ?_
      refine z_icmp_neN C 67 dX1_endDusk_59 (by decide) (by omega) (by omega) (fun h59t_4 => ?_) (fun h59n_4 => ?_)
      · refine z_aload_n C dX1_endDusk_67 rfl (show zlk _ 0 = some (.ref (ad 4)) from rfl) ?_
        refine z_dup C dX1_endDusk_68 rfl ?_
        refine z_get C hinX1 4 cc_4 rfl 5 (by decide) (by decide +kernel) cg_4_5 dX1_endDusk_69 ?_
        refine z_iconst C (v := nI 1) dX1_endDusk_72 (by decide) ?_
        refine z_iaddN C dX1_endDusk_73 ?_
        refine z_put C hinX1 tyX1 tyX1_ok nmX1 4 cc_4 rfl 5 (by decide) (by decide +kernel) rfl rfl rfl rfl (Nat.le_of_ble_eq_true rfl) _ cp_4_5 dX1_endDusk_74 ?_
        exact E _ _ _ (by rw [show k_w1 (g 3) = g 3 + nI 1 by (unfold k_w1; rw [if_pos h4t_1, if_neg h24n_2]), if_neg h59t_4] <;> exact (cw_eq rfl rfl rfl rfl rfl rfl rfl rfl rfl rfl rfl rfl rfl rfl rfl rfl rfl rfl rfl rfl rfl rfl rfl rfl rfl rfl rfl rfl rfl rfl rfl rfl rfl rfl rfl rfl rfl rfl rfl rfl rfl rfl rfl rfl rfl rfl rfl rfl rfl rfl rfl)) dX1_endDusk_77
      · refine z_aload_n C dX1_endDusk_62 rfl (show zlk _ 0 = some (.ref (ad 4)) from rfl) ?_
        refine z_iconst C (v := nI 0) dX1_endDusk_63 (by decide) ?_
        refine z_put C hinX1 tyX1 tyX1_ok nmX1 4 cc_4 rfl 2 (by decide) (by decide +kernel) rfl rfl rfl rfl (Nat.le_of_ble_eq_true rfl) _ cv_4_2 dX1_endDusk_64 ?_
        refine z_aload_n C dX1_endDusk_67 rfl (show zlk _ 0 = some (.ref (ad 4)) from rfl) ?_
        refine z_dup C dX1_endDusk_68 rfl ?_
        refine z_get C hinX1 4 cc_4 rfl 5 (by decide) (by decide +kernel) cg_4_5 dX1_endDusk_69 ?_
        refine z_iconst C (v := nI 1) dX1_endDusk_72 (by decide) ?_
        refine z_iaddN C dX1_endDusk_73 ?_
        refine z_put C hinX1 tyX1 tyX1_ok nmX1 4 cc_4 rfl 5 (by decide) (by decide +kernel) rfl rfl rfl rfl (Nat.le_of_ble_eq_true rfl) _ cp_4_5 dX1_endDusk_74 ?_
        exact E _ _ _ (by rw [show k_w1 (g 3) = g 3 + nI 1 by (unfold k_w1; rw [if_pos h4t_1, if_neg h24n_2]), if_pos h59n_4] <;> exact (cw_eq rfl rfl rfl rfl rfl rfl rfl rfl rfl rfl rfl rfl rfl rfl rfl rfl rfl rfl rfl rfl rfl rfl rfl rfl rfl rfl rfl rfl rfl rfl rfl rfl rfl rfl rfl rfl rfl rfl rfl rfl rfl rfl rfl rfl rfl rfl rfl rfl rfl rfl rfl)) dX1_endDusk_77
  · refine z_aload_n C dX1_endDusk_7 rfl (show zlk _ 0 = some (.ref (ad 4)) from rfl) ?_
    refine z_dup C dX1_endDusk_8 rfl ?_
    refine z_get C hinX1 4 cc_4 rfl 0 (by decide) (by decide +kernel) cg_4_0 dX1_endDusk_9 ?_
    refine z_iconst C (v := nI 1) dX1_endDusk_12 (by decide) ?_
    refine z_isub C dX1_endDusk_13 ?_
    refine z_put C hinX1 tyX1 tyX1_ok nmX1 4 cc_4 rfl 0 (by decide) (by decide +kernel) rfl rfl rfl rfl (Nat.le_of_ble_eq_true rfl) _ cp_4_0 dX1_endDusk_14 ?_
    refine z_goto C 37 dX1_endDusk_17 (by decide) ?_
    refine z_aload_n C dX1_endDusk_37 rfl (show zlk _ 0 = some (.ref (ad 4)) from rfl) ?_
    refine z_iconst C (v := nI 0) dX1_endDusk_38 (by decide) ?_
    refine z_put C hinX1 tyX1 tyX1_ok nmX1 4 cc_4 rfl 1 (by decide) (by decide +kernel) rfl rfl rfl rfl (Nat.le_of_ble_eq_true rfl) _ cv_4_1 dX1_endDusk_39 ?_
    refine z_aload_n C dX1_endDusk_42 rfl (show zlk _ 0 = some (.ref (ad 4)) from rfl) ?_
    refine z_iconst C (v := nI 0) dX1_endDusk_43 (by decide) ?_
    refine z_top (v' := .int (bI false)) rfl ?_
    refine z_put C hinX1 tyX1 tyX1_ok nmX1 4 cc_4 rfl 3 (by decide) (by decide +kernel) rfl rfl (bI_n _) (bI_f2 _) (Nat.le_of_ble_eq_true rfl) _ cp_4_3 dX1_endDusk_44 ?_
    refine z_aload_n C dX1_endDusk_47 rfl (show zlk _ 0 = some (.ref (ad 4)) from rfl) ?_
    refine z_iconst C (v := nI 0) dX1_endDusk_48 (by decide) ?_
    refine z_put C hinX1 tyX1 tyX1_ok nmX1 4 cc_4 rfl 4 (by decide) (by decide +kernel) rfl rfl rfl rfl (Nat.le_of_ble_eq_true rfl) _ cv_4_4 dX1_endDusk_49 ?_
    refine z_aload_n C dX1_endDusk_52 rfl (show zlk _ 0 = some (.ref (ad 4)) from rfl) ?_
    refine z_get C hinX1 4 cc_4 rfl 5 (by decide) (by decide +kernel) cg_4_5 dX1_endDusk_53 ?_
    refine z_iconst C (v := nI 3) dX1_endDusk_56 (by decide) ?_
    refine z_iremN C dX1_endDusk_57 (by omega) (by decide) (by decide) ?_
    refine z_iconst C (v := nI 2) dX1_endDusk_58 (by decide) ?_
    refine z_icmp_neN C 67 dX1_endDusk_59 (by decide) (by omega) (by omega) (fun h59t_5 => ?_) (fun h59n_5 => ?_)
    · refine z_aload_n C dX1_endDusk_67 rfl (show zlk _ 0 = some (.ref (ad 4)) from rfl) ?_
      refine z_dup C dX1_endDusk_68 rfl ?_
      refine z_get C hinX1 4 cc_4 rfl 5 (by decide) (by decide +kernel) cg_4_5 dX1_endDusk_69 ?_
      refine z_iconst C (v := nI 1) dX1_endDusk_72 (by decide) ?_
      refine z_iaddN C dX1_endDusk_73 ?_
      refine z_put C hinX1 tyX1 tyX1_ok nmX1 4 cc_4 rfl 5 (by decide) (by decide +kernel) rfl rfl rfl rfl (Nat.le_of_ble_eq_true rfl) _ cp_4_5 dX1_endDusk_74 ?_
      exact E _ _ _ (by rw [show k_w1 (g 3) = g 3 - nI 1 by (unfold k_w1; rw [if_neg h4n_1]), if_neg h59t_5] <;> exact (cw_eq rfl rfl rfl rfl rfl rfl rfl rfl rfl rfl rfl rfl rfl rfl rfl rfl rfl rfl rfl rfl rfl rfl rfl rfl rfl rfl rfl rfl rfl rfl rfl rfl rfl rfl rfl rfl rfl rfl rfl rfl rfl rfl rfl rfl rfl rfl rfl rfl rfl rfl rfl)) dX1_endDusk_77
    · refine z_aload_n C dX1_endDusk_62 rfl (show zlk _ 0 = some (.ref (ad 4)) from rfl) ?_
      refine z_iconst C (v := nI 0) dX1_endDusk_63 (by decide) ?_
      refine z_put C hinX1 tyX1 tyX1_ok nmX1 4 cc_4 rfl 2 (by decide) (by decide +kernel) rfl rfl rfl rfl (Nat.le_of_ble_eq_true rfl) _ cv_4_2 dX1_endDusk_64 ?_
      refine z_aload_n C dX1_endDusk_67 rfl (show zlk _ 0 = some (.ref (ad 4)) from rfl) ?_
      refine z_dup C dX1_endDusk_68 rfl ?_
      refine z_get C hinX1 4 cc_4 rfl 5 (by decide) (by decide +kernel) cg_4_5 dX1_endDusk_69 ?_
      refine z_iconst C (v := nI 1) dX1_endDusk_72 (by decide) ?_
      refine z_iaddN C dX1_endDusk_73 ?_
      refine z_put C hinX1 tyX1 tyX1_ok nmX1 4 cc_4 rfl 5 (by decide) (by decide +kernel) rfl rfl rfl rfl (Nat.le_of_ble_eq_true rfl) _ cp_4_5 dX1_endDusk_74 ?_
      exact E _ _ _ (by rw [show k_w1 (g 3) = g 3 - nI 1 by (unfold k_w1; rw [if_neg h4n_1]), if_pos h59n_5] <;> exact (cw_eq rfl rfl rfl rfl rfl rfl rfl rfl rfl rfl rfl rfl rfl rfl rfl rfl rfl rfl rfl rfl rfl rfl rfl rfl rfl rfl rfl rfl rfl rfl rfl rfl rfl rfl rfl rfl rfl rfl rfl rfl rfl rfl rfl rfl rfl rfl rfl rfl rfl rfl rfl)) dX1_endDusk_77

set_option maxHeartbeats 4000000 in
set_option maxRecDepth 100000 in
theorem c_X1_keepInAlbum (l : Launch) (θ : zH) (ea : Nat → Nat → Nat) (ad : Nat → Nat) (n : Nat → Nat) (g : Nat → Int32) (b : Nat → Bool) (r : Nat → Nat → Int32) (V : Nat → Ev) (w s v : Int32) (hn : n 15 < 20) (hz : n 14 ≤ 20) : cV l yX1_keepInAlbum wsX1_keepInAlbum 1 θ [.ref (ad 4), .int w, .int s, .int v] (CW θ ea ad n g b r V) (fun Y => Y = CW θ ea ad (cnv (n 0) (n 1) (n 2) (n 3) (n 4) (n 5) (n 6) (n 7) (n 8) (n 9) (n 10) (n 11) (n 12) (n 13) (min (n 14 + 1) 20) ((n 15 + 1) % 20) (n 16) (n 17) (n 18) (n 19) (n 20)) g b (crv (r 0) (r 1) (r 2) (r 3) (r 4) (r 5) (r 6) (r 7) (r 8) (r 9) (upd (r 10) (n 15) w) (upd (r 11) (n 15) s) (upd (r 12) (n 15) v) (r 13) (r 14) (r 15) (r 16) (r 17) (r 18)) V) := by
  refine z_cV (by decide) rfl rfl (Nat.le_of_ble_eq_true rfl) (lv := [(0, .ref (ad 4)), (1, .int w), (2, .int s), (3, .int v)]) rfl (fun κ C E => ?_)
  have hinX1 : ∀ w ∈ wsX10, w ∈ wsX1_keepInAlbum := by decide +kernel
  refine z_aload_n C dX1_keepInAlbum_0 rfl (show zlk _ 0 = some (.ref (ad 4)) from rfl) ?_
  refine z_get C hinX1 4 cc_4 rfl 7 (by decide) (by decide +kernel) cg_4_7 dX1_keepInAlbum_1 ?_
  refine z_if_ltN C 16 dX1_keepInAlbum_4 (by decide) (by omega) ?_
  refine z_aload_n C dX1_keepInAlbum_7 rfl (show zlk _ 0 = some (.ref (ad 4)) from rfl) ?_
  refine z_get C hinX1 4 cc_4 rfl 7 (by decide) (by decide +kernel) cg_4_7 dX1_keepInAlbum_8 ?_
  refine z_bipush C (v := nI 20) dX1_keepInAlbum_11 (by decide) ?_
  refine z_icmp_ltT C 17 dX1_keepInAlbum_13 (by decide) (by omega) (by omega) (by omega) ?_
  refine z_aload_n C dX1_keepInAlbum_17 rfl (show zlk _ 0 = some (.ref (ad 4)) from rfl) ?_
  refine z_get C hinX1 4 cc_4 rfl 11 (by decide) (by decide +kernel) cg_4_11 dX1_keepInAlbum_18 ?_
  refine z_aload_n C dX1_keepInAlbum_21 rfl (show zlk _ 0 = some (.ref (ad 4)) from rfl) ?_
  refine z_get C hinX1 4 cc_4 rfl 7 (by decide) (by decide +kernel) cg_4_7 dX1_keepInAlbum_22 ?_
  refine z_iload_n C dX1_keepInAlbum_25 rfl (show zlk _ 1 = some (.int w) from rfl) ?_
  refine z_iast C (f := (r 10)) 21 ca_21 (n 15) rfl (by omega) (by decide) _ cs_21 dX1_keepInAlbum_26 ?_
  refine z_aload_n C dX1_keepInAlbum_27 rfl (show zlk _ 0 = some (.ref (ad 4)) from rfl) ?_
  refine z_get C hinX1 4 cc_4 rfl 12 (by decide) (by decide +kernel) cg_4_12 dX1_keepInAlbum_28 ?_
  refine z_aload_n C dX1_keepInAlbum_31 rfl (show zlk _ 0 = some (.ref (ad 4)) from rfl) ?_
  refine z_get C hinX1 4 cc_4 rfl 7 (by decide) (by decide +kernel) cg_4_7 dX1_keepInAlbum_32 ?_
  refine z_iload_n C dX1_keepInAlbum_35 rfl (show zlk _ 2 = some (.int s) from rfl) ?_
  refine z_iast C (f := (r 11)) 22 cav_22 (n 15) rfl (by omega) (by decide) _ csv_22 dX1_keepInAlbum_36 ?_
  refine z_aload_n C dX1_keepInAlbum_37 rfl (show zlk _ 0 = some (.ref (ad 4)) from rfl) ?_
  refine z_get C hinX1 4 cc_4 rfl 13 (by decide) (by decide +kernel) cg_4_13 dX1_keepInAlbum_38 ?_
  refine z_aload_n C dX1_keepInAlbum_41 rfl (show zlk _ 0 = some (.ref (ad 4)) from rfl) ?_
  refine z_get C hinX1 4 cc_4 rfl 7 (by decide) (by decide +kernel) cg_4_7 dX1_keepInAlbum_42 ?_
  refine z_iload_n C dX1_keepInAlbum_45 rfl (show zlk _ 3 = some (.int v) from rfl) ?_
  refine z_iast C (f := (r 12)) 23 cav_23 (n 15) rfl (by omega) (by decide) _ csv_23 dX1_keepInAlbum_46 ?_
  refine z_aload_n C dX1_keepInAlbum_47 rfl (show zlk _ 0 = some (.ref (ad 4)) from rfl) ?_
  refine z_aload_n C dX1_keepInAlbum_48 rfl (show zlk _ 0 = some (.ref (ad 4)) from rfl) ?_
  refine z_get C hinX1 4 cc_4 rfl 7 (by decide) (by decide +kernel) cg_4_7 dX1_keepInAlbum_49 ?_
  refine z_iconst C (v := nI 1) dX1_keepInAlbum_52 (by decide) ?_
  refine z_iaddN C dX1_keepInAlbum_53 ?_
  refine z_bipush C (v := nI 20) dX1_keepInAlbum_54 (by decide) ?_
  refine z_iremN C dX1_keepInAlbum_56 (by omega) (by decide) (by decide) ?_
  refine z_put C hinX1 tyX1 tyX1_ok nmX1 4 cc_4 rfl 7 (by decide) (by decide +kernel) rfl rfl rfl rfl (Nat.le_of_ble_eq_true rfl) _ cp_4_7 dX1_keepInAlbum_57 ?_
  refine z_aload_n C dX1_keepInAlbum_60 rfl (show zlk _ 0 = some (.ref (ad 4)) from rfl) ?_
  refine z_aload_n C dX1_keepInAlbum_61 rfl (show zlk _ 0 = some (.ref (ad 4)) from rfl) ?_
  refine z_get C hinX1 4 cc_4 rfl 6 (by decide) (by decide +kernel) ch_4_6 dX1_keepInAlbum_62 ?_
  refine z_iconst C (v := nI 1) dX1_keepInAlbum_65 (by decide) ?_
  refine z_iaddN C dX1_keepInAlbum_66 ?_
  refine z_bipush C (v := nI 20) dX1_keepInAlbum_67 (by decide) ?_
  refine z_mminN C (by decide +kernel) (by decide +kernel) (by decide +kernel) (by decide +kernel) (by decide) (Nat.le_of_ble_eq_true rfl) (by omega) (by omega) dX1_keepInAlbum_69 ?_
  refine z_put C hinX1 tyX1 tyX1_ok nmX1 4 cc_4 rfl 6 (by decide) (by decide +kernel) rfl rfl rfl rfl (Nat.le_of_ble_eq_true rfl) _ cv_4_6 dX1_keepInAlbum_72 ?_
  exact E _ _ _ ((cw_eq rfl rfl rfl rfl rfl rfl rfl rfl rfl rfl rfl rfl rfl rfl rfl rfl rfl rfl rfl rfl rfl rfl rfl rfl rfl rfl rfl rfl rfl rfl rfl rfl rfl rfl rfl rfl rfl rfl rfl rfl rfl rfl rfl rfl rfl rfl rfl rfl rfl rfl rfl)) dX1_keepInAlbum_75

def k_nn (f : Nat → Int32) : Nat → Nat → Int32
  | 0 => f
  | k + 1 => upd (k_nn f k) k (-1)
set_option maxHeartbeats 4000000 in
set_option maxRecDepth 100000 in
theorem c_X3_begin (l : Launch) (θ : zH) (ea : Nat → Nat → Nat) (ad : Nat → Nat) (n : Nat → Nat) (g : Nat → Int32) (b : Nat → Bool) (r : Nat → Nat → Int32) (V : Nat → Ev)  : cV l yX3_begin wsX3_begin 0 θ [.ref (ad 9), .ref (ad 3)] (CW θ ea ad n g b r V) (fun Y => Y = CW θ ea ad (cnv (n 0) (n 1) (n 2) (n 3) (n 4) (n 5) (n 6) (n 7) (n 8) (n 9) (n 10) (n 11) (n 12) (n 13) (n 14) (n 15) (n 16) (n 17) (n 10) (n 11) 0) g b (crv (r 0) (r 1) (r 2) (r 3) (r 4) (r 5) (r 6) (r 7) (r 8) (r 9) (r 10) (r 11) (r 12) (r 13) (k_nn (r 14) 5) (k_nn (r 15) 5) (r 16) (r 17) (r 18)) V) := by
  refine z_cV (by decide) rfl rfl (Nat.le_of_ble_eq_true rfl) (lv := [(0, .ref (ad 9)), (1, .ref (ad 3))]) rfl (fun κ C E => ?_)
  have hinX0 : ∀ w ∈ wsX00, w ∈ wsX3_begin := by decide +kernel
  have hinX3 : ∀ w ∈ wsX30, w ∈ wsX3_begin := by decide +kernel
  refine z_aload_n C dX3_begin_0 rfl (show zlk _ 0 = some (.ref (ad 9)) from rfl) ?_
  refine z_aload_n C dX3_begin_1 rfl (show zlk _ 1 = some (.ref (ad 3)) from rfl) ?_
  refine z_getN C (host := "GnatPortraits") hinX0 3 cc_3 rfl 2 (by decide) (by decide +kernel) cg_3_2 dX3_begin_2 ?_
  refine z_put C hinX3 tyX3 tyX3_ok nmX3 9 cc_9 rfl 0 (by decide) (by decide +kernel) rfl rfl rfl rfl (Nat.le_of_ble_eq_true rfl) _ cp_9_0 dX3_begin_5 ?_
  refine z_aload_n C dX3_begin_8 rfl (show zlk _ 0 = some (.ref (ad 9)) from rfl) ?_
  refine z_aload_n C dX3_begin_9 rfl (show zlk _ 1 = some (.ref (ad 3)) from rfl) ?_
  refine z_getN C (host := "GnatPortraits") hinX0 3 cc_3 rfl 3 (by decide) (by decide +kernel) ch_3_3 dX3_begin_10 ?_
  refine z_put C hinX3 tyX3 tyX3_ok nmX3 9 cc_9 rfl 1 (by decide) (by decide +kernel) rfl rfl rfl rfl (Nat.le_of_ble_eq_true rfl) _ cv_9_1 dX3_begin_13 ?_
  refine z_aload_n C dX3_begin_16 rfl (show zlk _ 0 = some (.ref (ad 9)) from rfl) ?_
  refine z_iconst C (v := nI 0) dX3_begin_17 (by decide) ?_
  refine z_put C hinX3 tyX3 tyX3_ok nmX3 9 cc_9 rfl 2 (by decide) (by decide +kernel) rfl rfl rfl rfl (Nat.le_of_ble_eq_true rfl) _ cv_9_2 dX3_begin_18 ?_
  refine z_iconst C (v := nI 0) dX3_begin_21 (by decide) ?_
  refine z_istore_n C [(2, .int (nI 0)), (0, .ref (ad 9)), (1, .ref (ad 3))] dX3_begin_22 rfl (by decide) rfl ?_
  refine z_lv (lv' := [(0, .ref (ad 9)), (1, .ref (ad 3)), (2, .int (nI 0))]) rfl ?_
  refine z_X (Y := CW θ ea ad (cnv (n 0) (n 1) (n 2) (n 3) (n 4) (n 5) (n 6) (n 7) (n 8) (n 9) (n 10) (n 11) (n 12) (n 13) (n 14) (n 15) (n 16) (n 17) (n 10) (n 11) 0) g b (crv (r 0) (r 1) (r 2) (r 3) (r 4) (r 5) (r 6) (r 7) (r 8) (r 9) (r 10) (r 11) (r 12) (r 13) (k_nn (r 14) 0) (k_nn (r 15) 0) (r 16) (r 17) (r 18)) V) (cw_eq rfl rfl rfl rfl rfl rfl rfl rfl rfl rfl rfl rfl rfl rfl rfl rfl rfl rfl rfl rfl rfl rfl rfl rfl rfl rfl rfl rfl rfl rfl rfl rfl rfl rfl rfl rfl rfl rfl rfl rfl rfl rfl rfl rfl rfl rfl rfl rfl rfl rfl rfl) ?_
  refine z_up (fun k => Z κ (CW θ ea ad (cnv (n 0) (n 1) (n 2) (n 3) (n 4) (n 5) (n 6) (n 7) (n 8) (n 9) (n 10) (n 11) (n 12) (n 13) (n 14) (n 15) (n 16) (n 17) (n 10) (n 11) 0) g b (crv (r 0) (r 1) (r 2) (r 3) (r 4) (r 5) (r 6) (r 7) (r 8) (r 9) (r 10) (r 11) (r 12) (r 13) (k_nn (r 14) k) (k_nn (r 15) k) (r 16) (r 17) (r 18)) V) 23 [(0, .ref (ad 9)), (1, .ref (ad 3)), (2, .int (nI k))] []) (5) ?_ ?_ 0 (by omega)
  · refine z_iload_n C dX3_begin_23 rfl (show zlk _ 2 = some (.int (nI 5)) from rfl) ?_
    refine z_iconst C (v := nI 5) dX3_begin_24 (by decide) ?_
    refine z_icmp_geT C 48 dX3_begin_25 (by decide) (by omega) (by omega) (by omega) ?_
    exact E _ _ _ ((cw_eq rfl rfl rfl rfl rfl rfl rfl rfl rfl rfl rfl rfl rfl rfl rfl rfl rfl rfl rfl rfl rfl rfl rfl rfl rfl rfl rfl rfl rfl rfl rfl rfl rfl rfl rfl rfl rfl rfl rfl rfl rfl rfl rfl rfl rfl rfl rfl rfl rfl rfl rfl)) dX3_begin_48
  · intro k hk23 ih23
    refine z_iload_n C dX3_begin_23 rfl (show zlk _ 2 = some (.int (nI k)) from rfl) ?_
    refine z_iconst C (v := nI 5) dX3_begin_24 (by decide) ?_
    refine z_icmp_geF C 48 dX3_begin_25 (by decide) (by omega) (by omega) (by omega) ?_
    refine z_aload_n C dX3_begin_28 rfl (show zlk _ 0 = some (.ref (ad 9)) from rfl) ?_
    refine z_get C hinX3 9 cc_9 rfl 4 (by decide) (by decide +kernel) cg_9_4 dX3_begin_29 ?_
    refine z_iload_n C dX3_begin_32 rfl (show zlk _ 2 = some (.int (nI k)) from rfl) ?_
    refine z_iconst C (v := (-1)) dX3_begin_33 (by decide) ?_
    refine z_iast C (f := (k_nn (r 14) k)) 26 cav_26 k rfl (by omega) (by decide) _ csv_26 dX3_begin_34 ?_
    refine z_aload_n C dX3_begin_35 rfl (show zlk _ 0 = some (.ref (ad 9)) from rfl) ?_
    refine z_get C hinX3 9 cc_9 rfl 5 (by decide) (by decide +kernel) cg_9_5 dX3_begin_36 ?_
    refine z_iload_n C dX3_begin_39 rfl (show zlk _ 2 = some (.int (nI k)) from rfl) ?_
    refine z_iconst C (v := (-1)) dX3_begin_40 (by decide) ?_
    refine z_iast C (f := (k_nn (r 15) k)) 27 cav_27 k rfl (by omega) (by decide) _ csv_27 dX3_begin_41 ?_
    refine z_iincN C [(2, .int (nI (k + 1))), (0, .ref (ad 9)), (1, .ref (ad 3))] dX3_begin_42 rfl (by decide) rfl ?_
    refine z_goto C 23 dX3_begin_45 (by decide) ?_
    exact z_to (ih23) ((cw_eq rfl rfl rfl rfl rfl rfl rfl rfl rfl rfl rfl rfl rfl rfl rfl rfl rfl rfl rfl rfl rfl rfl rfl rfl rfl rfl rfl rfl rfl rfl rfl rfl rfl rfl rfl rfl rfl rfl rfl rfl rfl rfl rfl rfl rfl rfl rfl rfl rfl rfl rfl)) (rfl)

set_option maxHeartbeats 4000000 in
set_option maxRecDepth 100000 in
theorem c_X3_takeChosen (l : Launch) (θ : zH) (ea : Nat → Nat → Nat) (ad : Nat → Nat) (n : Nat → Nat) (g : Nat → Int32) (b : Nat → Bool) (r : Nat → Nat → Int32) (V : Nat → Ev) (c : Nat) (hw : n 19 ≤ 5) : cV l yX3_takeChosen wsX3_takeChosen 0 θ [.ref (ad 9), .int (nI c)] (CW θ ea ad n g b r V) (fun Y => Y = CW θ ea ad (cnv (n 0) (n 1) (n 2) (n 3) (n 4) (n 5) (n 6) (n 7) (n 8) (n 9) (n 10) (n 11) (n 12) (n 13) (n 14) (n 15) (n 16) (n 17) (n 18) (n 19) c) g b (crv (r 0) (r 1) (r 2) (r 3) (r 4) (r 5) (r 6) (r 7) (r 8) (r 9) (r 10) (r 11) (r 12) (r 13) (r 14) (m_cq (r 15) (r 14) (n 19)) (r 16) (r 17) (r 18)) V) := by
  refine z_cV (by decide) rfl rfl (Nat.le_of_ble_eq_true rfl) (lv := [(0, .ref (ad 9)), (1, .int (nI c))]) rfl (fun κ C E => ?_)
  have hinX3 : ∀ w ∈ wsX30, w ∈ wsX3_takeChosen := by decide +kernel
  refine z_aload_n C dX3_takeChosen_0 rfl (show zlk _ 0 = some (.ref (ad 9)) from rfl) ?_
  refine z_iload_n C dX3_takeChosen_1 rfl (show zlk _ 1 = some (.int (nI c)) from rfl) ?_
  refine z_put C hinX3 tyX3 tyX3_ok nmX3 9 cc_9 rfl 2 (by decide) (by decide +kernel) rfl rfl rfl rfl (Nat.le_of_ble_eq_true rfl) _ cp_9_2 dX3_takeChosen_2 ?_
  refine z_iconst C (v := nI 0) dX3_takeChosen_5 (by decide) ?_
  refine z_istore_n C [(2, .int (nI 0)), (0, .ref (ad 9)), (1, .int (nI c))] dX3_takeChosen_6 rfl (by decide) rfl ?_
  refine z_lv (lv' := [(0, .ref (ad 9)), (1, .int (nI c)), (2, .int (nI 0))]) rfl ?_
  refine z_X (Y := CW θ ea ad (cnv (n 0) (n 1) (n 2) (n 3) (n 4) (n 5) (n 6) (n 7) (n 8) (n 9) (n 10) (n 11) (n 12) (n 13) (n 14) (n 15) (n 16) (n 17) (n 18) (n 19) c) g b (crv (r 0) (r 1) (r 2) (r 3) (r 4) (r 5) (r 6) (r 7) (r 8) (r 9) (r 10) (r 11) (r 12) (r 13) (r 14) (m_cq (r 15) (r 14) 0) (r 16) (r 17) (r 18)) V) (cw_eq rfl rfl rfl rfl rfl rfl rfl rfl rfl rfl rfl rfl rfl rfl rfl rfl rfl rfl rfl rfl rfl rfl rfl rfl rfl rfl rfl rfl rfl rfl rfl rfl rfl rfl rfl rfl rfl rfl rfl rfl rfl rfl rfl rfl rfl rfl rfl rfl rfl rfl rfl) ?_
  refine z_up (fun k => Z κ (CW θ ea ad (cnv (n 0) (n 1) (n 2) (n 3) (n 4) (n 5) (n 6) (n 7) (n 8) (n 9) (n 10) (n 11) (n 12) (n 13) (n 14) (n 15) (n 16) (n 17) (n 18) (n 19) c) g b (crv (r 0) (r 1) (r 2) (r 3) (r 4) (r 5) (r 6) (r 7) (r 8) (r 9) (r 10) (r 11) (r 12) (r 13) (r 14) (m_cq (r 15) (r 14) k) (r 16) (r 17) (r 18)) V) 7 [(0, .ref (ad 9)), (1, .int (nI c)), (2, .int (nI k))] []) (n 19) ?_ ?_ 0 (by omega)
  · refine z_iload_n C dX3_takeChosen_7 rfl (show zlk _ 2 = some (.int (nI (n 19))) from rfl) ?_
    refine z_aload_n C dX3_takeChosen_8 rfl (show zlk _ 0 = some (.ref (ad 9)) from rfl) ?_
    refine z_get C hinX3 9 cc_9 rfl 1 (by decide) (by decide +kernel) ch_9_1 dX3_takeChosen_9 ?_
    refine z_icmp_geT C 33 dX3_takeChosen_12 (by decide) (by omega) (by omega) (by omega) ?_
    exact E _ _ _ ((cw_eq rfl rfl rfl rfl rfl rfl rfl rfl rfl rfl rfl rfl rfl rfl rfl rfl rfl rfl rfl rfl rfl rfl rfl rfl rfl rfl rfl rfl rfl rfl rfl rfl rfl rfl rfl rfl rfl rfl rfl rfl rfl rfl rfl rfl rfl rfl rfl rfl rfl rfl rfl)) dX3_takeChosen_33
  · intro k hk7 ih7
    refine z_iload_n C dX3_takeChosen_7 rfl (show zlk _ 2 = some (.int (nI k)) from rfl) ?_
    refine z_aload_n C dX3_takeChosen_8 rfl (show zlk _ 0 = some (.ref (ad 9)) from rfl) ?_
    refine z_get C hinX3 9 cc_9 rfl 1 (by decide) (by decide +kernel) ch_9_1 dX3_takeChosen_9 ?_
    refine z_icmp_geF C 33 dX3_takeChosen_12 (by decide) (by omega) (by omega) (by omega) ?_
    refine z_aload_n C dX3_takeChosen_15 rfl (show zlk _ 0 = some (.ref (ad 9)) from rfl) ?_
    refine z_get C hinX3 9 cc_9 rfl 5 (by decide) (by decide +kernel) cg_9_5 dX3_takeChosen_16 ?_
    refine z_iload_n C dX3_takeChosen_19 rfl (show zlk _ 2 = some (.int (nI k)) from rfl) ?_
    refine z_aload_n C dX3_takeChosen_20 rfl (show zlk _ 0 = some (.ref (ad 9)) from rfl) ?_
    refine z_get C hinX3 9 cc_9 rfl 4 (by decide) (by decide +kernel) cg_9_4 dX3_takeChosen_21 ?_
    refine z_iload_n C dX3_takeChosen_24 rfl (show zlk _ 2 = some (.int (nI k)) from rfl) ?_
    refine z_iald C (f := (r 14)) 26 cav_26 k rfl (by omega) (by decide) dX3_takeChosen_25 ?_
    refine z_iast C (f := (m_cq (r 15) (r 14) k)) 27 cav_27 k rfl (by omega) (by decide) _ csv_27 dX3_takeChosen_26 ?_
    refine z_iincN C [(2, .int (nI (k + 1))), (0, .ref (ad 9)), (1, .int (nI c))] dX3_takeChosen_27 rfl (by decide) rfl ?_
    refine z_goto C 7 dX3_takeChosen_30 (by decide) ?_
    exact z_to (ih7) ((cw_eq rfl rfl rfl rfl rfl rfl rfl rfl rfl rfl rfl rfl rfl rfl rfl rfl rfl rfl rfl rfl rfl rfl rfl rfl rfl rfl rfl rfl rfl rfl rfl rfl rfl rfl rfl rfl rfl rfl rfl rfl rfl rfl rfl rfl rfl rfl rfl rfl rfl rfl rfl)) (rfl)

set_option maxHeartbeats 4000000 in
set_option maxRecDepth 100000 in
theorem c_X0_empty (l : Launch) (θ : zH) (ea : Nat → Nat → Nat) (ad : Nat → Nat) (n : Nat → Nat) (g : Nat → Int32) (b : Nat → Bool) (r : Nat → Nat → Int32) (V : Nat → Ev)  : cV l yX0_empty wsX0_empty 0 θ [.ref (ad 2)] (CW θ ea ad n g b r V) (fun Y => Y = CW θ ea ad (cnv (n 0) (n 1) (n 2) (n 3) (n 4) 0 0 0 0 (n 9) (n 10) (n 11) (n 12) (n 13) (n 14) (n 15) (n 16) (n 17) (n 18) (n 19) (n 20)) g (cbv false (b 1) (b 2)) r V) := by
  refine z_cV (by decide) rfl rfl (Nat.le_of_ble_eq_true rfl) (lv := [(0, .ref (ad 2))]) rfl (fun κ C E => ?_)
  have hinX0 : ∀ w ∈ wsX00, w ∈ wsX0_empty := by decide +kernel
  refine z_aload_n C dX0_empty_0 rfl (show zlk _ 0 = some (.ref (ad 2)) from rfl) ?_
  refine z_iconst C (v := nI 0) dX0_empty_1 (by decide) ?_
  refine z_top (v' := .int (bI false)) rfl ?_
  refine z_put C hinX0 tyX0 tyX0_ok nmX0 2 cc_2 rfl 0 (by decide) (by decide +kernel) rfl rfl (bI_n _) (bI_f2 _) (Nat.le_of_ble_eq_true rfl) _ cp_2_0 dX0_empty_2 ?_
  refine z_aload_n C dX0_empty_5 rfl (show zlk _ 0 = some (.ref (ad 2)) from rfl) ?_
  refine z_iconst C (v := nI 0) dX0_empty_6 (by decide) ?_
  refine z_put C hinX0 tyX0 tyX0_ok nmX0 2 cc_2 rfl 1 (by decide) (by decide +kernel) rfl rfl rfl rfl (Nat.le_of_ble_eq_true rfl) _ cp_2_1 dX0_empty_7 ?_
  refine z_aload_n C dX0_empty_10 rfl (show zlk _ 0 = some (.ref (ad 2)) from rfl) ?_
  refine z_iconst C (v := nI 0) dX0_empty_11 (by decide) ?_
  refine z_put C hinX0 tyX0 tyX0_ok nmX0 2 cc_2 rfl 2 (by decide) (by decide +kernel) rfl rfl rfl rfl (Nat.le_of_ble_eq_true rfl) _ cv_2_2 dX0_empty_12 ?_
  refine z_aload_n C dX0_empty_15 rfl (show zlk _ 0 = some (.ref (ad 2)) from rfl) ?_
  refine z_iconst C (v := nI 0) dX0_empty_16 (by decide) ?_
  refine z_put C hinX0 tyX0 tyX0_ok nmX0 2 cc_2 rfl 3 (by decide) (by decide +kernel) rfl rfl rfl rfl (Nat.le_of_ble_eq_true rfl) _ cv_2_3 dX0_empty_17 ?_
  refine z_aload_n C dX0_empty_20 rfl (show zlk _ 0 = some (.ref (ad 2)) from rfl) ?_
  refine z_iconst C (v := nI 0) dX0_empty_21 (by decide) ?_
  refine z_put C hinX0 tyX0 tyX0_ok nmX0 2 cc_2 rfl 4 (by decide) (by decide +kernel) rfl rfl rfl rfl (Nat.le_of_ble_eq_true rfl) _ cv_2_4 dX0_empty_22 ?_
  exact E _ _ _ ((cw_eq rfl rfl rfl rfl rfl rfl rfl rfl rfl rfl rfl rfl rfl rfl rfl rfl rfl rfl rfl rfl rfl rfl rfl rfl rfl rfl rfl rfl rfl rfl rfl rfl rfl rfl rfl rfl rfl rfl rfl rfl rfl rfl rfl rfl rfl rfl rfl rfl rfl rfl rfl)) dX0_empty_25

set_option maxHeartbeats 4000000 in
set_option maxRecDepth 100000 in
theorem c_X0_takeFrom (l : Launch) (θ : zH) (ea : Nat → Nat → Nat) (ad : Nat → Nat) (n : Nat → Nat) (g : Nat → Int32) (b : Nat → Bool) (r : Nat → Nat → Int32) (V : Nat → Ev)  : cV l yX0_takeFrom wsX0_takeFrom 1 θ [.ref (ad 3), .ref (ad 2)] (CW θ ea ad n g b r V) (fun Y => Y = CW θ ea ad (cnv (n 0) (n 1) (n 2) (n 3) (n 4) (n 5) (n 6) (n 7) (n 8) (n 5) (n 6) (n 7) (n 8) (n 13) (n 14) (n 15) (n 16) (n 17) (n 18) (n 19) (n 20)) g (cbv (b 0) (b 0) (b 2)) (crv (r 0) (r 1) (r 2) (r 3) (va_cpy (r 1) (r 4) 0 0 6) (va_cpy (r 2) (r 5) 0 0 5) (va_cpy (r 3) (r 6) 0 0 6) (r 7) (r 8) (r 9) (r 10) (r 11) (r 12) (r 13) (r 14) (r 15) (r 16) (r 17) (r 18)) V) := by
  refine z_cV (by decide) rfl rfl (Nat.le_of_ble_eq_true rfl) (lv := [(0, .ref (ad 3)), (1, .ref (ad 2))]) rfl (fun κ C E => ?_)
  have hinX0 : ∀ w ∈ wsX00, w ∈ wsX0_takeFrom := by decide +kernel
  refine z_aload_n C dX0_takeFrom_0 rfl (show zlk _ 0 = some (.ref (ad 3)) from rfl) ?_
  refine z_aload_n C dX0_takeFrom_1 rfl (show zlk _ 1 = some (.ref (ad 2)) from rfl) ?_
  refine z_get C hinX0 2 cc_2 rfl 0 (by decide) (by decide +kernel) cg_2_0 dX0_takeFrom_2 ?_
  refine z_put C hinX0 tyX0 tyX0_ok nmX0 3 cc_3 rfl 0 (by decide) (by decide +kernel) rfl rfl (bI_n _) (bI_f2 _) (Nat.le_of_ble_eq_true rfl) _ cp_3_0 dX0_takeFrom_5 ?_
  refine z_aload_n C dX0_takeFrom_8 rfl (show zlk _ 0 = some (.ref (ad 3)) from rfl) ?_
  refine z_aload_n C dX0_takeFrom_9 rfl (show zlk _ 1 = some (.ref (ad 2)) from rfl) ?_
  refine z_get C hinX0 2 cc_2 rfl 1 (by decide) (by decide +kernel) cg_2_1 dX0_takeFrom_10 ?_
  refine z_put C hinX0 tyX0 tyX0_ok nmX0 3 cc_3 rfl 1 (by decide) (by decide +kernel) rfl rfl rfl rfl (Nat.le_of_ble_eq_true rfl) _ cp_3_1 dX0_takeFrom_13 ?_
  refine z_aload_n C dX0_takeFrom_16 rfl (show zlk _ 0 = some (.ref (ad 3)) from rfl) ?_
  refine z_aload_n C dX0_takeFrom_17 rfl (show zlk _ 1 = some (.ref (ad 2)) from rfl) ?_
  refine z_get C hinX0 2 cc_2 rfl 2 (by decide) (by decide +kernel) ch_2_2 dX0_takeFrom_18 ?_
  refine z_put C hinX0 tyX0 tyX0_ok nmX0 3 cc_3 rfl 2 (by decide) (by decide +kernel) rfl rfl rfl rfl (Nat.le_of_ble_eq_true rfl) _ cv_3_2 dX0_takeFrom_21 ?_
  refine z_aload_n C dX0_takeFrom_24 rfl (show zlk _ 0 = some (.ref (ad 3)) from rfl) ?_
  refine z_aload_n C dX0_takeFrom_25 rfl (show zlk _ 1 = some (.ref (ad 2)) from rfl) ?_
  refine z_get C hinX0 2 cc_2 rfl 3 (by decide) (by decide +kernel) ch_2_3 dX0_takeFrom_26 ?_
  refine z_put C hinX0 tyX0 tyX0_ok nmX0 3 cc_3 rfl 3 (by decide) (by decide +kernel) rfl rfl rfl rfl (Nat.le_of_ble_eq_true rfl) _ cv_3_3 dX0_takeFrom_29 ?_
  refine z_aload_n C dX0_takeFrom_32 rfl (show zlk _ 0 = some (.ref (ad 3)) from rfl) ?_
  refine z_aload_n C dX0_takeFrom_33 rfl (show zlk _ 1 = some (.ref (ad 2)) from rfl) ?_
  refine z_get C hinX0 2 cc_2 rfl 4 (by decide) (by decide +kernel) ch_2_4 dX0_takeFrom_34 ?_
  refine z_put C hinX0 tyX0 tyX0_ok nmX0 3 cc_3 rfl 4 (by decide) (by decide +kernel) rfl rfl rfl rfl (Nat.le_of_ble_eq_true rfl) _ cv_3_4 dX0_takeFrom_37 ?_
  refine z_aload_n C dX0_takeFrom_40 rfl (show zlk _ 1 = some (.ref (ad 2)) from rfl) ?_
  refine z_get C hinX0 2 cc_2 rfl 5 (by decide) (by decide +kernel) cg_2_5 dX0_takeFrom_41 ?_
  refine z_iconst C (v := nI 0) dX0_takeFrom_44 (by decide) ?_
  refine z_aload_n C dX0_takeFrom_45 rfl (show zlk _ 0 = some (.ref (ad 3)) from rfl) ?_
  refine z_get C hinX0 3 cc_3 rfl 5 (by decide) (by decide +kernel) cg_3_5 dX0_takeFrom_46 ?_
  refine z_iconst C (v := nI 0) dX0_takeFrom_49 (by decide) ?_
  refine z_bipush C (v := nI 6) dX0_takeFrom_50 (by decide) ?_
  refine z_copy C (st := []) (f := (r 1)) (g := (r 4)) (by decide +kernel) (by decide +kernel) (by decide +kernel) (by decide +kernel) 12 15 ca_12 ca_15 6 (by decide) (by decide) (by decide) _ cs_15 (by decide) (Nat.le_of_ble_eq_true rfl) dX0_takeFrom_52 ?_
  refine z_aload_n C dX0_takeFrom_55 rfl (show zlk _ 1 = some (.ref (ad 2)) from rfl) ?_
  refine z_get C hinX0 2 cc_2 rfl 6 (by decide) (by decide +kernel) cg_2_6 dX0_takeFrom_56 ?_
  refine z_iconst C (v := nI 0) dX0_takeFrom_59 (by decide) ?_
  refine z_aload_n C dX0_takeFrom_60 rfl (show zlk _ 0 = some (.ref (ad 3)) from rfl) ?_
  refine z_get C hinX0 3 cc_3 rfl 6 (by decide) (by decide +kernel) cg_3_6 dX0_takeFrom_61 ?_
  refine z_iconst C (v := nI 0) dX0_takeFrom_64 (by decide) ?_
  refine z_iconst C (v := nI 5) dX0_takeFrom_65 (by decide) ?_
  refine z_copy C (st := []) (f := (r 2)) (g := (r 5)) (by decide +kernel) (by decide +kernel) (by decide +kernel) (by decide +kernel) 13 16 cav_13 cav_16 5 (by decide) (by decide) (by decide) _ csv_16 (by decide) (Nat.le_of_ble_eq_true rfl) dX0_takeFrom_66 ?_
  refine z_aload_n C dX0_takeFrom_69 rfl (show zlk _ 1 = some (.ref (ad 2)) from rfl) ?_
  refine z_get C hinX0 2 cc_2 rfl 7 (by decide) (by decide +kernel) cg_2_7 dX0_takeFrom_70 ?_
  refine z_iconst C (v := nI 0) dX0_takeFrom_73 (by decide) ?_
  refine z_aload_n C dX0_takeFrom_74 rfl (show zlk _ 0 = some (.ref (ad 3)) from rfl) ?_
  refine z_get C hinX0 3 cc_3 rfl 7 (by decide) (by decide +kernel) cg_3_7 dX0_takeFrom_75 ?_
  refine z_iconst C (v := nI 0) dX0_takeFrom_78 (by decide) ?_
  refine z_bipush C (v := nI 6) dX0_takeFrom_79 (by decide) ?_
  refine z_copy C (st := []) (f := (r 3)) (g := (r 6)) (by decide +kernel) (by decide +kernel) (by decide +kernel) (by decide +kernel) 14 17 cav_14 cav_17 6 (by decide) (by decide) (by decide) _ csv_17 (by decide) (Nat.le_of_ble_eq_true rfl) dX0_takeFrom_81 ?_
  exact E _ _ _ ((cw_eq rfl rfl rfl rfl rfl rfl rfl rfl rfl rfl rfl rfl rfl rfl rfl rfl rfl rfl rfl rfl rfl rfl rfl rfl rfl rfl rfl rfl rfl rfl rfl rfl rfl rfl rfl rfl rfl rfl rfl rfl rfl rfl rfl rfl rfl rfl rfl rfl rfl rfl rfl)) dX0_takeFrom_84

set_option maxHeartbeats 4000000 in
set_option maxRecDepth 100000 in
theorem c_X1_begin (l : Launch) (θ : zH) (ea : Nat → Nat → Nat) (ad : Nat → Nat) (n : Nat → Nat) (g : Nat → Int32) (b : Nat → Bool) (r : Nat → Nat → Int32) (V : Nat → Ev)  : cV l yX1_begin wsX1_begin 0 θ [.ref (ad 4), .ref (ad 3)] (CW θ ea ad n g b r V) (fun Y => Y = CW θ ea ad (cnv (n 0) (n 1) (n 2) (n 3) (n 4) (n 5) (n 6) (n 7) (n 8) (n 9) (n 10) (n 11) (n 12) 0 0 0 (n 16) (n 17) (n 18) (n 19) (n 20)) (cgv (g 0) (g 1) (g 2) (nI 0) (nI 0) (nI 0) (nI 0)) (cbv (b 0) (b 1) false) (crv (r 0) (r 1) (r 2) (r 3) (r 4) (r 5) (r 6) (m_cq (r 7) (r 5) 5) (k_nn (r 8) 5) (k_tz (r 9) 4) (r 10) (r 11) (r 12) (r 13) (r 14) (r 15) (r 16) (r 17) (r 18)) V) := by
  refine z_cV (by decide) rfl rfl (Nat.le_of_ble_eq_true rfl) (lv := [(0, .ref (ad 4)), (1, .ref (ad 3))]) rfl (fun κ C E => ?_)
  have hinX0 : ∀ w ∈ wsX00, w ∈ wsX1_begin := by decide +kernel
  have hinX1 : ∀ w ∈ wsX10, w ∈ wsX1_begin := by decide +kernel
  refine z_aload_n C dX1_begin_0 rfl (show zlk _ 0 = some (.ref (ad 4)) from rfl) ?_
  refine z_iconst C (v := nI 0) dX1_begin_1 (by decide) ?_
  refine z_put C hinX1 tyX1 tyX1_ok nmX1 4 cc_4 rfl 0 (by decide) (by decide +kernel) rfl rfl rfl rfl (Nat.le_of_ble_eq_true rfl) _ cp_4_0 dX1_begin_2 ?_
  refine z_aload_n C dX1_begin_5 rfl (show zlk _ 0 = some (.ref (ad 4)) from rfl) ?_
  refine z_iconst C (v := nI 0) dX1_begin_6 (by decide) ?_
  refine z_put C hinX1 tyX1 tyX1_ok nmX1 4 cc_4 rfl 1 (by decide) (by decide +kernel) rfl rfl rfl rfl (Nat.le_of_ble_eq_true rfl) _ cv_4_1 dX1_begin_7 ?_
  refine z_aload_n C dX1_begin_10 rfl (show zlk _ 0 = some (.ref (ad 4)) from rfl) ?_
  refine z_iconst C (v := nI 0) dX1_begin_11 (by decide) ?_
  refine z_put C hinX1 tyX1 tyX1_ok nmX1 4 cc_4 rfl 2 (by decide) (by decide +kernel) rfl rfl rfl rfl (Nat.le_of_ble_eq_true rfl) _ cv_4_2 dX1_begin_12 ?_
  refine z_aload_n C dX1_begin_15 rfl (show zlk _ 0 = some (.ref (ad 4)) from rfl) ?_
  refine z_iconst C (v := nI 0) dX1_begin_16 (by decide) ?_
  refine z_top (v' := .int (bI false)) rfl ?_
  refine z_put C hinX1 tyX1 tyX1_ok nmX1 4 cc_4 rfl 3 (by decide) (by decide +kernel) rfl rfl (bI_n _) (bI_f2 _) (Nat.le_of_ble_eq_true rfl) _ cp_4_3 dX1_begin_17 ?_
  refine z_aload_n C dX1_begin_20 rfl (show zlk _ 0 = some (.ref (ad 4)) from rfl) ?_
  refine z_iconst C (v := nI 0) dX1_begin_21 (by decide) ?_
  refine z_put C hinX1 tyX1 tyX1_ok nmX1 4 cc_4 rfl 4 (by decide) (by decide +kernel) rfl rfl rfl rfl (Nat.le_of_ble_eq_true rfl) _ cv_4_4 dX1_begin_22 ?_
  refine z_aload_n C dX1_begin_25 rfl (show zlk _ 0 = some (.ref (ad 4)) from rfl) ?_
  refine z_iconst C (v := nI 0) dX1_begin_26 (by decide) ?_
  refine z_put C hinX1 tyX1 tyX1_ok nmX1 4 cc_4 rfl 5 (by decide) (by decide +kernel) rfl rfl rfl rfl (Nat.le_of_ble_eq_true rfl) _ cp_4_5 dX1_begin_27 ?_
  refine z_aload_n C dX1_begin_30 rfl (show zlk _ 0 = some (.ref (ad 4)) from rfl) ?_
  refine z_iconst C (v := nI 0) dX1_begin_31 (by decide) ?_
  refine z_put C hinX1 tyX1 tyX1_ok nmX1 4 cc_4 rfl 6 (by decide) (by decide +kernel) rfl rfl rfl rfl (Nat.le_of_ble_eq_true rfl) _ cv_4_6 dX1_begin_32 ?_
  refine z_aload_n C dX1_begin_35 rfl (show zlk _ 0 = some (.ref (ad 4)) from rfl) ?_
  refine z_iconst C (v := nI 0) dX1_begin_36 (by decide) ?_
  refine z_put C hinX1 tyX1 tyX1_ok nmX1 4 cc_4 rfl 7 (by decide) (by decide +kernel) rfl rfl rfl rfl (Nat.le_of_ble_eq_true rfl) _ cv_4_7 dX1_begin_37 ?_
  refine z_iconst C (v := nI 0) dX1_begin_40 (by decide) ?_
  refine z_istore_n C [(2, .int (nI 0)), (0, .ref (ad 4)), (1, .ref (ad 3))] dX1_begin_41 rfl (by decide) rfl ?_
  refine z_lv (lv' := [(0, .ref (ad 4)), (1, .ref (ad 3)), (2, .int (nI 0))]) rfl ?_
  refine z_X (Y := CW θ ea ad (cnv (n 0) (n 1) (n 2) (n 3) (n 4) (n 5) (n 6) (n 7) (n 8) (n 9) (n 10) (n 11) (n 12) 0 0 0 (n 16) (n 17) (n 18) (n 19) (n 20)) (cgv (g 0) (g 1) (g 2) (nI 0) (nI 0) (nI 0) (nI 0)) (cbv (b 0) (b 1) false) (crv (r 0) (r 1) (r 2) (r 3) (r 4) (r 5) (r 6) (m_cq (r 7) (r 5) 0) (k_nn (r 8) 0) (r 9) (r 10) (r 11) (r 12) (r 13) (r 14) (r 15) (r 16) (r 17) (r 18)) V) (cw_eq rfl rfl rfl rfl rfl rfl rfl rfl rfl rfl rfl rfl rfl rfl rfl rfl rfl rfl rfl rfl rfl rfl rfl rfl rfl rfl rfl rfl rfl rfl rfl rfl rfl rfl rfl rfl rfl rfl rfl rfl rfl rfl rfl rfl rfl rfl rfl rfl rfl rfl rfl) ?_
  refine z_up (fun k => Z κ (CW θ ea ad (cnv (n 0) (n 1) (n 2) (n 3) (n 4) (n 5) (n 6) (n 7) (n 8) (n 9) (n 10) (n 11) (n 12) 0 0 0 (n 16) (n 17) (n 18) (n 19) (n 20)) (cgv (g 0) (g 1) (g 2) (nI 0) (nI 0) (nI 0) (nI 0)) (cbv (b 0) (b 1) false) (crv (r 0) (r 1) (r 2) (r 3) (r 4) (r 5) (r 6) (m_cq (r 7) (r 5) k) (k_nn (r 8) k) (r 9) (r 10) (r 11) (r 12) (r 13) (r 14) (r 15) (r 16) (r 17) (r 18)) V) 42 [(0, .ref (ad 4)), (1, .ref (ad 3)), (2, .int (nI k))] []) (5) ?_ ?_ 0 (by omega)
  · refine z_iload_n C dX1_begin_42 rfl (show zlk _ 2 = some (.int (nI 5)) from rfl) ?_
    refine z_iconst C (v := nI 5) dX1_begin_43 (by decide) ?_
    refine z_icmp_geT C 72 dX1_begin_44 (by decide) (by omega) (by omega) (by omega) ?_
    refine z_iconst C (v := nI 0) dX1_begin_72 (by decide) ?_
    refine z_istore_n C [(2, .int (nI 0)), (0, .ref (ad 4)), (1, .ref (ad 3))] dX1_begin_73 rfl (by decide) rfl ?_
    refine z_lv (lv' := [(0, .ref (ad 4)), (1, .ref (ad 3)), (2, .int (nI 0))]) rfl ?_
    refine z_X (Y := CW θ ea ad (cnv (n 0) (n 1) (n 2) (n 3) (n 4) (n 5) (n 6) (n 7) (n 8) (n 9) (n 10) (n 11) (n 12) 0 0 0 (n 16) (n 17) (n 18) (n 19) (n 20)) (cgv (g 0) (g 1) (g 2) (nI 0) (nI 0) (nI 0) (nI 0)) (cbv (b 0) (b 1) false) (crv (r 0) (r 1) (r 2) (r 3) (r 4) (r 5) (r 6) (m_cq (r 7) (r 5) 5) (k_nn (r 8) 5) (k_tz (r 9) 0) (r 10) (r 11) (r 12) (r 13) (r 14) (r 15) (r 16) (r 17) (r 18)) V) (cw_eq rfl rfl rfl rfl rfl rfl rfl rfl rfl rfl rfl rfl rfl rfl rfl rfl rfl rfl rfl rfl rfl rfl rfl rfl rfl rfl rfl rfl rfl rfl rfl rfl rfl rfl rfl rfl rfl rfl rfl rfl rfl rfl rfl rfl rfl rfl rfl rfl rfl rfl rfl) ?_
    refine z_up (fun k => Z κ (CW θ ea ad (cnv (n 0) (n 1) (n 2) (n 3) (n 4) (n 5) (n 6) (n 7) (n 8) (n 9) (n 10) (n 11) (n 12) 0 0 0 (n 16) (n 17) (n 18) (n 19) (n 20)) (cgv (g 0) (g 1) (g 2) (nI 0) (nI 0) (nI 0) (nI 0)) (cbv (b 0) (b 1) false) (crv (r 0) (r 1) (r 2) (r 3) (r 4) (r 5) (r 6) (m_cq (r 7) (r 5) 5) (k_nn (r 8) 5) (k_tz (r 9) k) (r 10) (r 11) (r 12) (r 13) (r 14) (r 15) (r 16) (r 17) (r 18)) V) 74 [(0, .ref (ad 4)), (1, .ref (ad 3)), (2, .int (nI k))] []) (4) ?_ ?_ 0 (by omega)
    · refine z_iload_n C dX1_begin_74 rfl (show zlk _ 2 = some (.int (nI 4)) from rfl) ?_
      refine z_iconst C (v := nI 4) dX1_begin_75 (by decide) ?_
      refine z_icmp_geT C 92 dX1_begin_76 (by decide) (by omega) (by omega) (by omega) ?_
      exact E _ _ _ ((cw_eq rfl rfl rfl rfl rfl rfl rfl rfl rfl rfl rfl rfl rfl rfl rfl rfl rfl rfl rfl rfl rfl rfl rfl rfl rfl rfl rfl rfl rfl rfl rfl rfl rfl rfl rfl rfl rfl rfl rfl rfl rfl rfl rfl rfl rfl rfl rfl rfl rfl rfl rfl)) dX1_begin_92
    · intro k hk74 ih74
      refine z_iload_n C dX1_begin_74 rfl (show zlk _ 2 = some (.int (nI k)) from rfl) ?_
      refine z_iconst C (v := nI 4) dX1_begin_75 (by decide) ?_
      refine z_icmp_geF C 92 dX1_begin_76 (by decide) (by omega) (by omega) (by omega) ?_
      refine z_aload_n C dX1_begin_79 rfl (show zlk _ 0 = some (.ref (ad 4)) from rfl) ?_
      refine z_get C hinX1 4 cc_4 rfl 10 (by decide) (by decide +kernel) cg_4_10 dX1_begin_80 ?_
      refine z_iload_n C dX1_begin_83 rfl (show zlk _ 2 = some (.int (nI k)) from rfl) ?_
      refine z_iconst C (v := nI 0) dX1_begin_84 (by decide) ?_
      refine z_iast C (f := (k_tz (r 9) k)) 20 cav_20 k rfl (by omega) (by decide) _ csv_20 dX1_begin_85 ?_
      refine z_iincN C [(2, .int (nI (k + 1))), (0, .ref (ad 4)), (1, .ref (ad 3))] dX1_begin_86 rfl (by decide) rfl ?_
      refine z_goto C 74 dX1_begin_89 (by decide) ?_
      exact z_to (ih74) ((cw_eq rfl rfl rfl rfl rfl rfl rfl rfl rfl rfl rfl rfl rfl rfl rfl rfl rfl rfl rfl rfl rfl rfl rfl rfl rfl rfl rfl rfl rfl rfl rfl rfl rfl rfl rfl rfl rfl rfl rfl rfl rfl rfl rfl rfl rfl rfl rfl rfl rfl rfl rfl)) (rfl)
  · intro k hk42 ih42
    refine z_iload_n C dX1_begin_42 rfl (show zlk _ 2 = some (.int (nI k)) from rfl) ?_
    refine z_iconst C (v := nI 5) dX1_begin_43 (by decide) ?_
    refine z_icmp_geF C 72 dX1_begin_44 (by decide) (by omega) (by omega) (by omega) ?_
    refine z_aload_n C dX1_begin_47 rfl (show zlk _ 0 = some (.ref (ad 4)) from rfl) ?_
    refine z_get C hinX1 4 cc_4 rfl 8 (by decide) (by decide +kernel) cg_4_8 dX1_begin_48 ?_
    refine z_iload_n C dX1_begin_51 rfl (show zlk _ 2 = some (.int (nI k)) from rfl) ?_
    refine z_aload_n C dX1_begin_52 rfl (show zlk _ 1 = some (.ref (ad 3)) from rfl) ?_
    refine z_getN C (host := "GnatPortraits") hinX0 3 cc_3 rfl 6 (by decide) (by decide +kernel) cg_3_6 dX1_begin_53 ?_
    refine z_iload_n C dX1_begin_56 rfl (show zlk _ 2 = some (.int (nI k)) from rfl) ?_
    refine z_iald C (f := (r 5)) 16 cav_16 k rfl (by omega) (by decide) dX1_begin_57 ?_
    refine z_iast C (f := (m_cq (r 7) (r 5) k)) 18 cav_18 k rfl (by omega) (by decide) _ csv_18 dX1_begin_58 ?_
    refine z_aload_n C dX1_begin_59 rfl (show zlk _ 0 = some (.ref (ad 4)) from rfl) ?_
    refine z_get C hinX1 4 cc_4 rfl 9 (by decide) (by decide +kernel) cg_4_9 dX1_begin_60 ?_
    refine z_iload_n C dX1_begin_63 rfl (show zlk _ 2 = some (.int (nI k)) from rfl) ?_
    refine z_iconst C (v := (-1)) dX1_begin_64 (by decide) ?_
    refine z_iast C (f := (k_nn (r 8) k)) 19 cav_19 k rfl (by omega) (by decide) _ csv_19 dX1_begin_65 ?_
    refine z_iincN C [(2, .int (nI (k + 1))), (0, .ref (ad 4)), (1, .ref (ad 3))] dX1_begin_66 rfl (by decide) rfl ?_
    refine z_goto C 42 dX1_begin_69 (by decide) ?_
    exact z_to (ih42) ((cw_eq rfl rfl rfl rfl rfl rfl rfl rfl rfl rfl rfl rfl rfl rfl rfl rfl rfl rfl rfl rfl rfl rfl rfl rfl rfl rfl rfl rfl rfl rfl rfl rfl rfl rfl rfl rfl rfl rfl rfl rfl rfl rfl rfl rfl rfl rfl rfl rfl rfl rfl rfl)) (rfl)

