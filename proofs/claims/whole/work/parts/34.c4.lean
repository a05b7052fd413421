theorem Met_ofWF {l : Launch} {y : MethodName} {ws ws' : List Cond} {rm : Room} {Pc : Array Value → State → Prop} {Qc : Array Value → State → Outcome → State → Prop} {mc ms : Nat} {free : Addr → Prop} {cc : ByteArray} {maxL : Nat} {ret : Option FieldType}
    (hy : plainFor y = true) (hw : ws = Cond.code y cc maxL ret :: ws')
    (body : ∀ p e s m args below meth c s₁, BodyLoose p l y (headSpec ws rm) cc maxL ret e s m args below meth c s₁ → c.maxLocals = maxL → Pc args s →
      W p l e (headSpec ws rm).room s m args below meth c s.heap [] 0 0 (MQ below Qc args s mc ms free) (entryFrame m args maxL)) : Met l y ws rm Pc Qc mc ms free := by
  refine MetFree.of_bodySF (code := cc) (maxLocals := maxL) (ret := ret) hy ?_ ?_
  · intro args s m h hn
    obtain ⟨meth, c, h1, h2, h3, h4, h5, h6, -, -⟩ := Cond.code_spec hn (atoms_spec (ws := ws) h _ (by rw [hw]; exact List.mem_cons_self))
    exact ⟨meth, c, h1, h2, h3, h4, h5, h6⟩
  · intro p e s m args below meth c s₁ B hml hP _
    have hh0 : s₁.heap = s.heap := by rw [B.state]; rfl
    obtain ⟨t, a1, o, b1, b2, b3⟩ := body p e s m args below meth c s₁ B hml hP s₁ hh0 (Stand.of_body B)
    exact ⟨t, o, a1, b1, b2, ⟨b3.1, b3.2⟩⟩
set_option maxHeartbeats 1000000 in
theorem z_cIF {l : Launch} {y : MethodName} {wl ws' : List Cond} {cc : ByteArray} {n k : Nat} {ty : FieldType} {θ : zH} {av : List Value} {X : va_W} {post : Int32 → va_W → Prop} {lv : List (Nat × Value)} {own : String} (hy : plainFor y = true) (hw : wl = Cond.code y cc n (some ty) :: ws') (hown : y.cls = own) (hlen : (lg_sl av).length ≤ n) (hlv : lv_args 0 av = lv)
    (body : ∀ κ : zX, zC κ l cc n own wl k θ → (∀ (r : Int32) (Y : va_W) (pc : Nat) (lv' : List (Nat × Value)), post r Y → narrow ty (.int r) = .int r → decode cc pc = .ok (.ireturn, 1) → Z κ Y pc lv' [.int r]) → Z κ X 0 lv []) : cI l y wl k θ av X post := by
  intro sz
  refine Met_ofWF (cc := cc) (maxL := n) (ret := some ty) hy hw ?_
  intro p e s m args below meth c s₁ B hml hv
  obtain ⟨rfl, hsz, hP, hK, hN, hD0⟩ := hv
  subst hsz
  have hown' : s.vm.findClass own = some m.cls := by rw [← hown]; exact findClass_of_methodNamed B.named
  have hts := atoms_spec (ws := wl) B.pre
  have hr := B.returns
  have hx := B.exec
  have hb := B.bytes
  have hlocks := B.notSynchronized
  have hA : ∀ q : Nat, s.heap.size ≤ q → va_A X s.heap.size q := fun q h => Or.inr h
  have h := body (p, l, e, zr k, s, m, av.toArray, below, meth, c, MQ below (va_Qi post (zB θ X s.heap.size) (va_A X s.heap.size)) av.toArray s 0 0 (va_A X s.heap.size), va_A X s.heap.size, θ, n)
    ⟨rfl, rfl, rfl, rfl, hx, hb, hml, hown', hts, hK, hN, hA⟩ (fun r Y pc lv' hp hn hd H locs ls hP hD hS hl => by
      exact W.zret (v := r) hx hb hr hn (fun t ht hW => ⟨⟨r, Y, rfl, hp, by rw [ht]; exact hP, hD⟩, hS.F ht⟩) hS.2.2 hd hlocks)
  have hl := lv_entry av (n := n) hlen
  rw [lg_entry_eq]
  rw [hlv] at hl
  exact h s.heap [] _ hP hD0.self va_S.rf hl
set_option maxHeartbeats 4000000 in
set_option maxRecDepth 100000 in
theorem c_J9_floorMod_7cf53 (l : Launch) (θ : zH) (X : va_W) (x y : Int32) (hy : ¬ y = 0) : cI l yJ9_floorMod_7cf53 wsJ9_floorMod_7cf53 0 θ [.int x, .int y] (X) (fun r0 Y => r0 = k_fm x y ∧ Y = X) := by
  refine z_cIF (by decide +kernel) rfl rfl (Nat.le_of_ble_eq_true rfl) (lv := [(0, .int x), (1, .int y)]) rfl (fun κ C E => ?_)
  refine z_iload_n C dJ9_floorMod_7cf53_0 rfl (show zlk _ 0 = some (.int x) from rfl) ?_
  refine z_iload_n C dJ9_floorMod_7cf53_1 rfl (show zlk _ 1 = some (.int y) from rfl) ?_
  refine z_irem C dJ9_floorMod_7cf53_2 (hy) ?_
  refine z_istore_n C [(2, .int (x - x / y * y)), (0, .int x), (1, .int y)] dJ9_floorMod_7cf53_3 rfl (by decide) rfl ?_
  refine z_iload_n C dJ9_floorMod_7cf53_4 rfl (show zlk _ 0 = some (.int x) from rfl) ?_
  refine z_iload_n C dJ9_floorMod_7cf53_5 rfl (show zlk _ 1 = some (.int y) from rfl) ?_
  refine z_ixor C dJ9_floorMod_7cf53_6 ?_
  refine z_if_ge C 18 dJ9_floorMod_7cf53_7 (by decide) (fun h7t_1 => ?_) (fun h7n_1 => ?_)
  · refine z_iload_n C dJ9_floorMod_7cf53_18 rfl (show zlk _ 2 = some (.int (x - x / y * y)) from rfl) ?_
    exact E _ _ _ _ (⟨by unfold k_fm; rw [if_pos h7t_1], rfl⟩) (rfl) dJ9_floorMod_7cf53_19
  · refine z_iload_n C dJ9_floorMod_7cf53_10 rfl (show zlk _ 2 = some (.int (x - x / y * y)) from rfl) ?_
    refine z_if_eq C 18 dJ9_floorMod_7cf53_11 (by decide) (fun h11t_2 => ?_) (fun h11n_2 => ?_)
    · refine z_iload_n C dJ9_floorMod_7cf53_18 rfl (show zlk _ 2 = some (.int (x - x / y * y)) from rfl) ?_
      exact E _ _ _ _ (⟨by unfold k_fm; rw [if_neg h7n_1, if_pos h11t_2], rfl⟩) (rfl) dJ9_floorMod_7cf53_19
    · refine z_iload_n C dJ9_floorMod_7cf53_14 rfl (show zlk _ 2 = some (.int (x - x / y * y)) from rfl) ?_
      refine z_iload_n C dJ9_floorMod_7cf53_15 rfl (show zlk _ 1 = some (.int y) from rfl) ?_
      refine z_iadd C dJ9_floorMod_7cf53_16 ?_
      exact E _ _ _ _ (⟨by unfold k_fm; rw [if_neg h7n_1, if_neg h11n_2], rfl⟩) (rfl) dJ9_floorMod_7cf53_17

set_option maxHeartbeats 4000000 in
set_option maxRecDepth 100000 in
theorem c_X1_albumPlace (l : Launch) (θ : zH) (ea : Nat → Nat → Nat) (ad : Nat → Nat) (n : Nat → Nat) (g : Nat → Int32) (b : Nat → Bool) (r : Nat → Nat → Int32) (V : Nat → Ev) (i : Nat) (hn : n 15 < 20) (hi : i < 20) : cI l yX1_albumPlace wsX1_albumPlace 1 θ [.ref (ad 4), .int (nI i)] (CW θ ea ad n g b r V) (fun r0 Y => r0 = nI ((n 15 + 39 - i) % 20) ∧ Y = CW θ ea ad n g b r V) := by
  refine z_cI (by decide) rfl rfl (Nat.le_of_ble_eq_true rfl) (lv := [(0, .ref (ad 4)), (1, .int (nI i))]) rfl (fun κ C E => ?_)
  have hinX1 : ∀ w ∈ wsX10, w ∈ wsX1_albumPlace := by decide +kernel
  refine z_aload_n C dX1_albumPlace_0 rfl (show zlk _ 0 = some (.ref (ad 4)) from rfl) ?_
  refine z_get C hinX1 4 cc_4 rfl 7 (by decide) (by decide +kernel) cg_4_7 dX1_albumPlace_1 ?_
  refine z_iconst C (v := nI 1) dX1_albumPlace_4 (by decide) ?_
  refine z_isub C dX1_albumPlace_5 ?_
  refine z_iload_n C dX1_albumPlace_6 rfl (show zlk _ 1 = some (.int (nI i)) from rfl) ?_
  refine z_isub C dX1_albumPlace_7 ?_
  refine z_bipush C (v := nI 20) dX1_albumPlace_8 (by decide) ?_
  refine z_callSi C (As := [.int (((nI (n 15)) - (nI 1)) - (nI i)), .int (nI 20)]) (rest := []) (c_J9_floorMod_7cf53 l θ _ (((nI (n 15)) - (nI 1)) - (nI i)) (nI 20) (by decide)) gX1_albumPlace_J9_floorMod_7cf53 rfl 2 (by decide +kernel) (by decide) (by decide) rfl rfl (Nat.le_of_ble_eq_true rfl) dX1_albumPlace_10 ?_
  rintro _ _ ⟨rfl, rfl⟩
  exact E _ _ _ _ (⟨k_fm_20 hn hi, rfl⟩) (rfl) dX1_albumPlace_13

set_option maxHeartbeats 4000000 in
set_option maxRecDepth 100000 in
theorem c_X1_timesInAlbum (l : Launch) (θ : zH) (ea : Nat → Nat → Nat) (ad : Nat → Nat) (n : Nat → Nat) (g : Nat → Int32) (b : Nat → Bool) (r : Nat → Nat → Int32) (V : Nat → Ev) (s : Int32) (hn : n 15 < 20) (hz : n 14 ≤ 20) : cI l yX1_timesInAlbum wsX1_timesInAlbum 2 θ [.ref (ad 4), .int s] (CW θ ea ad n g b r V) (fun r0 Y => r0 = nI (k_ti (r 11) (n 15) s (n 14)) ∧ Y = CW θ ea ad n g b r V) := by
  refine z_cI (by decide) rfl rfl (Nat.le_of_ble_eq_true rfl) (lv := [(0, .ref (ad 4)), (1, .int s)]) rfl (fun κ C E => ?_)
  have hinX1 : ∀ w ∈ wsX10, w ∈ wsX1_timesInAlbum := by decide +kernel
  refine z_iconst C (v := nI 0) dX1_timesInAlbum_0 (by decide) ?_
  refine z_istore_n C [(2, .int (nI 0)), (0, .ref (ad 4)), (1, .int s)] dX1_timesInAlbum_1 rfl (by decide) rfl ?_
  refine z_iconst C (v := nI 0) dX1_timesInAlbum_2 (by decide) ?_
  refine z_istore_n C [(3, .int (nI 0)), (2, .int (nI 0)), (0, .ref (ad 4)), (1, .int s)] dX1_timesInAlbum_3 rfl (by decide) rfl ?_
  refine z_lv (lv' := [(0, .ref (ad 4)), (1, .int s), (2, .int (nI (k_ti (r 11) (n 15) s 0))), (3, .int (nI 0))]) rfl ?_
  refine z_up (fun i => Z κ (CW θ ea ad n g b r V) 4 [(0, .ref (ad 4)), (1, .int s), (2, .int (nI (k_ti (r 11) (n 15) s i))), (3, .int (nI i))] []) (n 14) ?_ ?_ 0 (by omega)
  · refine z_iload_n C dX1_timesInAlbum_4 rfl (show zlk _ 3 = some (.int (nI (n 14))) from rfl) ?_
    refine z_aload_n C dX1_timesInAlbum_5 rfl (show zlk _ 0 = some (.ref (ad 4)) from rfl) ?_
    refine z_get C hinX1 4 cc_4 rfl 6 (by decide) (by decide +kernel) cg_4_6 dX1_timesInAlbum_6 ?_
    refine z_icmp_geT C 35 dX1_timesInAlbum_9 (by decide) (by omega) (by omega) (by omega) ?_
    refine z_iload_n C dX1_timesInAlbum_35 rfl (show zlk _ 2 = some (.int (nI (k_ti (r 11) (n 15) s (n 14)))) from rfl) ?_
    exact E _ _ _ _ (⟨rfl, rfl⟩) (rfl) dX1_timesInAlbum_36
  · intro i hk4 ih4
    refine z_iload_n C dX1_timesInAlbum_4 rfl (show zlk _ 3 = some (.int (nI i)) from rfl) ?_
    refine z_aload_n C dX1_timesInAlbum_5 rfl (show zlk _ 0 = some (.ref (ad 4)) from rfl) ?_
    refine z_get C hinX1 4 cc_4 rfl 6 (by decide) (by decide +kernel) cg_4_6 dX1_timesInAlbum_6 ?_
    refine z_icmp_geF C 35 dX1_timesInAlbum_9 (by decide) (by omega) (by omega) (by omega) ?_
    refine z_aload_n C dX1_timesInAlbum_12 rfl (show zlk _ 0 = some (.ref (ad 4)) from rfl) ?_
    refine z_get C hinX1 4 cc_4 rfl 12 (by decide) (by decide +kernel) cg_4_12 dX1_timesInAlbum_13 ?_
    refine z_aload_n C dX1_timesInAlbum_16 rfl (show zlk _ 0 = some (.ref (ad 4)) from rfl) ?_
    refine z_iload_n C dX1_timesInAlbum_17 rfl (show zlk _ 3 = some (.int (nI i)) from rfl) ?_
    refine z_callVi C (As := [.int (nI i)]) (rest := [.ref (ad 22)]) (c_X1_albumPlace l θ ea ad n g b r V i (show n 15 < 20 from hn) (by omega)) gX1_timesInAlbum_X1_albumPlace rfl 1 (by decide +kernel) (by decide) (by decide) 4 rfl rfl rfl rfl rfl (Nat.le_of_ble_eq_true rfl) dX1_timesInAlbum_18 ?_
    rintro _ _ ⟨rfl, rfl⟩
    refine z_iald C (f := (r 11)) 22 ca_22 ((n 15 + 39 - i) % 20) rfl (by omega) (by decide) dX1_timesInAlbum_21 ?_
    refine z_iload_n C dX1_timesInAlbum_22 rfl (show zlk _ 1 = some (.int s) from rfl) ?_
    refine z_icmp_ne C 29 dX1_timesInAlbum_23 (by decide) (fun h23t_1 => ?_) (fun h23n_1 => ?_)
    · refine z_iincN C [(3, .int (nI (i + 1))), (0, .ref (ad 4)), (1, .int s), (2, .int (nI (k_ti (r 11) (n 15) s i)))] dX1_timesInAlbum_29 rfl (by decide) rfl ?_
      refine z_goto C 4 dX1_timesInAlbum_32 (by decide) ?_
      exact z_to (ih4) (rfl) (by simp [zlk, k_ti, h23t_1])
    · refine z_iincN C [(2, .int (nI (k_ti (r 11) (n 15) s i + 1))), (0, .ref (ad 4)), (1, .int s), (3, .int (nI i))] dX1_timesInAlbum_26 rfl (by decide) rfl ?_
      refine z_iincN C [(3, .int (nI (i + 1))), (2, .int (nI (k_ti (r 11) (n 15) s i + 1))), (0, .ref (ad 4)), (1, .int s)] dX1_timesInAlbum_29 rfl (by decide) rfl ?_
      refine z_goto C 4 dX1_timesInAlbum_32 (by decide) ?_
      exact z_to (ih4) (rfl) (by simp [zlk, k_ti, h23n_1])

set_option maxHeartbeats 4000000 in
set_option maxRecDepth 100000 in
theorem c_X4_letterHere (l : Launch) (θ : zH) (ea : Nat → Nat → Nat) (ad : Nat → Nat) (n : Nat → Nat) (g : Nat → Int32) (b : Nat → Bool) (r : Nat → Nat → Int32) (V : Nat → Ev)  (hp : n 3 < 2 ^ 30) (hL : n 2 ≤ 240) : cI l yX4_letterHere wsX4_letterHere 0 θ [.ref (ad 1)] (CW θ ea ad n g b r V) (fun r0 Y => r0 = m_hr (r 0) (n 2) (n 3) ∧ Y = CW θ ea ad n g b r V) := by
  refine z_cI (by decide) rfl rfl (Nat.le_of_ble_eq_true rfl) (lv := [(0, .ref (ad 1))]) rfl (fun κ C E => ?_)
  have hinX4 : ∀ w ∈ wsX40, w ∈ wsX4_letterHere := by decide +kernel
  refine z_aload_n C dX4_letterHere_0 rfl (show zlk _ 0 = some (.ref (ad 1)) from rfl) ?_
  refine z_get C hinX4 1 cc_1 rfl 3 (by decide) (by decide +kernel) cg_1_3 dX4_letterHere_1 ?_
  refine z_if_ltN C 40 dX4_letterHere_4 (by decide) (by omega) ?_
  refine z_aload_n C dX4_letterHere_7 rfl (show zlk _ 0 = some (.ref (ad 1)) from rfl) ?_
  refine z_get C hinX4 1 cc_1 rfl 3 (by decide) (by decide +kernel) cg_1_3 dX4_letterHere_8 ?_
  refine z_aload_n C dX4_letterHere_11 rfl (show zlk _ 0 = some (.ref (ad 1)) from rfl) ?_
  refine z_get C hinX4 1 cc_1 rfl 2 (by decide) (by decide +kernel) cg_1_2 dX4_letterHere_12 ?_
  refine z_icmp_geN C 40 dX4_letterHere_15 (by decide) (by omega) (by omega) (fun h15t_1 => ?_) (fun h15n_1 => ?_)
  · refine z_iconst C (v := (-1)) dX4_letterHere_40 (by decide) ?_
    exact E _ _ _ _ (⟨by unfold m_hr; rw [if_neg (by omega)], rfl⟩) (rfl) dX4_letterHere_41
  · refine z_aload_n C dX4_letterHere_18 rfl (show zlk _ 0 = some (.ref (ad 1)) from rfl) ?_
    refine z_get C hinX4 1 cc_1 rfl 3 (by decide) (by decide +kernel) cg_1_3 dX4_letterHere_19 ?_
    refine z_sipush C (v := nI 240) dX4_letterHere_22 (by decide) ?_
    refine z_icmp_geF C 40 dX4_letterHere_25 (by decide) (by omega) (by omega) (by omega) ?_
    refine z_aload_n C dX4_letterHere_28 rfl (show zlk _ 0 = some (.ref (ad 1)) from rfl) ?_
    refine z_get C hinX4 1 cc_1 rfl 0 (by decide) (by decide +kernel) cg_1_0 dX4_letterHere_29 ?_
    refine z_aload_n C dX4_letterHere_32 rfl (show zlk _ 0 = some (.ref (ad 1)) from rfl) ?_
    refine z_get C hinX4 1 cc_1 rfl 3 (by decide) (by decide +kernel) cg_1_3 dX4_letterHere_33 ?_
    refine z_iald C (f := (r 0)) 11 ca_11 (n 3) rfl (by omega) (by decide) dX4_letterHere_36 ?_
    refine z_goto C 41 dX4_letterHere_37 (by decide) ?_
    exact E _ _ _ _ (⟨by unfold m_hr; rw [if_pos (by omega)], rfl⟩) (rfl) dX4_letterHere_41

theorem hr_is {f : Nat → Int32} {L p : Nat} {c : Int32} (hc : ¬ c = (-1)) : m_hr f L p = c ↔ (p < L ∧ f p = c) := by
  unfold m_hr
  by_cases e : p < L
  · rw [if_pos e]; exact ⟨fun h => ⟨e, h⟩, fun h => h.2⟩
  · rw [if_neg e]; exact ⟨fun h => absurd h.symm hc, fun h => absurd h.1 e⟩
set_option maxHeartbeats 4000000 in
set_option maxRecDepth 100000 in
theorem c_X4_skipBlanks (l : Launch) (θ : zH) (ea : Nat → Nat → Nat) (ad : Nat → Nat) (n : Nat → Nat) (g : Nat → Int32) (b : Nat → Bool) (r : Nat → Nat → Int32) (V : Nat → Ev)  (hp : n 3 ≤ 240) (hL : n 2 ≤ 240) : cV l yX4_skipBlanks wsX4_skipBlanks 1 θ [.ref (ad 1)] (CW θ ea ad n g b r V) (fun Y => ∃ p1, sk (r 0) (n 2) (n 3) = p1 ∧ Y = CW θ ea ad (cnv (n 0) (n 1) (n 2) p1 (n 4) (n 5) (n 6) (n 7) (n 8) (n 9) (n 10) (n 11) (n 12) (n 13) (n 14) (n 15) (n 16) (n 17) (n 18) (n 19) (n 20)) g b r V) := by
  refine z_cV (by decide) rfl rfl (Nat.le_of_ble_eq_true rfl) (lv := [(0, .ref (ad 1))]) rfl (fun κ C E => ?_)
  have hinX4 : ∀ w ∈ wsX40, w ∈ wsX4_skipBlanks := by decide +kernel
  refine z_iconst C (v := nI 0) dX4_skipBlanks_0 (by decide) ?_
  refine z_istore_n C [(1, .int (nI 0)), (0, .ref (ad 1))] dX4_skipBlanks_1 rfl (by decide) rfl ?_
  refine z_lv (lv' := [(0, .ref (ad 1)), (1, .int (nI 0))]) rfl ?_
  refine z_X (Y := CW θ ea ad (cnv (n 0) (n 1) (n 2) (n 3 + 0) (n 4) (n 5) (n 6) (n 7) (n 8) (n 9) (n 10) (n 11) (n 12) (n 13) (n 14) (n 15) (n 16) (n 17) (n 18) (n 19) (n 20)) g b r V) (cw_eq rfl rfl rfl rfl rfl rfl rfl rfl rfl rfl rfl rfl rfl rfl rfl rfl rfl rfl rfl rfl rfl rfl rfl rfl rfl rfl rfl rfl rfl rfl rfl rfl rfl rfl rfl rfl rfl rfl rfl rfl rfl rfl rfl rfl rfl rfl rfl rfl rfl rfl rfl) ?_
  refine z_up (fun i => sk (r 0) (n 2) (n 3 + i) = sk (r 0) (n 2) (n 3) → Z κ (CW θ ea ad (cnv (n 0) (n 1) (n 2) (n 3 + i) (n 4) (n 5) (n 6) (n 7) (n 8) (n 9) (n 10) (n 11) (n 12) (n 13) (n 14) (n 15) (n 16) (n 17) (n 18) (n 19) (n 20)) g b r V) 2 [(0, .ref (ad 1)), (1, .int (nI i))] []) (240) ?_ ?_ 0 (by omega) (rfl)
  · intro hinv2
    refine z_iload_n C dX4_skipBlanks_2 rfl (show zlk _ 1 = some (.int (nI 240)) from rfl) ?_
    refine z_sipush C (v := nI 240) dX4_skipBlanks_3 (by decide) ?_
    refine z_icmp_geT C 34 dX4_skipBlanks_6 (by decide) (by omega) (by omega) (by omega) ?_
    exact E _ _ _ (⟨_, hinv2.symm.trans (scan_stop (c := fun q => decide (r 0 q = nI 32)) (L := n 2) (by omega)), (cw_eq rfl rfl rfl rfl rfl rfl rfl rfl rfl rfl rfl rfl rfl rfl rfl rfl rfl rfl rfl rfl rfl rfl rfl rfl rfl rfl rfl rfl rfl rfl rfl rfl rfl rfl rfl rfl rfl rfl rfl rfl rfl rfl rfl rfl rfl rfl rfl rfl rfl rfl rfl)⟩) dX4_skipBlanks_34
  · intro i hk2 ih2
    intro hinv2
    refine z_iload_n C dX4_skipBlanks_2 rfl (show zlk _ 1 = some (.int (nI i)) from rfl) ?_
    refine z_sipush C (v := nI 240) dX4_skipBlanks_3 (by decide) ?_
    refine z_icmp_geF C 34 dX4_skipBlanks_6 (by decide) (by omega) (by omega) (by omega) ?_
    refine z_aload_n C dX4_skipBlanks_9 rfl (show zlk _ 0 = some (.ref (ad 1)) from rfl) ?_
    refine z_callVi C (As := []) (rest := []) (c_X4_letterHere l θ ea ad (cnv (n 0) (n 1) (n 2) (n 3 + i) (n 4) (n 5) (n 6) (n 7) (n 8) (n 9) (n 10) (n 11) (n 12) (n 13) (n 14) (n 15) (n 16) (n 17) (n 18) (n 19) (n 20)) g b r V (show n 3 + i < 2 ^ 30 by omega) hL) gX4_skipBlanks_X4_letterHere rfl 0 (by decide +kernel) (by decide) (by decide) 1 rfl rfl rfl rfl rfl (Nat.le_of_ble_eq_true rfl) dX4_skipBlanks_10 ?_
    rintro _ _ ⟨rfl, rfl⟩
    refine z_top (v' := .int (m_hr (r 0) (n 2) (n 3 + i))) rfl ?_
    refine z_bipush C (v := nI 32) dX4_skipBlanks_13 (by decide) ?_
    refine z_icmp_ne C 34 dX4_skipBlanks_15 (by decide) (fun h15t_1 => ?_) (fun h15n_1 => ?_)
    · exact E _ _ _ (⟨_, hinv2.symm.trans (scan_stop (c := fun q => decide (r 0 q = nI 32)) (L := n 2) (fun q => h15t_1 ((hr_is (by decide)).mpr ⟨q.1, by simpa using q.2⟩))), (cw_eq rfl rfl rfl rfl rfl rfl rfl rfl rfl rfl rfl rfl rfl rfl rfl rfl rfl rfl rfl rfl rfl rfl rfl rfl rfl rfl rfl rfl rfl rfl rfl rfl rfl rfl rfl rfl rfl rfl rfl rfl rfl rfl rfl rfl rfl rfl rfl rfl rfl rfl rfl)⟩) dX4_skipBlanks_34
    · refine z_aload_n C dX4_skipBlanks_18 rfl (show zlk _ 0 = some (.ref (ad 1)) from rfl) ?_
      refine z_dup C dX4_skipBlanks_19 rfl ?_
      refine z_get C hinX4 1 cc_1 rfl 3 (by decide) (by decide +kernel) ch_1_3 dX4_skipBlanks_20 ?_
      refine z_iconst C (v := nI 1) dX4_skipBlanks_23 (by decide) ?_
      refine z_iaddN C dX4_skipBlanks_24 ?_
      refine z_put C hinX4 tyX4 tyX4_ok nmX4 1 cc_1 rfl 3 (by decide) (by decide +kernel) rfl rfl rfl rfl (Nat.le_of_ble_eq_true rfl) _ cv_1_3 dX4_skipBlanks_25 ?_
      refine z_iincN C [(1, .int (nI (i + 1))), (0, .ref (ad 1))] dX4_skipBlanks_28 rfl (by decide) rfl ?_
      refine z_goto C 2 dX4_skipBlanks_31 (by decide) ?_
      exact z_to (ih2 (by rw [← hinv2]; have h9 := (hr_is (f := r 0) (L := n 2) (by decide)).mp h15n_1; exact (scan_step (c := fun q => decide (r 0 q = nI 32)) h9.1 (by simp [h9.2])).symm)) ((cw_eq rfl rfl rfl rfl rfl rfl rfl rfl rfl rfl rfl rfl rfl rfl rfl rfl rfl rfl rfl rfl rfl rfl rfl rfl rfl rfl rfl rfl rfl rfl rfl rfl rfl rfl rfl rfl rfl rfl rfl rfl rfl rfl rfl rfl rfl rfl rfl rfl rfl rfl rfl)) (rfl)

theorem dgt_1 {c : Int32} (h1 : ¬ c < nI 48) (h2 : ¬ nI 57 < c) : dgt c = true := by
  unfold dgt m_in
  rw [Int32.toInt_toInt64]
  rw [zf_lt] at h1 h2
  have e1 : Int64.toInt 48 = 48 := by decide
  have e2 : Int64.toInt 57 = 57 := by decide
  have e3 : Int32.toInt (nI 48) = 48 := by decide
  have e4 : Int32.toInt (nI 57) = 57 := by decide
  rw [e1, e2]
  simp only [Bool.and_eq_true, decide_eq_true_eq]
  omega
theorem dgt_0 {c : Int32} (h : c < nI 48 ∨ nI 57 < c) : dgt c = false := by
  unfold dgt m_in
  rw [Int32.toInt_toInt64]
  rw [zf_lt, zf_lt] at h
  have e1 : Int64.toInt 48 = 48 := by decide
  have e2 : Int64.toInt 57 = 57 := by decide
  have e3 : Int32.toInt (nI 48) = 48 := by decide
  have e4 : Int32.toInt (nI 57) = 57 := by decide
  rw [e1, e2]
  simp only [Bool.and_eq_false_iff, decide_eq_false_iff_not]
  omega
set_option maxHeartbeats 4000000 in
set_option maxRecDepth 100000 in
theorem c_X4_isFigure (l : Launch) (θ : zH) (X : va_W) (c : Int32) : cI l yX4_isFigure wsX4_isFigure 0 θ [.int c] (X) (fun r0 Y => r0 = bI (dgt c) ∧ Y = X) := by
  refine z_cI (by decide) rfl rfl (Nat.le_of_ble_eq_true rfl) (lv := [(0, .int c)]) rfl (fun κ C E => ?_)
  refine z_iload_n C dX4_isFigure_0 rfl (show zlk _ 0 = some (.int c) from rfl) ?_
  refine z_bipush C (v := nI 48) dX4_isFigure_1 (by decide) ?_
  refine z_icmp_lt C 16 dX4_isFigure_3 (by decide) (fun h3t_1 => ?_) (fun h3n_1 => ?_)
  · refine z_iconst C (v := nI 0) dX4_isFigure_16 (by decide) ?_
    exact E _ _ _ _ (⟨bI_f (dgt_0 (Or.inl h3t_1)), rfl⟩) (rfl) dX4_isFigure_17
  · refine z_iload_n C dX4_isFigure_6 rfl (show zlk _ 0 = some (.int c) from rfl) ?_
    refine z_bipush C (v := nI 57) dX4_isFigure_7 (by decide) ?_
    refine z_icmp_gt C 16 dX4_isFigure_9 (by decide) (fun h9t_2 => ?_) (fun h9n_2 => ?_)
    · refine z_iconst C (v := nI 0) dX4_isFigure_16 (by decide) ?_
      exact E _ _ _ _ (⟨bI_f (dgt_0 (Or.inr h9t_2)), rfl⟩) (rfl) dX4_isFigure_17
    · refine z_iconst C (v := nI 1) dX4_isFigure_12 (by decide) ?_
      refine z_goto C 17 dX4_isFigure_13 (by decide) ?_
      exact E _ _ _ _ (⟨bI_t (dgt_1 h3n_1 h9n_2), rfl⟩) (rfl) dX4_isFigure_17

set_option maxHeartbeats 4000000 in
set_option maxRecDepth 100000 in
theorem c_X4_blame (l : Launch) (θ : zH) (ea : Nat → Nat → Nat) (ad : Nat → Nat) (n : Nat → Nat) (g : Nat → Int32) (b : Nat → Bool) (r : Nat → Nat → Int32) (V : Nat → Ev) (k p : Nat) : cV l yX4_blame wsX4_blame 0 θ [.ref (ad 1), .int (nI k), .int (nI p)] (CW θ ea ad n g b r V) (fun Y => Y = CW θ ea ad (cnv (n 0) (n 1) (n 2) (n 3) k (n 5) (n 6) (n 7) (n 8) (n 9) (n 10) (n 11) (n 12) (n 13) (n 14) (n 15) (n 16) (n 17) (n 18) (n 19) (n 20)) (cgv (g 0) (g 1) (nI p) (g 3) (g 4) (g 5) (g 6)) b r V) := by
  refine z_cV (by decide) rfl rfl (Nat.le_of_ble_eq_true rfl) (lv := [(0, .ref (ad 1)), (1, .int (nI k)), (2, .int (nI p))]) rfl (fun κ C E => ?_)
  have hinX4 : ∀ w ∈ wsX40, w ∈ wsX4_blame := by decide +kernel
  refine z_aload_n C dX4_blame_0 rfl (show zlk _ 0 = some (.ref (ad 1)) from rfl) ?_
  refine z_iload_n C dX4_blame_1 rfl (show zlk _ 1 = some (.int (nI k)) from rfl) ?_
  refine z_put C hinX4 tyX4 tyX4_ok nmX4 1 cc_1 rfl 4 (by decide) (by decide +kernel) rfl rfl rfl rfl (Nat.le_of_ble_eq_true rfl) _ cp_1_4 dX4_blame_2 ?_
  refine z_aload_n C dX4_blame_5 rfl (show zlk _ 0 = some (.ref (ad 1)) from rfl) ?_
  refine z_iload_n C dX4_blame_6 rfl (show zlk _ 2 = some (.int (nI p)) from rfl) ?_
  refine z_put C hinX4 tyX4 tyX4_ok nmX4 1 cc_1 rfl 5 (by decide) (by decide +kernel) rfl rfl rfl rfl (Nat.le_of_ble_eq_true rfl) _ cp_1_5 dX4_blame_7 ?_
  exact E _ _ _ ((cw_eq rfl rfl rfl rfl rfl rfl rfl rfl rfl rfl rfl rfl rfl rfl rfl rfl rfl rfl rfl rfl rfl rfl rfl rfl rfl rfl rfl rfl rfl rfl rfl rfl rfl rfl rfl rfl rfl rfl rfl rfl rfl rfl rfl rfl rfl rfl rfl rfl rfl rfl rfl)) dX4_blame_10

set_option maxHeartbeats 4000000 in
set_option maxRecDepth 100000 in
theorem c_X4_add (l : Launch) (θ : zH) (ea : Nat → Nat → Nat) (ad : Nat → Nat) (n : Nat → Nat) (g : Nat → Int32) (b : Nat → Bool) (r : Nat → Nat → Int32) (V : Nat → Ev) (x : Int32) (hL : n 2 < 240) : cV l yX4_add wsX4_add 0 θ [.ref (ad 1), .int x] (CW θ ea ad n g b r V) (fun Y => Y = CW θ ea ad (cnv (n 0) (n 1) (n 2 + 1) (n 3) (n 4) (n 5) (n 6) (n 7) (n 8) (n 9) (n 10) (n 11) (n 12) (n 13) (n 14) (n 15) (n 16) (n 17) (n 18) (n 19) (n 20)) g b (crv (upd (r 0) (n 2) x) (r 1) (r 2) (r 3) (r 4) (r 5) (r 6) (r 7) (r 8) (r 9) (r 10) (r 11) (r 12) (r 13) (r 14) (r 15) (r 16) (r 17) (r 18)) V) := by
  refine z_cV (by decide) rfl rfl (Nat.le_of_ble_eq_true rfl) (lv := [(0, .ref (ad 1)), (1, .int x)]) rfl (fun κ C E => ?_)
  have hinX4 : ∀ w ∈ wsX40, w ∈ wsX4_add := by decide +kernel
  refine z_aload_n C dX4_add_0 rfl (show zlk _ 0 = some (.ref (ad 1)) from rfl) ?_
  refine z_get C hinX4 1 cc_1 rfl 2 (by decide) (by decide +kernel) cg_1_2 dX4_add_1 ?_
  refine z_if_ltN C 37 dX4_add_4 (by decide) (by omega) ?_
  refine z_aload_n C dX4_add_7 rfl (show zlk _ 0 = some (.ref (ad 1)) from rfl) ?_
  refine z_get C hinX4 1 cc_1 rfl 2 (by decide) (by decide +kernel) cg_1_2 dX4_add_8 ?_
  refine z_sipush C (v := nI 240) dX4_add_11 (by decide) ?_
  refine z_icmp_geF C 37 dX4_add_14 (by decide) (by omega) (by omega) (by omega) ?_
  refine z_aload_n C dX4_add_17 rfl (show zlk _ 0 = some (.ref (ad 1)) from rfl) ?_
  refine z_get C hinX4 1 cc_1 rfl 0 (by decide) (by decide +kernel) cg_1_0 dX4_add_18 ?_
  refine z_aload_n C dX4_add_21 rfl (show zlk _ 0 = some (.ref (ad 1)) from rfl) ?_
  refine z_get C hinX4 1 cc_1 rfl 2 (by decide) (by decide +kernel) cg_1_2 dX4_add_22 ?_
  refine z_iload_n C dX4_add_25 rfl (show zlk _ 1 = some (.int x) from rfl) ?_
  refine z_iast C (f := (r 0)) 11 ca_11 (n 2) rfl (by omega) (by decide) _ cs_11 dX4_add_26 ?_
  refine z_aload_n C dX4_add_27 rfl (show zlk _ 0 = some (.ref (ad 1)) from rfl) ?_
  refine z_dup C dX4_add_28 rfl ?_
  refine z_get C hinX4 1 cc_1 rfl 2 (by decide) (by decide +kernel) cg_1_2 dX4_add_29 ?_
  refine z_iconst C (v := nI 1) dX4_add_32 (by decide) ?_
  refine z_iaddN C dX4_add_33 ?_
  refine z_put C hinX4 tyX4 tyX4_ok nmX4 1 cc_1 rfl 2 (by decide) (by decide +kernel) rfl rfl rfl rfl (Nat.le_of_ble_eq_true rfl) _ cp_1_2 dX4_add_34 ?_
  exact E _ _ _ ((cw_eq rfl rfl rfl rfl rfl rfl rfl rfl rfl rfl rfl rfl rfl rfl rfl rfl rfl rfl rfl rfl rfl rfl rfl rfl rfl rfl rfl rfl rfl rfl rfl rfl rfl rfl rfl rfl rfl rfl rfl rfl rfl rfl rfl rfl rfl rfl rfl rfl rfl rfl rfl)) dX4_add_37

theorem sk_240 {f : Nat → Int32} {L p : Nat} (hp : p ≤ 240) (hL : L ≤ 240) : sk f L p ≤ 240 := by
  by_cases e : p ≤ L
  · have := (sk_le (f := f) e).2; omega
  · have e2 : sk f L p = p := scan_stop (by omega)
    omega
set_option maxHeartbeats 4000000 in
set_option maxRecDepth 100000 in
theorem c_X4_readSign_1 (l : Launch) (θ : zH) (ea : Nat → Nat → Nat) (ad : Nat → Nat) (n : Nat → Nat) (g : Nat → Int32) (b : Nat → Bool) (r : Nat → Nat → Int32) (V : Nat → Ev) (c : Int32) (hf : ¬ n 4 = 0) (h4 : n 4 < 2 ^ 31) : cV l yX4_readSign wsX4_readSign 2 θ [.ref (ad 1), .int c] (CW θ ea ad n g b r V) (fun Y => Y = CW θ ea ad n g b r V) := by
  refine z_cV (by decide) rfl rfl (Nat.le_of_ble_eq_true rfl) (lv := [(0, .ref (ad 1)), (1, .int c)]) rfl (fun κ C E => ?_)
  have hinX4 : ∀ w ∈ wsX40, w ∈ wsX4_readSign := by decide +kernel
  refine z_aload_n C dX4_readSign_0 rfl (show zlk _ 0 = some (.ref (ad 1)) from rfl) ?_
  refine z_get C hinX4 1 cc_1 rfl 4 (by decide) (by decide +kernel) cg_1_4 dX4_readSign_1 ?_
  refine z_if_eqN C 8 dX4_readSign_4 (by decide) (by omega) (fun h4n_1 => absurd h4n_1 (hf)) (fun h4n_1 => ?_)
  exact E _ _ _ (rfl) dX4_readSign_7

set_option maxHeartbeats 4000000 in
set_option maxRecDepth 100000 in
theorem c_X4_readSign_2 (l : Launch) (θ : zH) (ea : Nat → Nat → Nat) (ad : Nat → Nat) (n : Nat → Nat) (g : Nat → Int32) (b : Nat → Bool) (r : Nat → Nat → Int32) (V : Nat → Ev) (c : Int32) (hf : n 4 = 0) (hp : n 3 ≤ 240) (hL : n 2 ≤ 240) : cV l yX4_readSign wsX4_readSign 2 θ [.ref (ad 1), .int c] (CW θ ea ad n g b r V) (fun Y => ∃ p1, sk (r 0) (n 2) (n 3) = p1 ∧ ((m_hr (r 0) (n 2) p1 = c ∧ Y = CW θ ea ad (cnv (n 0) (n 1) (n 2) (p1 + 1) (n 4) (n 5) (n 6) (n 7) (n 8) (n 9) (n 10) (n 11) (n 12) (n 13) (n 14) (n 15) (n 16) (n 17) (n 18) (n 19) (n 20)) g b r V) ∨ (¬ m_hr (r 0) (n 2) p1 = c ∧ Y = CW θ ea ad (cnv (n 0) (n 1) (n 2) p1 1 (n 5) (n 6) (n 7) (n 8) (n 9) (n 10) (n 11) (n 12) (n 13) (n 14) (n 15) (n 16) (n 17) (n 18) (n 19) (n 20)) (cgv (g 0) (g 1) (nI p1) (g 3) (g 4) (g 5) (g 6)) b r V))) := by
  refine z_cV (by decide) rfl rfl (Nat.le_of_ble_eq_true rfl) (lv := [(0, .ref (ad 1)), (1, .int c)]) rfl (fun κ C E => ?_)
  have hinX4 : ∀ w ∈ wsX40, w ∈ wsX4_readSign := by decide +kernel
  refine z_aload_n C dX4_readSign_0 rfl (show zlk _ 0 = some (.ref (ad 1)) from rfl) ?_
  refine z_get C hinX4 1 cc_1 rfl 4 (by decide) (by decide +kernel) cg_1_4 dX4_readSign_1 ?_
  refine z_if_eqN C 8 dX4_readSign_4 (by decide) (by omega) (fun h4t_1 => ?_) (fun h4t_1 => absurd h4t_1 (fun z => z hf))
  refine z_aload_n C dX4_readSign_8 rfl (show zlk _ 0 = some (.ref (ad 1)) from rfl) ?_
  refine z_callVv C (As := []) (rest := []) (c_X4_skipBlanks l θ ea ad n g b r V (show n 3 ≤ 240 by omega) hL) gX4_readSign_X4_skipBlanks rfl 0 (by decide +kernel) (by decide) (by decide) 1 rfl rfl rfl rfl rfl (Nat.le_of_ble_eq_true rfl) dX4_readSign_9 ?_
  rintro _ ⟨pk1, ek1, rfl⟩
  replace ek1 : sk (r 0) (n 2) (n 3) = pk1 := ek1
  have lk1 : pk1 ≤ 240 := by rw [← ek1]; exact sk_240 (by omega) (by omega)
  refine z_X (Y := CW θ ea ad (cnv (n 0) (n 1) (n 2) pk1 (n 4) (n 5) (n 6) (n 7) (n 8) (n 9) (n 10) (n 11) (n 12) (n 13) (n 14) (n 15) (n 16) (n 17) (n 18) (n 19) (n 20)) g b r V) (cw_eq rfl rfl rfl rfl rfl rfl rfl rfl rfl rfl rfl rfl rfl rfl rfl rfl rfl rfl rfl rfl rfl rfl rfl rfl rfl rfl rfl rfl rfl rfl rfl rfl rfl rfl rfl rfl rfl rfl rfl rfl rfl rfl rfl rfl rfl rfl rfl rfl rfl rfl rfl) ?_
  refine z_aload_n C dX4_readSign_12 rfl (show zlk _ 0 = some (.ref (ad 1)) from rfl) ?_
  refine z_callVi C (As := []) (rest := []) (c_X4_letterHere l θ ea ad (cnv (n 0) (n 1) (n 2) pk1 (n 4) (n 5) (n 6) (n 7) (n 8) (n 9) (n 10) (n 11) (n 12) (n 13) (n 14) (n 15) (n 16) (n 17) (n 18) (n 19) (n 20)) g b r V (show pk1 < 2 ^ 30 by omega) hL) gX4_readSign_X4_letterHere rfl 0 (by decide +kernel) (by decide) (by decide) 1 rfl rfl rfl rfl rfl (Nat.le_of_ble_eq_true rfl) dX4_readSign_13 ?_
  rintro _ _ ⟨rfl, rfl⟩
  refine z_top (v' := .int (m_hr (r 0) (n 2) (pk1))) rfl ?_
  refine z_iload_n C dX4_readSign_16 rfl (show zlk _ 1 = some (.int c) from rfl) ?_
  refine z_icmp_ne C 33 dX4_readSign_17 (by decide) (fun h17t_2 => ?_) (fun h17n_2 => ?_)
  · refine z_aload_n C dX4_readSign_33 rfl (show zlk _ 0 = some (.ref (ad 1)) from rfl) ?_
    refine z_iconst C (v := nI 1) dX4_readSign_34 (by decide) ?_
    refine z_aload_n C dX4_readSign_35 rfl (show zlk _ 0 = some (.ref (ad 1)) from rfl) ?_
    refine z_get C hinX4 1 cc_1 rfl 3 (by decide) (by decide +kernel) ch_1_3 dX4_readSign_36 ?_
    refine z_callVv C (As := [.int (nI 1), .int (nI pk1)]) (rest := []) (c_X4_blame l θ ea ad (cnv (n 0) (n 1) (n 2) pk1 (n 4) (n 5) (n 6) (n 7) (n 8) (n 9) (n 10) (n 11) (n 12) (n 13) (n 14) (n 15) (n 16) (n 17) (n 18) (n 19) (n 20)) g b r V 1 pk1) gX4_readSign_X4_blame rfl 2 (by decide +kernel) (by decide) (by decide) 1 rfl rfl rfl rfl rfl (Nat.le_of_ble_eq_true rfl) dX4_readSign_39 ?_
    rintro _ rfl
    refine z_X (Y := CW θ ea ad (cnv (n 0) (n 1) (n 2) pk1 1 (n 5) (n 6) (n 7) (n 8) (n 9) (n 10) (n 11) (n 12) (n 13) (n 14) (n 15) (n 16) (n 17) (n 18) (n 19) (n 20)) (cgv (g 0) (g 1) (nI pk1) (g 3) (g 4) (g 5) (g 6)) b r V) (cw_eq rfl rfl rfl rfl rfl rfl rfl rfl rfl rfl rfl rfl rfl rfl rfl rfl rfl rfl rfl rfl rfl rfl rfl rfl rfl rfl rfl rfl rfl rfl rfl rfl rfl rfl rfl rfl rfl rfl rfl rfl rfl rfl rfl rfl rfl rfl rfl rfl rfl rfl rfl) ?_
    exact E _ _ _ (⟨_, ek1, Or.inr ⟨h17t_2, (cw_eq rfl rfl rfl rfl rfl rfl rfl rfl rfl rfl rfl rfl rfl rfl rfl rfl rfl rfl rfl rfl rfl rfl rfl rfl rfl rfl rfl rfl rfl rfl rfl rfl rfl rfl rfl rfl rfl rfl rfl rfl rfl rfl rfl rfl rfl rfl rfl rfl rfl rfl rfl)⟩⟩) dX4_readSign_42
  · refine z_aload_n C dX4_readSign_20 rfl (show zlk _ 0 = some (.ref (ad 1)) from rfl) ?_
    refine z_dup C dX4_readSign_21 rfl ?_
    refine z_get C hinX4 1 cc_1 rfl 3 (by decide) (by decide +kernel) ch_1_3 dX4_readSign_22 ?_
    refine z_iconst C (v := nI 1) dX4_readSign_25 (by decide) ?_
    refine z_iaddN C dX4_readSign_26 ?_
    refine z_put C hinX4 tyX4 tyX4_ok nmX4 1 cc_1 rfl 3 (by decide) (by decide +kernel) rfl rfl rfl rfl (Nat.le_of_ble_eq_true rfl) _ cv_1_3 dX4_readSign_27 ?_
    refine z_goto C 42 dX4_readSign_30 (by decide) ?_
    exact E _ _ _ (⟨_, ek1, Or.inl ⟨h17n_2, (cw_eq rfl rfl rfl rfl rfl rfl rfl rfl rfl rfl rfl rfl rfl rfl rfl rfl rfl rfl rfl rfl rfl rfl rfl rfl rfl rfl rfl rfl rfl rfl rfl rfl rfl rfl rfl rfl rfl rfl rfl rfl rfl rfl rfl rfl rfl rfl rfl rfl rfl rfl rfl)⟩⟩) dX4_readSign_42

