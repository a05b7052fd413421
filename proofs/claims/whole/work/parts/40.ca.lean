abbrev AL : Type := Nat × Nat × (Nat → Int32) × (Nat → Int32) × (Nat → Int32)
def k_a1 (p : AL) (w s v : Int32) : AL := (min (p.1 + 1) 20, (p.2.1 + 1) % 20, upd p.2.2.1 p.2.1 w, upd p.2.2.2.1 p.2.1 s, upd p.2.2.2.2 p.2.1 v)
/-- the present evening, read off the class's cells -/
def nowE (n : Nat → Nat) (g : Nat → Int32) (b : Nat → Bool) (r : Nat → Nat → Int32) : Ev := ((g 3, g 4, g 5, b 2, g 6, n 13, n 14, n 15), (r 7, r 8, r 9, r 10, r 11, r 12))
def eB (G : Nat) (e : Ev) (o x : Int32) : Int32 := (k_lo ((k_sh o (x + e.1.1) 5 &&& ((e.1.2.1 * nI 17043521) ^^^ (-1))) &&& (e.1.2.2.1 ^^^ (-1))) G 30).2
def eAt (S G : Nat) (o : Nat → Int32) (e : Ev) (w : Nat) : Int32 := if okN (e.2.2.1 w) S = false ∨ e.1.2.2.2.1 = true ∨ (e.1.2.2.2.2.1 >>> (nI w &&& 31)) &&& nI 1 = nI 1 then nI 0 else eB G e (o (e.2.2.1 w).toNatClampNeg) (e.2.1 w)
def eAl (S G : Nat) (o : Nat → Int32) (e : Ev) : Nat → AL
  | 0 => (e.1.2.2.2.2.2.2.1, e.1.2.2.2.2.2.2.2, e.2.2.2.2.1, e.2.2.2.2.2.1, e.2.2.2.2.2.2)
  | w + 1 => if eAt S G o e w = nI 0 then eAl S G o e w else k_a1 (eAl S G o e w) (nI w) (e.2.2.1 w) (eAt S G o e w)
def eOk (e : Ev) : Prop := e.1.2.2.2.2.2.2.1 ≤ 20 ∧ e.1.2.2.2.2.2.2.2 < 20
theorem eAl_b {S G : Nat} {o : Nat → Int32} {e : Ev} (h : eOk e) : ∀ w, (eAl S G o e w).1 ≤ 20 ∧ (eAl S G o e w).2.1 < 20
  | 0 => h
  | w + 1 => by
    have := eAl_b (S := S) (G := G) (o := o) h w
    unfold eAl
    split
    · exact this
    · unfold k_a1
      dsimp only
      omega
def ePass (S G W : Nat) (o : Nat → Int32) (e : Ev) : Ev := ((k_w1 e.1.1, nI 0, if e.1.2.2.2.2.2.1 % 3 = 2 then nI 0 else e.1.2.2.1, false, nI 0, e.1.2.2.2.2.2.1 + 1, (eAl S G o e W).1, (eAl S G o e W).2.1), (e.2.1, e.2.2.1, e.2.2.2.1, (eAl S G o e W).2.2.1, (eAl S G o e W).2.2.2.1, (eAl S G o e W).2.2.2.2))
theorem ePass_ok {S G W : Nat} {o : Nat → Int32} {e : Ev} (h : eOk e) : eOk (ePass S G W o e) := eAl_b h W
def eIt (S G W : Nat) (o : Nat → Int32) (e : Ev) : Nat → Ev
  | 0 => e
  | i + 1 => ePass S G W o (eIt S G W o e i)
theorem eIt_ok {S G W : Nat} {o : Nat → Int32} {e : Ev} (h : eOk e) : ∀ i, eOk (eIt S G W o e i)
  | 0 => h
  | i + 1 => ePass_ok (eIt_ok h i)
theorem eIt_d {S G W : Nat} {o : Nat → Int32} {e : Ev} : ∀ i, (eIt S G W o e i).1.2.2.2.2.2.1 = e.1.2.2.2.2.2.1 + i
  | 0 => rfl
  | i + 1 => by
    show (eIt S G W o e i).1.2.2.2.2.2.1 + 1 = _
    rw [eIt_d i]; omega
set_option maxHeartbeats 4000000 in
set_option maxRecDepth 100000 in
theorem c_X5_passDusk (l : Launch) (θ : zH) (ea : Nat → Nat → Nat) (ad : Nat → Nat) (n : Nat → Nat) (g : Nat → Int32) (b : Nat → Bool) (r : Nat → Nat → Int32) (V : Nat → Ev)  (hW : n 11 ≤ 5) (hS : n 10 ≤ 6) (h9 : n 9 ≤ 30) (hz : n 14 ≤ 20) (hn : n 15 < 20) (hd : n 13 < 2 ^ 30) : cV l yX5_passDusk wsX5_passDusk 3 θ [.ref (ad 0)] (CW θ ea ad n g b r V) (fun Y => Y = CW θ ea ad (cnv (n 0) (n 1) (n 2) (n 3) (n 4) (n 5) (n 6) (n 7) (n 8) (n 9) (n 10) (n 11) (n 12) (n 13 + 1) ((eAl (n 10) (n 9) (r 4) (nowE n g b r) (n 11)).1) ((eAl (n 10) (n 9) (r 4) (nowE n g b r) (n 11)).2.1) (n 16) (n 17) (n 18) (n 19) (n 20)) (cgv (g 0) (g 1) (g 2) (k_w1 (g 3)) (nI 0) (if n 13 % 3 = 2 then nI 0 else g 5) (nI 0)) (cbv (b 0) (b 1) false) (crv (r 0) (r 1) (r 2) (r 3) (r 4) (r 5) (r 6) (r 7) (r 8) (r 9) ((eAl (n 10) (n 9) (r 4) (nowE n g b r) (n 11)).2.2.1) ((eAl (n 10) (n 9) (r 4) (nowE n g b r) (n 11)).2.2.2.1) ((eAl (n 10) (n 9) (r 4) (nowE n g b r) (n 11)).2.2.2.2) (r 13) (r 14) (r 15) (r 16) (r 17) (r 18)) V) := by
  refine z_cV (by decide) rfl rfl (Nat.le_of_ble_eq_true rfl) (lv := [(0, .ref (ad 0))]) rfl (fun κ C E => ?_)
  have hinX0 : ∀ w ∈ wsX00, w ∈ wsX5_passDusk := by decide +kernel
  have hinX1 : ∀ w ∈ wsX10, w ∈ wsX5_passDusk := by decide +kernel
  have hinX5 : ∀ w ∈ wsX50, w ∈ wsX5_passDusk := by decide +kernel
  refine z_iconst C (v := nI 0) dX5_passDusk_0 (by decide) ?_
  refine z_istore_n C [(1, .int (nI 0)), (0, .ref (ad 0))] dX5_passDusk_1 rfl (by decide) rfl ?_
  refine z_lv (lv' := [(0, .ref (ad 0)), (1, .int (nI 0))]) rfl ?_
  refine z_X (Y := CW θ ea ad (cnv (n 0) (n 1) (n 2) (n 3) (n 4) (n 5) (n 6) (n 7) (n 8) (n 9) (n 10) (n 11) (n 12) (n 13) ((eAl (n 10) (n 9) (r 4) (nowE n g b r) 0).1) ((eAl (n 10) (n 9) (r 4) (nowE n g b r) 0).2.1) (n 16) (n 17) (n 18) (n 19) (n 20)) g b (crv (r 0) (r 1) (r 2) (r 3) (r 4) (r 5) (r 6) (r 7) (r 8) (r 9) ((eAl (n 10) (n 9) (r 4) (nowE n g b r) 0).2.2.1) ((eAl (n 10) (n 9) (r 4) (nowE n g b r) 0).2.2.2.1) ((eAl (n 10) (n 9) (r 4) (nowE n g b r) 0).2.2.2.2) (r 13) (r 14) (r 15) (r 16) (r 17) (r 18)) V) (cw_eq rfl rfl rfl rfl rfl rfl rfl rfl rfl rfl rfl rfl rfl rfl rfl rfl rfl rfl rfl rfl rfl rfl rfl rfl rfl rfl rfl rfl rfl rfl rfl rfl rfl rfl rfl rfl rfl rfl rfl rfl rfl rfl rfl rfl rfl rfl rfl rfl rfl rfl rfl) ?_
  refine z_up (fun k => Z κ (CW θ ea ad (cnv (n 0) (n 1) (n 2) (n 3) (n 4) (n 5) (n 6) (n 7) (n 8) (n 9) (n 10) (n 11) (n 12) (n 13) ((eAl (n 10) (n 9) (r 4) (nowE n g b r) k).1) ((eAl (n 10) (n 9) (r 4) (nowE n g b r) k).2.1) (n 16) (n 17) (n 18) (n 19) (n 20)) g b (crv (r 0) (r 1) (r 2) (r 3) (r 4) (r 5) (r 6) (r 7) (r 8) (r 9) ((eAl (n 10) (n 9) (r 4) (nowE n g b r) k).2.2.1) ((eAl (n 10) (n 9) (r 4) (nowE n g b r) k).2.2.2.1) ((eAl (n 10) (n 9) (r 4) (nowE n g b r) k).2.2.2.2) (r 13) (r 14) (r 15) (r 16) (r 17) (r 18)) V) 2 [(0, .ref (ad 0)), (1, .int (nI k))] []) (n 11) ?_ ?_ 0 (by omega)
  · refine z_iload_n C dX5_passDusk_2 rfl (show zlk _ 1 = some (.int (nI (n 11))) from rfl) ?_
    refine z_aload_n C dX5_passDusk_3 rfl (show zlk _ 0 = some (.ref (ad 0)) from rfl) ?_
    refine z_get C hinX5 0 cc_0 rfl 1 (by decide) (by decide +kernel) cg_0_1 dX5_passDusk_4 ?_
    refine z_getN C (host := "GnatPortraits") hinX0 3 cc_3 rfl 3 (by decide) (by decide +kernel) ch_3_3 dX5_passDusk_7 ?_
    refine z_icmp_geT C 47 dX5_passDusk_10 (by decide) (by omega) (by omega) (by omega) ?_
    refine z_aload_n C dX5_passDusk_47 rfl (show zlk _ 0 = some (.ref (ad 0)) from rfl) ?_
    refine z_get C hinX5 0 cc_0 rfl 2 (by decide) (by decide +kernel) cg_0_2 dX5_passDusk_48 ?_
    refine z_callNv C (As := []) (rest := []) (host := "GnatPortraits") (c_X1_endDusk l θ ea ad (cnv (n 0) (n 1) (n 2) (n 3) (n 4) (n 5) (n 6) (n 7) (n 8) (n 9) (n 10) (n 11) (n 12) (n 13) ((eAl (n 10) (n 9) (r 4) (nowE n g b r) (n 11)).1) ((eAl (n 10) (n 9) (r 4) (nowE n g b r) (n 11)).2.1) (n 16) (n 17) (n 18) (n 19) (n 20)) g b (crv (r 0) (r 1) (r 2) (r 3) (r 4) (r 5) (r 6) (r 7) (r 8) (r 9) ((eAl (n 10) (n 9) (r 4) (nowE n g b r) (n 11)).2.2.1) ((eAl (n 10) (n 9) (r 4) (nowE n g b r) (n 11)).2.2.2.1) ((eAl (n 10) (n 9) (r 4) (nowE n g b r) (n 11)).2.2.2.2) (r 13) (r 14) (r 15) (r 16) (r 17) (r 18)) V (hd)) gX5_passDusk_X1_endDusk_n300 rfl 0 (by decide +kernel) (by decide +kernel) (by decide +kernel) (by decide +kernel) (by decide +kernel) (by decide) (by decide) 4 rfl rfl rfl rfl rfl (Nat.le_of_ble_eq_true rfl) dX5_passDusk_51 ?_
    rintro _ rfl
    refine z_X (Y := CW θ ea ad (cnv (n 0) (n 1) (n 2) (n 3) (n 4) (n 5) (n 6) (n 7) (n 8) (n 9) (n 10) (n 11) (n 12) (n 13 + 1) ((eAl (n 10) (n 9) (r 4) (nowE n g b r) (n 11)).1) ((eAl (n 10) (n 9) (r 4) (nowE n g b r) (n 11)).2.1) (n 16) (n 17) (n 18) (n 19) (n 20)) (cgv (g 0) (g 1) (g 2) (k_w1 (g 3)) (nI 0) (if n 13 % 3 = 2 then nI 0 else g 5) (nI 0)) (cbv (b 0) (b 1) false) (crv (r 0) (r 1) (r 2) (r 3) (r 4) (r 5) (r 6) (r 7) (r 8) (r 9) ((eAl (n 10) (n 9) (r 4) (nowE n g b r) (n 11)).2.2.1) ((eAl (n 10) (n 9) (r 4) (nowE n g b r) (n 11)).2.2.2.1) ((eAl (n 10) (n 9) (r 4) (nowE n g b r) (n 11)).2.2.2.2) (r 13) (r 14) (r 15) (r 16) (r 17) (r 18)) V) (cw_eq rfl rfl rfl rfl rfl rfl rfl rfl rfl rfl rfl rfl rfl rfl rfl rfl rfl rfl rfl rfl rfl rfl rfl rfl rfl rfl rfl rfl rfl rfl rfl rfl rfl rfl rfl rfl rfl rfl rfl rfl rfl rfl rfl rfl rfl rfl rfl rfl rfl rfl rfl) ?_
    exact E _ _ _ ((cw_eq rfl rfl rfl rfl rfl rfl rfl rfl rfl rfl rfl rfl rfl rfl rfl rfl rfl rfl rfl rfl rfl rfl rfl rfl rfl rfl rfl rfl rfl rfl rfl rfl rfl rfl rfl rfl rfl rfl rfl rfl rfl rfl rfl rfl rfl rfl rfl rfl rfl rfl rfl)) dX5_passDusk_54
  · intro k hk2 ih2
    refine z_iload_n C dX5_passDusk_2 rfl (show zlk _ 1 = some (.int (nI k)) from rfl) ?_
    refine z_aload_n C dX5_passDusk_3 rfl (show zlk _ 0 = some (.ref (ad 0)) from rfl) ?_
    refine z_get C hinX5 0 cc_0 rfl 1 (by decide) (by decide +kernel) cg_0_1 dX5_passDusk_4 ?_
    refine z_getN C (host := "GnatPortraits") hinX0 3 cc_3 rfl 3 (by decide) (by decide +kernel) ch_3_3 dX5_passDusk_7 ?_
    refine z_icmp_geF C 47 dX5_passDusk_10 (by decide) (by omega) (by omega) (by omega) ?_
    refine z_aload_n C dX5_passDusk_13 rfl (show zlk _ 0 = some (.ref (ad 0)) from rfl) ?_
    refine z_iload_n C dX5_passDusk_14 rfl (show zlk _ 1 = some (.int (nI k)) from rfl) ?_
    refine z_callVi C (As := [.int (nI k)]) (rest := []) (c_X5_drawnAt l θ ea ad (cnv (n 0) (n 1) (n 2) (n 3) (n 4) (n 5) (n 6) (n 7) (n 8) (n 9) (n 10) (n 11) (n 12) (n 13) ((eAl (n 10) (n 9) (r 4) (nowE n g b r) k).1) ((eAl (n 10) (n 9) (r 4) (nowE n g b r) k).2.1) (n 16) (n 17) (n 18) (n 19) (n 20)) g b (crv (r 0) (r 1) (r 2) (r 3) (r 4) (r 5) (r 6) (r 7) (r 8) (r 9) ((eAl (n 10) (n 9) (r 4) (nowE n g b r) k).2.2.1) ((eAl (n 10) (n 9) (r 4) (nowE n g b r) k).2.2.2.1) ((eAl (n 10) (n 9) (r 4) (nowE n g b r) k).2.2.2.2) (r 13) (r 14) (r 15) (r 16) (r 17) (r 18)) V k (by omega) hS h9) gX5_passDusk_X5_drawnAt rfl 1 (by decide +kernel) (by decide) (by decide) 0 rfl rfl rfl rfl rfl (Nat.le_of_ble_eq_true rfl) dX5_passDusk_15 ?_
    rintro _ _ ⟨rfl, rfl⟩
    refine z_top (v' := .int (k_dAt (cnv (n 0) (n 1) (n 2) (n 3) (n 4) (n 5) (n 6) (n 7) (n 8) (n 9) (n 10) (n 11) (n 12) (n 13) ((eAl (n 10) (n 9) (r 4) (nowE n g b r) k).1) ((eAl (n 10) (n 9) (r 4) (nowE n g b r) k).2.1) (n 16) (n 17) (n 18) (n 19) (n 20)) g b (crv (r 0) (r 1) (r 2) (r 3) (r 4) (r 5) (r 6) (r 7) (r 8) (r 9) ((eAl (n 10) (n 9) (r 4) (nowE n g b r) k).2.2.1) ((eAl (n 10) (n 9) (r 4) (nowE n g b r) k).2.2.2.1) ((eAl (n 10) (n 9) (r 4) (nowE n g b r) k).2.2.2.2) (r 13) (r 14) (r 15) (r 16) (r 17) (r 18)) k)) rfl ?_
    refine z_top (v' := .int (eAt (n 10) (n 9) (r 4) (nowE n g b r) k)) (rfl) ?_
    refine z_istore_n C [(2, .int (eAt (n 10) (n 9) (r 4) (nowE n g b r) k)), (0, .ref (ad 0)), (1, .int (nI k))] dX5_passDusk_18 rfl (by decide) rfl ?_
    refine z_iload_n C dX5_passDusk_19 rfl (show zlk _ 2 = some (.int (eAt (n 10) (n 9) (r 4) (nowE n g b r) k)) from rfl) ?_
    refine z_if_eq C 41 dX5_passDusk_20 (by decide) (fun h20t_1 => ?_) (fun h20n_1 => ?_)
    · refine z_iincN C [(1, .int (nI (k + 1))), (2, .int (eAt (n 10) (n 9) (r 4) (nowE n g b r) k)), (0, .ref (ad 0))] dX5_passDusk_41 rfl (by decide) rfl ?_
      refine z_goto C 2 dX5_passDusk_44 (by decide) ?_
      exact z_to (ih2) (by rw [eAl, if_pos (show eAt (n 10) (n 9) (r 4) (nowE n g b r) k = nI 0 from h20t_1)] <;> exact (cw_eq rfl rfl rfl rfl rfl rfl rfl rfl rfl rfl rfl rfl rfl rfl rfl rfl rfl rfl rfl rfl rfl rfl rfl rfl rfl rfl rfl rfl rfl rfl rfl rfl rfl rfl rfl rfl rfl rfl rfl rfl rfl rfl rfl rfl rfl rfl rfl rfl rfl rfl rfl)) (rfl)
    · refine z_aload_n C dX5_passDusk_23 rfl (show zlk _ 0 = some (.ref (ad 0)) from rfl) ?_
      refine z_get C hinX5 0 cc_0 rfl 2 (by decide) (by decide +kernel) cg_0_2 dX5_passDusk_24 ?_
      refine z_iload_n C dX5_passDusk_27 rfl (show zlk _ 1 = some (.int (nI k)) from rfl) ?_
      refine z_aload_n C dX5_passDusk_28 rfl (show zlk _ 0 = some (.ref (ad 0)) from rfl) ?_
      refine z_get C hinX5 0 cc_0 rfl 2 (by decide) (by decide +kernel) cg_0_2 dX5_passDusk_29 ?_
      refine z_getN C (host := "GnatPortraits") hinX1 4 cc_4 rfl 9 (by decide) (by decide +kernel) cg_4_9 dX5_passDusk_32 ?_
      refine z_iload_n C dX5_passDusk_35 rfl (show zlk _ 1 = some (.int (nI k)) from rfl) ?_
      refine z_iald C (f := (r 8)) 19 cav_19 k rfl (by omega) (by decide) dX5_passDusk_36 ?_
      refine z_iload_n C dX5_passDusk_37 rfl (show zlk _ 2 = some (.int (eAt (n 10) (n 9) (r 4) (nowE n g b r) k)) from rfl) ?_
      refine z_callNv C (As := [.int (nI k), .int ((r 8) k), .int (eAt (n 10) (n 9) (r 4) (nowE n g b r) k)]) (rest := []) (host := "GnatPortraits") (c_X1_keepInAlbum l θ ea ad (cnv (n 0) (n 1) (n 2) (n 3) (n 4) (n 5) (n 6) (n 7) (n 8) (n 9) (n 10) (n 11) (n 12) (n 13) ((eAl (n 10) (n 9) (r 4) (nowE n g b r) k).1) ((eAl (n 10) (n 9) (r 4) (nowE n g b r) k).2.1) (n 16) (n 17) (n 18) (n 19) (n 20)) g b (crv (r 0) (r 1) (r 2) (r 3) (r 4) (r 5) (r 6) (r 7) (r 8) (r 9) ((eAl (n 10) (n 9) (r 4) (nowE n g b r) k).2.2.1) ((eAl (n 10) (n 9) (r 4) (nowE n g b r) k).2.2.2.1) ((eAl (n 10) (n 9) (r 4) (nowE n g b r) k).2.2.2.2) (r 13) (r 14) (r 15) (r 16) (r 17) (r 18)) V (nI k) ((r 8) k) (eAt (n 10) (n 9) (r 4) (nowE n g b r) k) ((eAl_b (e := nowE n g b r) ⟨hz, hn⟩ k).2) ((eAl_b (e := nowE n g b r) ⟨hz, hn⟩ k).1)) gX5_passDusk_X1_keepInAlbum_n296 rfl 3 (by decide +kernel) (by decide +kernel) (by decide +kernel) (by decide +kernel) (by decide +kernel) (by decide) (by decide) 4 rfl rfl rfl rfl rfl (Nat.le_of_ble_eq_true rfl) dX5_passDusk_38 ?_
      rintro _ rfl
      refine z_X (Y := CW θ ea ad (cnv (n 0) (n 1) (n 2) (n 3) (n 4) (n 5) (n 6) (n 7) (n 8) (n 9) (n 10) (n 11) (n 12) (n 13) (min ((eAl (n 10) (n 9) (r 4) (nowE n g b r) k).1 + 1) 20) (((eAl (n 10) (n 9) (r 4) (nowE n g b r) k).2.1 + 1) % 20) (n 16) (n 17) (n 18) (n 19) (n 20)) g b (crv (r 0) (r 1) (r 2) (r 3) (r 4) (r 5) (r 6) (r 7) (r 8) (r 9) (upd ((eAl (n 10) (n 9) (r 4) (nowE n g b r) k).2.2.1) ((eAl (n 10) (n 9) (r 4) (nowE n g b r) k).2.1) (nI k)) (upd ((eAl (n 10) (n 9) (r 4) (nowE n g b r) k).2.2.2.1) ((eAl (n 10) (n 9) (r 4) (nowE n g b r) k).2.1) ((r 8) k)) (upd ((eAl (n 10) (n 9) (r 4) (nowE n g b r) k).2.2.2.2) ((eAl (n 10) (n 9) (r 4) (nowE n g b r) k).2.1) (eAt (n 10) (n 9) (r 4) (nowE n g b r) k)) (r 13) (r 14) (r 15) (r 16) (r 17) (r 18)) V) (cw_eq rfl rfl rfl rfl rfl rfl rfl rfl rfl rfl rfl rfl rfl rfl rfl rfl rfl rfl rfl rfl rfl rfl rfl rfl rfl rfl rfl rfl rfl rfl rfl rfl rfl rfl rfl rfl rfl rfl rfl rfl rfl rfl rfl rfl rfl rfl rfl rfl rfl rfl rfl) ?_
      refine z_iincN C [(1, .int (nI (k + 1))), (2, .int (eAt (n 10) (n 9) (r 4) (nowE n g b r) k)), (0, .ref (ad 0))] dX5_passDusk_41 rfl (by decide) rfl ?_
      refine z_goto C 2 dX5_passDusk_44 (by decide) ?_
      exact z_to (ih2) (by rw [eAl, if_neg (show ¬ eAt (n 10) (n 9) (r 4) (nowE n g b r) k = nI 0 from h20n_1)] <;> exact (cw_eq rfl rfl rfl rfl rfl rfl rfl rfl rfl rfl rfl rfl rfl rfl rfl rfl rfl rfl rfl rfl rfl rfl rfl rfl rfl rfl rfl rfl rfl rfl rfl rfl rfl rfl rfl rfl rfl rfl rfl rfl rfl rfl rfl rfl rfl rfl rfl rfl rfl rfl rfl)) (rfl)

set_option maxHeartbeats 4000000 in
set_option maxRecDepth 100000 in
theorem c_X5_dusk_1 (l : Launch) (θ : zH) (ea : Nat → Nat → Nat) (ad : Nat → Nat) (n : Nat → Nat) (g : Nat → Int32) (b : Nat → Bool) (r : Nat → Nat → Int32) (V : Nat → Ev) (x : Int32) (hx : m_in (Int32.toInt64 x) 1 (60) = false) : cI l yX5_dusk wsX5_dusk 5 θ [.ref (ad 0), .int x] (CW θ ea ad n g b r V) (fun r0 Y => r0 = (-1000000002) ∧ Y = CW θ ea ad n g b r V) := by
  refine z_cI (by decide) rfl rfl (Nat.le_of_ble_eq_true rfl) (lv := [(0, .ref (ad 0)), (1, .int x)]) rfl (fun κ C E => ?_)
  refine z_aload_n C dX5_dusk_0 rfl (show zlk _ 0 = some (.ref (ad 0)) from rfl) ?_
  refine z_iload_n C dX5_dusk_1 rfl (show zlk _ 1 = some (.int x) from rfl) ?_
  refine z_callVi C (As := [.int x]) (rest := []) (c_X5_refusalOfDusks_1 l θ ea ad n g b r V x hx) gX5_dusk_X5_refusalOfDusks rfl 1 (by decide +kernel) (by decide) (by decide) 0 rfl rfl rfl rfl rfl (Nat.le_of_ble_eq_true rfl) dX5_dusk_2 ?_
  rintro _ _ ⟨rfl, rfl⟩
  refine z_istore_n C [(2, .int (-1000000002)), (0, .ref (ad 0)), (1, .int x)] dX5_dusk_5 rfl (by decide) rfl ?_
  refine z_iload_n C dX5_dusk_6 rfl (show zlk _ 2 = some (.int (-1000000002)) from rfl) ?_
  refine z_if_eq C 12 dX5_dusk_7 (by decide) (fun h => absurd h (by decide)) (fun _ => ?_)
  refine z_iload_n C dX5_dusk_10 rfl (show zlk _ 2 = some (.int (-1000000002)) from rfl) ?_
  exact E _ _ _ _ (⟨rfl, rfl⟩) (rfl) dX5_dusk_11

set_option maxHeartbeats 4000000 in
set_option maxRecDepth 100000 in
theorem c_X5_drift_1 (l : Launch) (θ : zH) (ea : Nat → Nat → Nat) (ad : Nat → Nat) (n : Nat → Nat) (g : Nat → Int32) (b : Nat → Bool) (r : Nat → Nat → Int32) (V : Nat → Ev) (x : Int32) (hx : m_in (Int32.toInt64 x) 1 (60) = false) : cI l yX5_drift wsX5_drift 5 θ [.ref (ad 0), .int x] (CW θ ea ad n g b r V) (fun r0 Y => r0 = (-1000000002) ∧ Y = CW θ ea ad n g b r V) := by
  refine z_cI (by decide) rfl rfl (Nat.le_of_ble_eq_true rfl) (lv := [(0, .ref (ad 0)), (1, .int x)]) rfl (fun κ C E => ?_)
  refine z_aload_n C dX5_drift_0 rfl (show zlk _ 0 = some (.ref (ad 0)) from rfl) ?_
  refine z_iload_n C dX5_drift_1 rfl (show zlk _ 1 = some (.int x) from rfl) ?_
  refine z_callVi C (As := [.int x]) (rest := []) (c_X5_refusalOfDusks_1 l θ ea ad n g b r V x hx) gX5_drift_X5_refusalOfDusks rfl 1 (by decide +kernel) (by decide) (by decide) 0 rfl rfl rfl rfl rfl (Nat.le_of_ble_eq_true rfl) dX5_drift_2 ?_
  rintro _ _ ⟨rfl, rfl⟩
  refine z_istore_n C [(2, .int (-1000000002)), (0, .ref (ad 0)), (1, .int x)] dX5_drift_5 rfl (by decide) rfl ?_
  refine z_iload_n C dX5_drift_6 rfl (show zlk _ 2 = some (.int (-1000000002)) from rfl) ?_
  refine z_if_eq C 12 dX5_drift_7 (by decide) (fun h => absurd h (by decide)) (fun _ => ?_)
  refine z_iload_n C dX5_drift_10 rfl (show zlk _ 2 = some (.int (-1000000002)) from rfl) ?_
  exact E _ _ _ _ (⟨rfl, rfl⟩) (rfl) dX5_drift_11

set_option maxHeartbeats 4000000 in
set_option maxRecDepth 100000 in
theorem c_X5_dusk_2 (l : Launch) (θ : zH) (ea : Nat → Nat → Nat) (ad : Nat → Nat) (n : Nat → Nat) (g : Nat → Int32) (b : Nat → Bool) (r : Nat → Nat → Int32) (V : Nat → Ev) (x : Int32) (hx : m_in (Int32.toInt64 x) 1 (60) = true) (hg : b 1 = false) : cI l yX5_dusk wsX5_dusk 5 θ [.ref (ad 0), .int x] (CW θ ea ad n g b r V) (fun r0 Y => r0 = (-1000000003) ∧ Y = CW θ ea ad n g b r V) := by
  refine z_cI (by decide) rfl rfl (Nat.le_of_ble_eq_true rfl) (lv := [(0, .ref (ad 0)), (1, .int x)]) rfl (fun κ C E => ?_)
  refine z_aload_n C dX5_dusk_0 rfl (show zlk _ 0 = some (.ref (ad 0)) from rfl) ?_
  refine z_iload_n C dX5_dusk_1 rfl (show zlk _ 1 = some (.int x) from rfl) ?_
  refine z_callVi C (As := [.int x]) (rest := []) (c_X5_refusalOfDusks_2 l θ ea ad n g b r V x hx hg) gX5_dusk_X5_refusalOfDusks rfl 1 (by decide +kernel) (by decide) (by decide) 0 rfl rfl rfl rfl rfl (Nat.le_of_ble_eq_true rfl) dX5_dusk_2 ?_
  rintro _ _ ⟨rfl, rfl⟩
  refine z_istore_n C [(2, .int (-1000000003)), (0, .ref (ad 0)), (1, .int x)] dX5_dusk_5 rfl (by decide) rfl ?_
  refine z_iload_n C dX5_dusk_6 rfl (show zlk _ 2 = some (.int (-1000000003)) from rfl) ?_
  refine z_if_eq C 12 dX5_dusk_7 (by decide) (fun h => absurd h (by decide)) (fun _ => ?_)
  refine z_iload_n C dX5_dusk_10 rfl (show zlk _ 2 = some (.int (-1000000003)) from rfl) ?_
  exact E _ _ _ _ (⟨rfl, rfl⟩) (rfl) dX5_dusk_11

set_option maxHeartbeats 4000000 in
set_option maxRecDepth 100000 in
theorem c_X5_drift_2 (l : Launch) (θ : zH) (ea : Nat → Nat → Nat) (ad : Nat → Nat) (n : Nat → Nat) (g : Nat → Int32) (b : Nat → Bool) (r : Nat → Nat → Int32) (V : Nat → Ev) (x : Int32) (hx : m_in (Int32.toInt64 x) 1 (60) = true) (hg : b 1 = false) : cI l yX5_drift wsX5_drift 5 θ [.ref (ad 0), .int x] (CW θ ea ad n g b r V) (fun r0 Y => r0 = (-1000000003) ∧ Y = CW θ ea ad n g b r V) := by
  refine z_cI (by decide) rfl rfl (Nat.le_of_ble_eq_true rfl) (lv := [(0, .ref (ad 0)), (1, .int x)]) rfl (fun κ C E => ?_)
  refine z_aload_n C dX5_drift_0 rfl (show zlk _ 0 = some (.ref (ad 0)) from rfl) ?_
  refine z_iload_n C dX5_drift_1 rfl (show zlk _ 1 = some (.int x) from rfl) ?_
  refine z_callVi C (As := [.int x]) (rest := []) (c_X5_refusalOfDusks_2 l θ ea ad n g b r V x hx hg) gX5_drift_X5_refusalOfDusks rfl 1 (by decide +kernel) (by decide) (by decide) 0 rfl rfl rfl rfl rfl (Nat.le_of_ble_eq_true rfl) dX5_drift_2 ?_
  rintro _ _ ⟨rfl, rfl⟩
  refine z_istore_n C [(2, .int (-1000000003)), (0, .ref (ad 0)), (1, .int x)] dX5_drift_5 rfl (by decide) rfl ?_
  refine z_iload_n C dX5_drift_6 rfl (show zlk _ 2 = some (.int (-1000000003)) from rfl) ?_
  refine z_if_eq C 12 dX5_drift_7 (by decide) (fun h => absurd h (by decide)) (fun _ => ?_)
  refine z_iload_n C dX5_drift_10 rfl (show zlk _ 2 = some (.int (-1000000003)) from rfl) ?_
  exact E _ _ _ _ (⟨rfl, rfl⟩) (rfl) dX5_drift_11

set_option maxHeartbeats 4000000 in
set_option maxRecDepth 100000 in
theorem c_X5_dusk_3 (l : Launch) (θ : zH) (ea : Nat → Nat → Nat) (ad : Nat → Nat) (n : Nat → Nat) (g : Nat → Int32) (b : Nat → Bool) (r : Nat → Nat → Int32) (V : Nat → Ev) (x : Int32) (hx : m_in (Int32.toInt64 x) 1 (60) = true) (hg : b 1 = true) (hd : n 13 < 2 ^ 30) (hl : 9000 < n 13) : cI l yX5_dusk wsX5_dusk 5 θ [.ref (ad 0), .int x] (CW θ ea ad n g b r V) (fun r0 Y => r0 = (-1000000004) ∧ Y = CW θ ea ad n g b r V) := by
  refine z_cI (by decide) rfl rfl (Nat.le_of_ble_eq_true rfl) (lv := [(0, .ref (ad 0)), (1, .int x)]) rfl (fun κ C E => ?_)
  refine z_aload_n C dX5_dusk_0 rfl (show zlk _ 0 = some (.ref (ad 0)) from rfl) ?_
  refine z_iload_n C dX5_dusk_1 rfl (show zlk _ 1 = some (.int x) from rfl) ?_
  refine z_callVi C (As := [.int x]) (rest := []) (c_X5_refusalOfDusks_3 l θ ea ad n g b r V x hx hg hd hl) gX5_dusk_X5_refusalOfDusks rfl 1 (by decide +kernel) (by decide) (by decide) 0 rfl rfl rfl rfl rfl (Nat.le_of_ble_eq_true rfl) dX5_dusk_2 ?_
  rintro _ _ ⟨rfl, rfl⟩
  refine z_istore_n C [(2, .int (-1000000004)), (0, .ref (ad 0)), (1, .int x)] dX5_dusk_5 rfl (by decide) rfl ?_
  refine z_iload_n C dX5_dusk_6 rfl (show zlk _ 2 = some (.int (-1000000004)) from rfl) ?_
  refine z_if_eq C 12 dX5_dusk_7 (by decide) (fun h => absurd h (by decide)) (fun _ => ?_)
  refine z_iload_n C dX5_dusk_10 rfl (show zlk _ 2 = some (.int (-1000000004)) from rfl) ?_
  exact E _ _ _ _ (⟨rfl, rfl⟩) (rfl) dX5_dusk_11

set_option maxHeartbeats 4000000 in
set_option maxRecDepth 100000 in
theorem c_X5_drift_3 (l : Launch) (θ : zH) (ea : Nat → Nat → Nat) (ad : Nat → Nat) (n : Nat → Nat) (g : Nat → Int32) (b : Nat → Bool) (r : Nat → Nat → Int32) (V : Nat → Ev) (x : Int32) (hx : m_in (Int32.toInt64 x) 1 (60) = true) (hg : b 1 = true) (hd : n 13 < 2 ^ 30) (hl : 9000 < n 13) : cI l yX5_drift wsX5_drift 5 θ [.ref (ad 0), .int x] (CW θ ea ad n g b r V) (fun r0 Y => r0 = (-1000000004) ∧ Y = CW θ ea ad n g b r V) := by
  refine z_cI (by decide) rfl rfl (Nat.le_of_ble_eq_true rfl) (lv := [(0, .ref (ad 0)), (1, .int x)]) rfl (fun κ C E => ?_)
  refine z_aload_n C dX5_drift_0 rfl (show zlk _ 0 = some (.ref (ad 0)) from rfl) ?_
  refine z_iload_n C dX5_drift_1 rfl (show zlk _ 1 = some (.int x) from rfl) ?_
  refine z_callVi C (As := [.int x]) (rest := []) (c_X5_refusalOfDusks_3 l θ ea ad n g b r V x hx hg hd hl) gX5_drift_X5_refusalOfDusks rfl 1 (by decide +kernel) (by decide) (by decide) 0 rfl rfl rfl rfl rfl (Nat.le_of_ble_eq_true rfl) dX5_drift_2 ?_
  rintro _ _ ⟨rfl, rfl⟩
  refine z_istore_n C [(2, .int (-1000000004)), (0, .ref (ad 0)), (1, .int x)] dX5_drift_5 rfl (by decide) rfl ?_
  refine z_iload_n C dX5_drift_6 rfl (show zlk _ 2 = some (.int (-1000000004)) from rfl) ?_
  refine z_if_eq C 12 dX5_drift_7 (by decide) (fun h => absurd h (by decide)) (fun _ => ?_)
  refine z_iload_n C dX5_drift_10 rfl (show zlk _ 2 = some (.int (-1000000004)) from rfl) ?_
  exact E _ _ _ _ (⟨rfl, rfl⟩) (rfl) dX5_drift_11

set_option maxHeartbeats 4000000 in
set_option maxRecDepth 100000 in
theorem c_X5_dusk_4 (l : Launch) (θ : zH) (ea : Nat → Nat → Nat) (ad : Nat → Nat) (n : Nat → Nat) (g : Nat → Int32) (b : Nat → Bool) (r : Nat → Nat → Int32) (V : Nat → Ev) (m : Nat) (hm : 1 ≤ m) (hm2 : m ≤ 60) (hW : n 11 ≤ 5) (hS : n 10 ≤ 6) (h9 : n 9 ≤ 30) (hz : n 14 ≤ 20) (hn : n 15 < 20) (hd : n 13 < 2 ^ 30) (hg : b 1 = true) (hl : n 13 ≤ 9000) (h17 : n 17 < 16) (h16 : n 16 ≤ 16) : cI l yX5_dusk wsX5_dusk 5 θ [.ref (ad 0), .int (nI m)] (CW θ ea ad n g b r V) (fun r0 Y => r0 = nI (eIt (n 10) (n 9) (n 11) (r 4) (nowE n g b r) m).1.2.2.2.2.2.2.1 ∧ Y = CW θ ea ad (cnv (n 0) (n 1) (n 2) (n 3) (n 4) (n 5) (n 6) (n 7) (n 8) (n 9) (n 10) (n 11) (n 12) ((eIt (n 10) (n 9) (n 11) (r 4) (nowE n g b r) m).1.2.2.2.2.2.1) ((eIt (n 10) (n 9) (n 11) (r 4) (nowE n g b r) m).1.2.2.2.2.2.2.1) ((eIt (n 10) (n 9) (n 11) (r 4) (nowE n g b r) m).1.2.2.2.2.2.2.2) (min (n 16 + 1) 16) ((n 17 + 1) % 16) (n 18) (n 19) (n 20)) (cgv (g 0) (g 1) (g 2) ((eIt (n 10) (n 9) (n 11) (r 4) (nowE n g b r) m).1.1) ((eIt (n 10) (n 9) (n 11) (r 4) (nowE n g b r) m).1.2.1) ((eIt (n 10) (n 9) (n 11) (r 4) (nowE n g b r) m).1.2.2.1) ((eIt (n 10) (n 9) (n 11) (r 4) (nowE n g b r) m).1.2.2.2.2.1)) (cbv (b 0) (b 1) ((eIt (n 10) (n 9) (n 11) (r 4) (nowE n g b r) m).1.2.2.2.1)) (crv (r 0) (r 1) (r 2) (r 3) (r 4) (r 5) (r 6) ((eIt (n 10) (n 9) (n 11) (r 4) (nowE n g b r) m).2.1) ((eIt (n 10) (n 9) (n 11) (r 4) (nowE n g b r) m).2.2.1) ((eIt (n 10) (n 9) (n 11) (r 4) (nowE n g b r) m).2.2.2.1) ((eIt (n 10) (n 9) (n 11) (r 4) (nowE n g b r) m).2.2.2.2.1) ((eIt (n 10) (n 9) (n 11) (r 4) (nowE n g b r) m).2.2.2.2.2.1) ((eIt (n 10) (n 9) (n 11) (r 4) (nowE n g b r) m).2.2.2.2.2.2) (r 13) (r 14) (r 15) (r 16) (r 17) (r 18)) (va_up V (2 + n 17) ((g 3, g 4, g 5, b 2, g 6, n 13, n 14, n 15), (va_cpy (r 7) (V (2 + n 17)).2.1 0 0 5, va_cpy (r 8) (V (2 + n 17)).2.2.1 0 0 5, va_cpy (r 9) (V (2 + n 17)).2.2.2.1 0 0 4, va_cpy (r 10) (V (2 + n 17)).2.2.2.2.1 0 0 20, va_cpy (r 11) (V (2 + n 17)).2.2.2.2.2.1 0 0 20, va_cpy (r 12) (V (2 + n 17)).2.2.2.2.2.2 0 0 20)))) := by
  have hx := m_in_m hm hm2
  have hok : eOk (nowE n g b r) := ⟨hz, hn⟩
  refine z_cI (by decide) rfl rfl (Nat.le_of_ble_eq_true rfl) (lv := [(0, .ref (ad 0)), (1, .int (nI m))]) rfl (fun κ C E => ?_)
  have hinX1 : ∀ w ∈ wsX10, w ∈ wsX5_dusk := by decide +kernel
  have hinX5 : ∀ w ∈ wsX50, w ∈ wsX5_dusk := by decide +kernel
  refine z_aload_n C dX5_dusk_0 rfl (show zlk _ 0 = some (.ref (ad 0)) from rfl) ?_
  refine z_iload_n C dX5_dusk_1 rfl (show zlk _ 1 = some (.int (nI m)) from rfl) ?_
  refine z_callVi C (As := [.int (nI m)]) (rest := []) (c_X5_refusalOfDusks_4 l θ ea ad n g b r V (nI m) hx hg hd hl) gX5_dusk_X5_refusalOfDusks rfl 1 (by decide +kernel) (by decide) (by decide) 0 rfl rfl rfl rfl rfl (Nat.le_of_ble_eq_true rfl) dX5_dusk_2 ?_
  rintro _ _ ⟨rfl, rfl⟩
  refine z_istore_n C [(2, .int (nI 0)), (0, .ref (ad 0)), (1, .int (nI m))] dX5_dusk_5 rfl (by decide) rfl ?_
  refine z_iload_n C dX5_dusk_6 rfl (show zlk _ 2 = some (.int (nI 0)) from rfl) ?_
  refine z_if_eqN C 12 dX5_dusk_7 (by decide) (by decide) (fun _ => ?_) (fun h => absurd h (by decide))
  refine z_aload_n C dX5_dusk_12 rfl (show zlk _ 0 = some (.ref (ad 0)) from rfl) ?_
  refine z_get C hinX5 0 cc_0 rfl 3 (by decide) (by decide +kernel) cg_0_3 dX5_dusk_13 ?_
  refine z_aload_n C dX5_dusk_16 rfl (show zlk _ 0 = some (.ref (ad 0)) from rfl) ?_
  refine z_get C hinX5 0 cc_0 rfl 2 (by decide) (by decide +kernel) cg_0_2 dX5_dusk_17 ?_
  refine z_callNv C (As := [.ref (ad 4)]) (rest := []) (host := "GnatPortraits") (c_X2_remember l θ ea ad n g b r V h17 h16) gX5_dusk_X2_remember_n192 rfl 1 (by decide +kernel) (by decide +kernel) (by decide +kernel) (by decide +kernel) (by decide +kernel) (by decide) (by decide) 5 rfl rfl rfl rfl rfl (Nat.le_of_ble_eq_true rfl) dX5_dusk_20 ?_
  rintro _ rfl
  refine z_X (Y := CW θ ea ad (cnv (n 0) (n 1) (n 2) (n 3) (n 4) (n 5) (n 6) (n 7) (n 8) (n 9) (n 10) (n 11) (n 12) (n 13) (n 14) (n 15) (min (n 16 + 1) 16) ((n 17 + 1) % 16) (n 18) (n 19) (n 20)) g b r (va_up V (2 + n 17) ((g 3, g 4, g 5, b 2, g 6, n 13, n 14, n 15), (va_cpy (r 7) (V (2 + n 17)).2.1 0 0 5, va_cpy (r 8) (V (2 + n 17)).2.2.1 0 0 5, va_cpy (r 9) (V (2 + n 17)).2.2.2.1 0 0 4, va_cpy (r 10) (V (2 + n 17)).2.2.2.2.1 0 0 20, va_cpy (r 11) (V (2 + n 17)).2.2.2.2.2.1 0 0 20, va_cpy (r 12) (V (2 + n 17)).2.2.2.2.2.2 0 0 20)))) (cw_eq rfl rfl rfl rfl rfl rfl rfl rfl rfl rfl rfl rfl rfl rfl rfl rfl rfl rfl rfl rfl rfl rfl rfl rfl rfl rfl rfl rfl rfl rfl rfl rfl rfl rfl rfl rfl rfl rfl rfl rfl rfl rfl rfl rfl rfl rfl rfl rfl rfl rfl rfl) ?_
  refine z_iconst C (v := nI 0) dX5_dusk_23 (by decide) ?_
  refine z_istore_n C [(3, .int (nI 0)), (2, .int (nI 0)), (0, .ref (ad 0)), (1, .int (nI m))] dX5_dusk_24 rfl (by decide) rfl ?_
  refine z_lv (lv' := [(0, .ref (ad 0)), (1, .int (nI m)), (3, .int (nI 0))]) rfl ?_
  refine z_X (Y := CW θ ea ad (cnv (n 0) (n 1) (n 2) (n 3) (n 4) (n 5) (n 6) (n 7) (n 8) (n 9) (n 10) (n 11) (n 12) ((eIt (n 10) (n 9) (n 11) (r 4) (nowE n g b r) 0).1.2.2.2.2.2.1) ((eIt (n 10) (n 9) (n 11) (r 4) (nowE n g b r) 0).1.2.2.2.2.2.2.1) ((eIt (n 10) (n 9) (n 11) (r 4) (nowE n g b r) 0).1.2.2.2.2.2.2.2) (min (n 16 + 1) 16) ((n 17 + 1) % 16) (n 18) (n 19) (n 20)) (cgv (g 0) (g 1) (g 2) ((eIt (n 10) (n 9) (n 11) (r 4) (nowE n g b r) 0).1.1) ((eIt (n 10) (n 9) (n 11) (r 4) (nowE n g b r) 0).1.2.1) ((eIt (n 10) (n 9) (n 11) (r 4) (nowE n g b r) 0).1.2.2.1) ((eIt (n 10) (n 9) (n 11) (r 4) (nowE n g b r) 0).1.2.2.2.2.1)) (cbv (b 0) (b 1) ((eIt (n 10) (n 9) (n 11) (r 4) (nowE n g b r) 0).1.2.2.2.1)) (crv (r 0) (r 1) (r 2) (r 3) (r 4) (r 5) (r 6) ((eIt (n 10) (n 9) (n 11) (r 4) (nowE n g b r) 0).2.1) ((eIt (n 10) (n 9) (n 11) (r 4) (nowE n g b r) 0).2.2.1) ((eIt (n 10) (n 9) (n 11) (r 4) (nowE n g b r) 0).2.2.2.1) ((eIt (n 10) (n 9) (n 11) (r 4) (nowE n g b r) 0).2.2.2.2.1) ((eIt (n 10) (n 9) (n 11) (r 4) (nowE n g b r) 0).2.2.2.2.2.1) ((eIt (n 10) (n 9) (n 11) (r 4) (nowE n g b r) 0).2.2.2.2.2.2) (r 13) (r 14) (r 15) (r 16) (r 17) (r 18)) (va_up V (2 + n 17) ((g 3, g 4, g 5, b 2, g 6, n 13, n 14, n 15), (va_cpy (r 7) (V (2 + n 17)).2.1 0 0 5, va_cpy (r 8) (V (2 + n 17)).2.2.1 0 0 5, va_cpy (r 9) (V (2 + n 17)).2.2.2.1 0 0 4, va_cpy (r 10) (V (2 + n 17)).2.2.2.2.1 0 0 20, va_cpy (r 11) (V (2 + n 17)).2.2.2.2.2.1 0 0 20, va_cpy (r 12) (V (2 + n 17)).2.2.2.2.2.2 0 0 20)))) (cw_eq rfl rfl rfl rfl rfl rfl rfl rfl rfl rfl rfl rfl rfl rfl rfl rfl rfl rfl rfl rfl rfl rfl rfl rfl rfl rfl rfl rfl rfl rfl rfl rfl rfl rfl rfl rfl rfl rfl rfl rfl rfl rfl rfl rfl rfl rfl rfl rfl rfl rfl rfl) ?_
  refine z_up (fun i => Z κ (CW θ ea ad (cnv (n 0) (n 1) (n 2) (n 3) (n 4) (n 5) (n 6) (n 7) (n 8) (n 9) (n 10) (n 11) (n 12) ((eIt (n 10) (n 9) (n 11) (r 4) (nowE n g b r) i).1.2.2.2.2.2.1) ((eIt (n 10) (n 9) (n 11) (r 4) (nowE n g b r) i).1.2.2.2.2.2.2.1) ((eIt (n 10) (n 9) (n 11) (r 4) (nowE n g b r) i).1.2.2.2.2.2.2.2) (min (n 16 + 1) 16) ((n 17 + 1) % 16) (n 18) (n 19) (n 20)) (cgv (g 0) (g 1) (g 2) ((eIt (n 10) (n 9) (n 11) (r 4) (nowE n g b r) i).1.1) ((eIt (n 10) (n 9) (n 11) (r 4) (nowE n g b r) i).1.2.1) ((eIt (n 10) (n 9) (n 11) (r 4) (nowE n g b r) i).1.2.2.1) ((eIt (n 10) (n 9) (n 11) (r 4) (nowE n g b r) i).1.2.2.2.2.1)) (cbv (b 0) (b 1) ((eIt (n 10) (n 9) (n 11) (r 4) (nowE n g b r) i).1.2.2.2.1)) (crv (r 0) (r 1) (r 2) (r 3) (r 4) (r 5) (r 6) ((eIt (n 10) (n 9) (n 11) (r 4) (nowE n g b r) i).2.1) ((eIt (n 10) (n 9) (n 11) (r 4) (nowE n g b r) i).2.2.1) ((eIt (n 10) (n 9) (n 11) (r 4) (nowE n g b r) i).2.2.2.1) ((eIt (n 10) (n 9) (n 11) (r 4) (nowE n g b r) i).2.2.2.2.1) ((eIt (n 10) (n 9) (n 11) (r 4) (nowE n g b r) i).2.2.2.2.2.1) ((eIt (n 10) (n 9) (n 11) (r 4) (nowE n g b r) i).2.2.2.2.2.2) (r 13) (r 14) (r 15) (r 16) (r 17) (r 18)) (va_up V (2 + n 17) ((g 3, g 4, g 5, b 2, g 6, n 13, n 14, n 15), (va_cpy (r 7) (V (2 + n 17)).2.1 0 0 5, va_cpy (r 8) (V (2 + n 17)).2.2.1 0 0 5, va_cpy (r 9) (V (2 + n 17)).2.2.2.1 0 0 4, va_cpy (r 10) (V (2 + n 17)).2.2.2.2.1 0 0 20, va_cpy (r 11) (V (2 + n 17)).2.2.2.2.2.1 0 0 20, va_cpy (r 12) (V (2 + n 17)).2.2.2.2.2.2 0 0 20)))) 25 [(0, .ref (ad 0)), (1, .int (nI m)), (3, .int (nI i))] []) (m) ?_ ?_ 0 (by omega)
  · refine z_iload_n C dX5_dusk_25 rfl (show zlk _ 3 = some (.int (nI m)) from rfl) ?_
    refine z_iload_n C dX5_dusk_26 rfl (show zlk _ 1 = some (.int (nI m)) from rfl) ?_
    refine z_icmp_geT C 40 dX5_dusk_27 (by decide) (by omega) (by omega) (by omega) ?_
    refine z_aload_n C dX5_dusk_40 rfl (show zlk _ 0 = some (.ref (ad 0)) from rfl) ?_
    refine z_get C hinX5 0 cc_0 rfl 2 (by decide) (by decide +kernel) cg_0_2 dX5_dusk_41 ?_
    refine z_getN C (host := "GnatPortraits") hinX1 4 cc_4 rfl 6 (by decide) (by decide +kernel) ch_4_6 dX5_dusk_44 ?_
    exact E _ _ _ _ (⟨rfl, (cw_eq rfl rfl rfl rfl rfl rfl rfl rfl rfl rfl rfl rfl rfl rfl rfl rfl rfl rfl rfl rfl rfl rfl rfl rfl rfl rfl rfl rfl rfl rfl rfl rfl rfl rfl rfl rfl rfl rfl rfl rfl rfl rfl rfl rfl rfl rfl rfl rfl rfl rfl rfl)⟩) (rfl) dX5_dusk_47
  · intro i hk25 ih25
    refine z_iload_n C dX5_dusk_25 rfl (show zlk _ 3 = some (.int (nI i)) from rfl) ?_
    refine z_iload_n C dX5_dusk_26 rfl (show zlk _ 1 = some (.int (nI m)) from rfl) ?_
    refine z_icmp_geF C 40 dX5_dusk_27 (by decide) (by omega) (by omega) (by omega) ?_
    refine z_aload_n C dX5_dusk_30 rfl (show zlk _ 0 = some (.ref (ad 0)) from rfl) ?_
    refine z_callVv C (As := []) (rest := []) (c_X5_passDusk l θ ea ad (cnv (n 0) (n 1) (n 2) (n 3) (n 4) (n 5) (n 6) (n 7) (n 8) (n 9) (n 10) (n 11) (n 12) ((eIt (n 10) (n 9) (n 11) (r 4) (nowE n g b r) i).1.2.2.2.2.2.1) ((eIt (n 10) (n 9) (n 11) (r 4) (nowE n g b r) i).1.2.2.2.2.2.2.1) ((eIt (n 10) (n 9) (n 11) (r 4) (nowE n g b r) i).1.2.2.2.2.2.2.2) (min (n 16 + 1) 16) ((n 17 + 1) % 16) (n 18) (n 19) (n 20)) (cgv (g 0) (g 1) (g 2) ((eIt (n 10) (n 9) (n 11) (r 4) (nowE n g b r) i).1.1) ((eIt (n 10) (n 9) (n 11) (r 4) (nowE n g b r) i).1.2.1) ((eIt (n 10) (n 9) (n 11) (r 4) (nowE n g b r) i).1.2.2.1) ((eIt (n 10) (n 9) (n 11) (r 4) (nowE n g b r) i).1.2.2.2.2.1)) (cbv (b 0) (b 1) ((eIt (n 10) (n 9) (n 11) (r 4) (nowE n g b r) i).1.2.2.2.1)) (crv (r 0) (r 1) (r 2) (r 3) (r 4) (r 5) (r 6) ((eIt (n 10) (n 9) (n 11) (r 4) (nowE n g b r) i).2.1) ((eIt (n 10) (n 9) (n 11) (r 4) (nowE n g b r) i).2.2.1) ((eIt (n 10) (n 9) (n 11) (r 4) (nowE n g b r) i).2.2.2.1) ((eIt (n 10) (n 9) (n 11) (r 4) (nowE n g b r) i).2.2.2.2.1) ((eIt (n 10) (n 9) (n 11) (r 4) (nowE n g b r) i).2.2.2.2.2.1) ((eIt (n 10) (n 9) (n 11) (r 4) (nowE n g b r) i).2.2.2.2.2.2) (r 13) (r 14) (r 15) (r 16) (r 17) (r 18)) (va_up V (2 + n 17) ((g 3, g 4, g 5, b 2, g 6, n 13, n 14, n 15), (va_cpy (r 7) (V (2 + n 17)).2.1 0 0 5, va_cpy (r 8) (V (2 + n 17)).2.2.1 0 0 5, va_cpy (r 9) (V (2 + n 17)).2.2.2.1 0 0 4, va_cpy (r 10) (V (2 + n 17)).2.2.2.2.1 0 0 20, va_cpy (r 11) (V (2 + n 17)).2.2.2.2.2.1 0 0 20, va_cpy (r 12) (V (2 + n 17)).2.2.2.2.2.2 0 0 20))) hW hS h9 (eIt_ok (S := n 10) (G := n 9) (W := n 11) (o := r 4) hok i).1 (eIt_ok (S := n 10) (G := n 9) (W := n 11) (o := r 4) hok i).2 (by have h := eIt_d (S := n 10) (G := n 9) (W := n 11) (o := r 4) (e := nowE n g b r) i; have h2 : (nowE n g b r).1.2.2.2.2.2.1 = n 13 := rfl; show (eIt (n 10) (n 9) (n 11) (r 4) (nowE n g b r) i).1.2.2.2.2.2.1 < 2 ^ 30; omega)) gX5_dusk_X5_passDusk rfl 0 (by decide +kernel) (by decide) (by decide) 0 rfl rfl rfl rfl rfl (Nat.le_of_ble_eq_true rfl) dX5_dusk_31 ?_
    rintro _ rfl
    refine z_X (Y := CW θ ea ad (cnv (n 0) (n 1) (n 2) (n 3) (n 4) (n 5) (n 6) (n 7) (n 8) (n 9) (n 10) (n 11) (n 12) ((ePass (n 10) (n 9) (n 11) (r 4) (eIt (n 10) (n 9) (n 11) (r 4) (nowE n g b r) i)).1.2.2.2.2.2.1) ((ePass (n 10) (n 9) (n 11) (r 4) (eIt (n 10) (n 9) (n 11) (r 4) (nowE n g b r) i)).1.2.2.2.2.2.2.1) ((ePass (n 10) (n 9) (n 11) (r 4) (eIt (n 10) (n 9) (n 11) (r 4) (nowE n g b r) i)).1.2.2.2.2.2.2.2) (min (n 16 + 1) 16) ((n 17 + 1) % 16) (n 18) (n 19) (n 20)) (cgv (g 0) (g 1) (g 2) ((ePass (n 10) (n 9) (n 11) (r 4) (eIt (n 10) (n 9) (n 11) (r 4) (nowE n g b r) i)).1.1) ((ePass (n 10) (n 9) (n 11) (r 4) (eIt (n 10) (n 9) (n 11) (r 4) (nowE n g b r) i)).1.2.1) ((ePass (n 10) (n 9) (n 11) (r 4) (eIt (n 10) (n 9) (n 11) (r 4) (nowE n g b r) i)).1.2.2.1) ((ePass (n 10) (n 9) (n 11) (r 4) (eIt (n 10) (n 9) (n 11) (r 4) (nowE n g b r) i)).1.2.2.2.2.1)) (cbv (b 0) (b 1) ((ePass (n 10) (n 9) (n 11) (r 4) (eIt (n 10) (n 9) (n 11) (r 4) (nowE n g b r) i)).1.2.2.2.1)) (crv (r 0) (r 1) (r 2) (r 3) (r 4) (r 5) (r 6) ((ePass (n 10) (n 9) (n 11) (r 4) (eIt (n 10) (n 9) (n 11) (r 4) (nowE n g b r) i)).2.1) ((ePass (n 10) (n 9) (n 11) (r 4) (eIt (n 10) (n 9) (n 11) (r 4) (nowE n g b r) i)).2.2.1) ((ePass (n 10) (n 9) (n 11) (r 4) (eIt (n 10) (n 9) (n 11) (r 4) (nowE n g b r) i)).2.2.2.1) ((ePass (n 10) (n 9) (n 11) (r 4) (eIt (n 10) (n 9) (n 11) (r 4) (nowE n g b r) i)).2.2.2.2.1) ((ePass (n 10) (n 9) (n 11) (r 4) (eIt (n 10) (n 9) (n 11) (r 4) (nowE n g b r) i)).2.2.2.2.2.1) ((ePass (n 10) (n 9) (n 11) (r 4) (eIt (n 10) (n 9) (n 11) (r 4) (nowE n g b r) i)).2.2.2.2.2.2) (r 13) (r 14) (r 15) (r 16) (r 17) (r 18)) (va_up V (2 + n 17) ((g 3, g 4, g 5, b 2, g 6, n 13, n 14, n 15), (va_cpy (r 7) (V (2 + n 17)).2.1 0 0 5, va_cpy (r 8) (V (2 + n 17)).2.2.1 0 0 5, va_cpy (r 9) (V (2 + n 17)).2.2.2.1 0 0 4, va_cpy (r 10) (V (2 + n 17)).2.2.2.2.1 0 0 20, va_cpy (r 11) (V (2 + n 17)).2.2.2.2.2.1 0 0 20, va_cpy (r 12) (V (2 + n 17)).2.2.2.2.2.2 0 0 20)))) (cw_eq rfl rfl rfl rfl rfl rfl rfl rfl rfl rfl rfl rfl rfl rfl rfl rfl rfl rfl rfl rfl rfl rfl rfl rfl rfl rfl rfl rfl rfl rfl rfl rfl rfl rfl rfl rfl rfl rfl rfl rfl rfl rfl rfl rfl rfl rfl rfl rfl rfl rfl rfl) ?_
    refine z_iincN C [(3, .int (nI (i + 1))), (0, .ref (ad 0)), (1, .int (nI m))] dX5_dusk_34 rfl (by decide) rfl ?_
    refine z_goto C 25 dX5_dusk_37 (by decide) ?_
    exact z_to (ih25) ((cw_eq rfl rfl rfl rfl rfl rfl rfl rfl rfl rfl rfl rfl rfl rfl rfl rfl rfl rfl rfl rfl rfl rfl rfl rfl rfl rfl rfl rfl rfl rfl rfl rfl rfl rfl rfl rfl rfl rfl rfl rfl rfl rfl rfl rfl rfl rfl rfl rfl rfl rfl rfl)) (rfl)

