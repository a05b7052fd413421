/-- an evening: wind, bats, eyes, rain, smoke, dusks, the album's size and next, six rows -/
abbrev Ev : Type := (Int32 × Int32 × Int32 × Bool × Int32 × Nat × Nat × Nat) × ((Nat → Int32) × (Nat → Int32) × (Nat → Int32) × (Nat → Int32) × (Nat → Int32) × (Nat → Int32))
def evc (θ : zH) (ea : Nat → Nat → Nat) (i : Nat) (e : Ev) : va_W := [(ea i 0, .inr (1, [.int e.1.1, .int e.1.2.1, .int e.1.2.2.1, .int (bI e.1.2.2.2.1), .int e.1.2.2.2.2.1, .int (nI e.1.2.2.2.2.2.1), .int (nI e.1.2.2.2.2.2.2.1), .int (nI e.1.2.2.2.2.2.2.2), .ref (ea i 1), .ref (ea i 2), .ref (ea i 3), .ref (ea i 4), .ref (ea i 5), .ref (ea i 6)])), (ea i 1, .inl (θ.2.1, 5, .inl e.2.1)), (ea i 2, .inl (θ.2.1, 5, .inl e.2.2.1)), (ea i 3, .inl (θ.2.1, 4, .inl e.2.2.2.1)), (ea i 4, .inl (θ.2.1, 20, .inl e.2.2.2.2.1)), (ea i 5, .inl (θ.2.1, 20, .inl e.2.2.2.2.2.1)), (ea i 6, .inl (θ.2.1, 20, .inl e.2.2.2.2.2.2))]
def evs (θ : zH) (ea : Nat → Nat → Nat) (E : Nat → Ev) : va_W := evc θ ea 0 (E 0) ++ (evc θ ea 1 (E 1) ++ (evc θ ea 2 (E 2) ++ (evc θ ea 3 (E 3) ++ (evc θ ea 4 (E 4) ++ (evc θ ea 5 (E 5) ++ (evc θ ea 6 (E 6) ++ (evc θ ea 7 (E 7) ++ (evc θ ea 8 (E 8) ++ (evc θ ea 9 (E 9) ++ (evc θ ea 10 (E 10) ++ (evc θ ea 11 (E 11) ++ (evc θ ea 12 (E 12) ++ (evc θ ea 13 (E 13) ++ (evc θ ea 14 (E 14) ++ (evc θ ea 15 (E 15) ++ (evc θ ea 16 (E 16) ++ (evc θ ea 17 (E 17))))))))))))))))))
def cf_0 (ad : Nat → Nat) (n : Nat → Nat) (g : Nat → Int32) (b : Nat → Bool) : List Value := [.ref (ad 1), .ref (ad 3), .ref (ad 4), .ref (ad 5), .ref (ad 6), .ref (ad 7), .ref (ad 8), .ref (ad 9), .ref (ad 10), .int (nI (n 0)), .int (nI (n 1)), .int (g 0), .int (g 1)]
def cf_1 (ad : Nat → Nat) (n : Nat → Nat) (g : Nat → Int32) (b : Nat → Bool) : List Value := [.ref (ad 11), .ref (ad 2), .int (nI (n 2)), .int (nI (n 3)), .int (nI (n 4)), .int (g 2)]
def cf_2 (ad : Nat → Nat) (n : Nat → Nat) (g : Nat → Int32) (b : Nat → Bool) : List Value := [.int (bI (b 0)), .int (nI (n 5)), .int (nI (n 6)), .int (nI (n 7)), .int (nI (n 8)), .ref (ad 12), .ref (ad 13), .ref (ad 14)]
def cf_3 (ad : Nat → Nat) (n : Nat → Nat) (g : Nat → Int32) (b : Nat → Bool) : List Value := [.int (bI (b 1)), .int (nI (n 9)), .int (nI (n 10)), .int (nI (n 11)), .int (nI (n 12)), .ref (ad 15), .ref (ad 16), .ref (ad 17)]
def cf_4 (ad : Nat → Nat) (n : Nat → Nat) (g : Nat → Int32) (b : Nat → Bool) : List Value := [.int (g 3), .int (g 4), .int (g 5), .int (bI (b 2)), .int (g 6), .int (nI (n 13)), .int (nI (n 14)), .int (nI (n 15)), .ref (ad 18), .ref (ad 19), .ref (ad 20), .ref (ad 21), .ref (ad 22), .ref (ad 23)]
def cf_5 (ad : Nat → Nat) (n : Nat → Nat) (g : Nat → Int32) (b : Nat → Bool) : List Value := [.ref (ad 24), .int (nI (n 16)), .int (nI (n 17))]
def cf_9 (ad : Nat → Nat) (n : Nat → Nat) (g : Nat → Int32) (b : Nat → Bool) : List Value := [.int (nI (n 18)), .int (nI (n 19)), .int (nI (n 20)), .ref (ad 25), .ref (ad 26), .ref (ad 27)]
def cfx (θ : zH) (ea : Nat → Nat → Nat) (ad : Nat → Nat) (n : Nat → Nat) (g : Nat → Int32) (b : Nat → Bool) (r : Nat → Nat → Int32) : va_W := [(ad 0, .inr (5, cf_0 ad n g b)), (ad 1, .inr (4, cf_1 ad n g b)), (ad 2, .inr (0, cf_2 ad n g b)), (ad 3, .inr (0, cf_3 ad n g b)), (ad 4, .inr (1, cf_4 ad n g b)), (ad 5, .inr (2, cf_5 ad n g b)), (ad 6, .inl (θ.2.2.2, 2, .inr (.inr (.inr (.inr (fun i => some (ea i 0))))))), (ad 7, .inl (θ.2.2.1, 2, .inl (r 18))), (ad 8, .inl (θ.2.1, 2, .inl (r 17))), (ad 9, .inr (3, cf_9 ad n g b)), (ad 10, .inl (θ.2.1, 6, .inl (r 16))), (ad 11, .inl (θ.2.1, 240, .inl (r 0))), (ad 12, .inl (θ.2.1, 6, .inl (r 1))), (ad 13, .inl (θ.2.1, 5, .inl (r 2))), (ad 14, .inl (θ.2.1, 6, .inl (r 3))), (ad 15, .inl (θ.2.1, 6, .inl (r 4))), (ad 16, .inl (θ.2.1, 5, .inl (r 5))), (ad 17, .inl (θ.2.1, 6, .inl (r 6))), (ad 18, .inl (θ.2.1, 5, .inl (r 7))), (ad 19, .inl (θ.2.1, 5, .inl (r 8))), (ad 20, .inl (θ.2.1, 4, .inl (r 9))), (ad 21, .inl (θ.2.1, 20, .inl (r 10))), (ad 22, .inl (θ.2.1, 20, .inl (r 11))), (ad 23, .inl (θ.2.1, 20, .inl (r 12))), (ad 24, .inl (θ.2.2.2, 16, .inr (.inr (.inr (.inr (fun i => some (ea (2 + i) 0))))))), (ad 25, .inl (θ.2.1, 30, .inl (r 13))), (ad 26, .inl (θ.2.1, 5, .inl (r 14))), (ad 27, .inl (θ.2.1, 5, .inl (r 15)))]
def CW (θ : zH) (ea : Nat → Nat → Nat) (ad : Nat → Nat) (n : Nat → Nat) (g : Nat → Int32) (b : Nat → Bool) (r : Nat → Nat → Int32) (E : Nat → Ev) : va_W := cfx θ ea ad n g b r ++ evs θ ea E
def cnv (a0 a1 a2 a3 a4 a5 a6 a7 a8 a9 a10 a11 a12 a13 a14 a15 a16 a17 a18 a19 a20 : Nat) : Nat → Nat := fun k => match k with
  | 0 => a0
  | 1 => a1
  | 2 => a2
  | 3 => a3
  | 4 => a4
  | 5 => a5
  | 6 => a6
  | 7 => a7
  | 8 => a8
  | 9 => a9
  | 10 => a10
  | 11 => a11
  | 12 => a12
  | 13 => a13
  | 14 => a14
  | 15 => a15
  | 16 => a16
  | 17 => a17
  | 18 => a18
  | 19 => a19
  | 20 => a20
  | _ => 0
def cgv (x0 x1 x2 x3 x4 x5 x6 : Int32) : Nat → Int32 := fun k => match k with
  | 0 => x0
  | 1 => x1
  | 2 => x2
  | 3 => x3
  | 4 => x4
  | 5 => x5
  | 6 => x6
  | _ => 0
def cbv (t0 t1 t2 : Bool) : Nat → Bool := fun k => match k with
  | 0 => t0
  | 1 => t1
  | 2 => t2
  | _ => false
def crv (f0 f1 f2 f3 f4 f5 f6 f7 f8 f9 f10 f11 f12 f13 f14 f15 f16 f17 f18 : Nat → Int32) : Nat → (Nat → Int32) := fun k => match k with
  | 0 => f0
  | 1 => f1
  | 2 => f2
  | 3 => f3
  | 4 => f4
  | 5 => f5
  | 6 => f6
  | 7 => f7
  | 8 => f8
  | 9 => f9
  | 10 => f10
  | 11 => f11
  | 12 => f12
  | 13 => f13
  | 14 => f14
  | 15 => f15
  | 16 => f16
  | 17 => f17
  | 18 => f18
  | _ => fun _ => 0
section CV
variable {θ : zH} {ea : Nat → Nat → Nat} {ad n n1 : Nat → Nat} {g g1 : Nat → Int32} {b b1 : Nat → Bool} {r r1 : Nat → Nat → Int32} {E E1 : Nat → Ev} {a0 a1 a2 a3 a4 a5 a6 a7 a8 a9 a10 a11 a12 a13 a14 a15 a16 a17 a18 a19 a20 : Nat} {x0 x1 x2 x3 x4 x5 x6 : Int32} {t0 t1 t2 : Bool} {f0 f1 f2 f3 f4 f5 f6 f7 f8 f9 f10 f11 f12 f13 f14 f15 f16 f17 f18 : Nat → Int32}
theorem cw_eq (h0 : n 0 = n1 0) (h1 : n 1 = n1 1) (h2 : n 2 = n1 2) (h3 : n 3 = n1 3) (h4 : n 4 = n1 4) (h5 : n 5 = n1 5) (h6 : n 6 = n1 6) (h7 : n 7 = n1 7) (h8 : n 8 = n1 8) (h9 : n 9 = n1 9) (h10 : n 10 = n1 10) (h11 : n 11 = n1 11) (h12 : n 12 = n1 12) (h13 : n 13 = n1 13) (h14 : n 14 = n1 14) (h15 : n 15 = n1 15) (h16 : n 16 = n1 16) (h17 : n 17 = n1 17) (h18 : n 18 = n1 18) (h19 : n 19 = n1 19) (h20 : n 20 = n1 20) (u0 : g 0 = g1 0) (u1 : g 1 = g1 1) (u2 : g 2 = g1 2) (u3 : g 3 = g1 3) (u4 : g 4 = g1 4) (u5 : g 5 = g1 5) (u6 : g 6 = g1 6) (v0 : b 0 = b1 0) (v1 : b 1 = b1 1) (v2 : b 2 = b1 2) (k0 : r 0 = r1 0) (k1 : r 1 = r1 1) (k2 : r 2 = r1 2) (k3 : r 3 = r1 3) (k4 : r 4 = r1 4) (k5 : r 5 = r1 5) (k6 : r 6 = r1 6) (k7 : r 7 = r1 7) (k8 : r 8 = r1 8) (k9 : r 9 = r1 9) (k10 : r 10 = r1 10) (k11 : r 11 = r1 11) (k12 : r 12 = r1 12) (k13 : r 13 = r1 13) (k14 : r 14 = r1 14) (k15 : r 15 = r1 15) (k16 : r 16 = r1 16) (k17 : r 17 = r1 17) (k18 : r 18 = r1 18) (he : E = E1) : CW θ ea ad n g b r E = CW θ ea ad n1 g1 b1 r1 E1 := by
  subst he
  unfold CW cfx cf_0 cf_1 cf_2 cf_3 cf_4 cf_5 cf_9
  rw [h0, h1, h2, h3, h4, h5, h6, h7, h8, h9, h10, h11, h12, h13, h14, h15, h16, h17, h18, h19, h20, u0, u1, u2, u3, u4, u5, u6, v0, v1, v2, k0, k1, k2, k3, k4, k5, k6, k7, k8, k9, k10, k11, k12, k13, k14, k15, k16, k17, k18]
theorem cc_0 : (CW θ ea ad n g b r E)[0]? = some (ad 0, .inr (5, cf_0 ad n g b)) := rfl
theorem cg_0_0 : (cf_0 ad n g b)[0]? = some (.ref (ad 1)) := rfl
theorem cg_0_1 : (cf_0 ad n g b)[1]? = some (.ref (ad 3)) := rfl
theorem cg_0_2 : (cf_0 ad n g b)[2]? = some (.ref (ad 4)) := rfl
theorem cg_0_3 : (cf_0 ad n g b)[3]? = some (.ref (ad 5)) := rfl
theorem cg_0_4 : (cf_0 ad n g b)[4]? = some (.ref (ad 6)) := rfl
theorem cg_0_5 : (cf_0 ad n g b)[5]? = some (.ref (ad 7)) := rfl
theorem cg_0_6 : (cf_0 ad n g b)[6]? = some (.ref (ad 8)) := rfl
theorem cg_0_7 : (cf_0 ad n g b)[7]? = some (.ref (ad 9)) := rfl
theorem cg_0_8 : (cf_0 ad n g b)[8]? = some (.ref (ad 10)) := rfl
theorem cg_0_9 : (cf_0 ad n g b)[9]? = some (.int (nI (n 0))) := rfl
theorem cv_0_9 {z : Nat} : (CW θ ea ad (cnv a0 a1 a2 a3 a4 a5 a6 a7 a8 a9 a10 a11 a12 a13 a14 a15 a16 a17 a18 a19 a20) g b r E).set 0 (ad 0, .inr (5, (cf_0 ad (cnv a0 a1 a2 a3 a4 a5 a6 a7 a8 a9 a10 a11 a12 a13 a14 a15 a16 a17 a18 a19 a20) g b).set 9 (.int (nI z)))) = CW θ ea ad (cnv z a1 a2 a3 a4 a5 a6 a7 a8 a9 a10 a11 a12 a13 a14 a15 a16 a17 a18 a19 a20) g b r E := rfl
theorem cp_0_9 {z : Nat} : (CW θ ea ad n g b r E).set 0 (ad 0, .inr (5, (cf_0 ad n g b).set 9 (.int (nI z)))) = CW θ ea ad (cnv z (n 1) (n 2) (n 3) (n 4) (n 5) (n 6) (n 7) (n 8) (n 9) (n 10) (n 11) (n 12) (n 13) (n 14) (n 15) (n 16) (n 17) (n 18) (n 19) (n 20)) g b r E := rfl
theorem ch_0_9 : (cf_0 ad (cnv a0 a1 a2 a3 a4 a5 a6 a7 a8 a9 a10 a11 a12 a13 a14 a15 a16 a17 a18 a19 a20) g b)[9]? = some (.int (nI a0)) := rfl
theorem cg_0_10 : (cf_0 ad n g b)[10]? = some (.int (nI (n 1))) := rfl
theorem cv_0_10 {z : Nat} : (CW θ ea ad (cnv a0 a1 a2 a3 a4 a5 a6 a7 a8 a9 a10 a11 a12 a13 a14 a15 a16 a17 a18 a19 a20) g b r E).set 0 (ad 0, .inr (5, (cf_0 ad (cnv a0 a1 a2 a3 a4 a5 a6 a7 a8 a9 a10 a11 a12 a13 a14 a15 a16 a17 a18 a19 a20) g b).set 10 (.int (nI z)))) = CW θ ea ad (cnv a0 z a2 a3 a4 a5 a6 a7 a8 a9 a10 a11 a12 a13 a14 a15 a16 a17 a18 a19 a20) g b r E := rfl
theorem cp_0_10 {z : Nat} : (CW θ ea ad n g b r E).set 0 (ad 0, .inr (5, (cf_0 ad n g b).set 10 (.int (nI z)))) = CW θ ea ad (cnv (n 0) z (n 2) (n 3) (n 4) (n 5) (n 6) (n 7) (n 8) (n 9) (n 10) (n 11) (n 12) (n 13) (n 14) (n 15) (n 16) (n 17) (n 18) (n 19) (n 20)) g b r E := rfl
theorem ch_0_10 : (cf_0 ad (cnv a0 a1 a2 a3 a4 a5 a6 a7 a8 a9 a10 a11 a12 a13 a14 a15 a16 a17 a18 a19 a20) g b)[10]? = some (.int (nI a1)) := rfl
theorem cg_0_11 : (cf_0 ad n g b)[11]? = some (.int (g 0)) := rfl
theorem cv_0_11 {z : Int32} : (CW θ ea ad n (cgv x0 x1 x2 x3 x4 x5 x6) b r E).set 0 (ad 0, .inr (5, (cf_0 ad n (cgv x0 x1 x2 x3 x4 x5 x6) b).set 11 (.int z))) = CW θ ea ad n (cgv z x1 x2 x3 x4 x5 x6) b r E := rfl
theorem cp_0_11 {z : Int32} : (CW θ ea ad n g b r E).set 0 (ad 0, .inr (5, (cf_0 ad n g b).set 11 (.int z))) = CW θ ea ad n (cgv z (g 1) (g 2) (g 3) (g 4) (g 5) (g 6)) b r E := rfl
theorem ch_0_11 : (cf_0 ad n (cgv x0 x1 x2 x3 x4 x5 x6) b)[11]? = some (.int x0) := rfl
theorem cg_0_12 : (cf_0 ad n g b)[12]? = some (.int (g 1)) := rfl
theorem cv_0_12 {z : Int32} : (CW θ ea ad n (cgv x0 x1 x2 x3 x4 x5 x6) b r E).set 0 (ad 0, .inr (5, (cf_0 ad n (cgv x0 x1 x2 x3 x4 x5 x6) b).set 12 (.int z))) = CW θ ea ad n (cgv x0 z x2 x3 x4 x5 x6) b r E := rfl
theorem cp_0_12 {z : Int32} : (CW θ ea ad n g b r E).set 0 (ad 0, .inr (5, (cf_0 ad n g b).set 12 (.int z))) = CW θ ea ad n (cgv (g 0) z (g 2) (g 3) (g 4) (g 5) (g 6)) b r E := rfl
theorem ch_0_12 : (cf_0 ad n (cgv x0 x1 x2 x3 x4 x5 x6) b)[12]? = some (.int x1) := rfl
theorem cc_1 : (CW θ ea ad n g b r E)[1]? = some (ad 1, .inr (4, cf_1 ad n g b)) := rfl
theorem cg_1_0 : (cf_1 ad n g b)[0]? = some (.ref (ad 11)) := rfl
theorem cg_1_1 : (cf_1 ad n g b)[1]? = some (.ref (ad 2)) := rfl
theorem cg_1_2 : (cf_1 ad n g b)[2]? = some (.int (nI (n 2))) := rfl
theorem cv_1_2 {z : Nat} : (CW θ ea ad (cnv a0 a1 a2 a3 a4 a5 a6 a7 a8 a9 a10 a11 a12 a13 a14 a15 a16 a17 a18 a19 a20) g b r E).set 1 (ad 1, .inr (4, (cf_1 ad (cnv a0 a1 a2 a3 a4 a5 a6 a7 a8 a9 a10 a11 a12 a13 a14 a15 a16 a17 a18 a19 a20) g b).set 2 (.int (nI z)))) = CW θ ea ad (cnv a0 a1 z a3 a4 a5 a6 a7 a8 a9 a10 a11 a12 a13 a14 a15 a16 a17 a18 a19 a20) g b r E := rfl
theorem cp_1_2 {z : Nat} : (CW θ ea ad n g b r E).set 1 (ad 1, .inr (4, (cf_1 ad n g b).set 2 (.int (nI z)))) = CW θ ea ad (cnv (n 0) (n 1) z (n 3) (n 4) (n 5) (n 6) (n 7) (n 8) (n 9) (n 10) (n 11) (n 12) (n 13) (n 14) (n 15) (n 16) (n 17) (n 18) (n 19) (n 20)) g b r E := rfl
theorem ch_1_2 : (cf_1 ad (cnv a0 a1 a2 a3 a4 a5 a6 a7 a8 a9 a10 a11 a12 a13 a14 a15 a16 a17 a18 a19 a20) g b)[2]? = some (.int (nI a2)) := rfl
theorem cg_1_3 : (cf_1 ad n g b)[3]? = some (.int (nI (n 3))) := rfl
theorem cv_1_3 {z : Nat} : (CW θ ea ad (cnv a0 a1 a2 a3 a4 a5 a6 a7 a8 a9 a10 a11 a12 a13 a14 a15 a16 a17 a18 a19 a20) g b r E).set 1 (ad 1, .inr (4, (cf_1 ad (cnv a0 a1 a2 a3 a4 a5 a6 a7 a8 a9 a10 a11 a12 a13 a14 a15 a16 a17 a18 a19 a20) g b).set 3 (.int (nI z)))) = CW θ ea ad (cnv a0 a1 a2 z a4 a5 a6 a7 a8 a9 a10 a11 a12 a13 a14 a15 a16 a17 a18 a19 a20) g b r E := rfl
theorem cp_1_3 {z : Nat} : (CW θ ea ad n g b r E).set 1 (ad 1, .inr (4, (cf_1 ad n g b).set 3 (.int (nI z)))) = CW θ ea ad (cnv (n 0) (n 1) (n 2) z (n 4) (n 5) (n 6) (n 7) (n 8) (n 9) (n 10) (n 11) (n 12) (n 13) (n 14) (n 15) (n 16) (n 17) (n 18) (n 19) (n 20)) g b r E := rfl
theorem ch_1_3 : (cf_1 ad (cnv a0 a1 a2 a3 a4 a5 a6 a7 a8 a9 a10 a11 a12 a13 a14 a15 a16 a17 a18 a19 a20) g b)[3]? = some (.int (nI a3)) := rfl
theorem cg_1_4 : (cf_1 ad n g b)[4]? = some (.int (nI (n 4))) := rfl
theorem cv_1_4 {z : Nat} : (CW θ ea ad (cnv a0 a1 a2 a3 a4 a5 a6 a7 a8 a9 a10 a11 a12 a13 a14 a15 a16 a17 a18 a19 a20) g b r E).set 1 (ad 1, .inr (4, (cf_1 ad (cnv a0 a1 a2 a3 a4 a5 a6 a7 a8 a9 a10 a11 a12 a13 a14 a15 a16 a17 a18 a19 a20) g b).set 4 (.int (nI z)))) = CW θ ea ad (cnv a0 a1 a2 a3 z a5 a6 a7 a8 a9 a10 a11 a12 a13 a14 a15 a16 a17 a18 a19 a20) g b r E := rfl
theorem cp_1_4 {z : Nat} : (CW θ ea ad n g b r E).set 1 (ad 1, .inr (4, (cf_1 ad n g b).set 4 (.int (nI z)))) = CW θ ea ad (cnv (n 0) (n 1) (n 2) (n 3) z (n 5) (n 6) (n 7) (n 8) (n 9) (n 10) (n 11) (n 12) (n 13) (n 14) (n 15) (n 16) (n 17) (n 18) (n 19) (n 20)) g b r E := rfl
theorem ch_1_4 : (cf_1 ad (cnv a0 a1 a2 a3 a4 a5 a6 a7 a8 a9 a10 a11 a12 a13 a14 a15 a16 a17 a18 a19 a20) g b)[4]? = some (.int (nI a4)) := rfl
theorem cg_1_5 : (cf_1 ad n g b)[5]? = some (.int (g 2)) := rfl
theorem cv_1_5 {z : Int32} : (CW θ ea ad n (cgv x0 x1 x2 x3 x4 x5 x6) b r E).set 1 (ad 1, .inr (4, (cf_1 ad n (cgv x0 x1 x2 x3 x4 x5 x6) b).set 5 (.int z))) = CW θ ea ad n (cgv x0 x1 z x3 x4 x5 x6) b r E := rfl
theorem cp_1_5 {z : Int32} : (CW θ ea ad n g b r E).set 1 (ad 1, .inr (4, (cf_1 ad n g b).set 5 (.int z))) = CW θ ea ad n (cgv (g 0) (g 1) z (g 3) (g 4) (g 5) (g 6)) b r E := rfl
theorem ch_1_5 : (cf_1 ad n (cgv x0 x1 x2 x3 x4 x5 x6) b)[5]? = some (.int x2) := rfl
theorem cc_2 : (CW θ ea ad n g b r E)[2]? = some (ad 2, .inr (0, cf_2 ad n g b)) := rfl
theorem cg_2_0 : (cf_2 ad n g b)[0]? = some (.int (bI (b 0))) := rfl
theorem cv_2_0 {z : Bool} : (CW θ ea ad n g (cbv t0 t1 t2) r E).set 2 (ad 2, .inr (0, (cf_2 ad n g (cbv t0 t1 t2)).set 0 (.int (bI z)))) = CW θ ea ad n g (cbv z t1 t2) r E := rfl
theorem cp_2_0 {z : Bool} : (CW θ ea ad n g b r E).set 2 (ad 2, .inr (0, (cf_2 ad n g b).set 0 (.int (bI z)))) = CW θ ea ad n g (cbv z (b 1) (b 2)) r E := rfl
theorem ch_2_0 : (cf_2 ad n g (cbv t0 t1 t2))[0]? = some (.int (bI t0)) := rfl
theorem cg_2_1 : (cf_2 ad n g b)[1]? = some (.int (nI (n 5))) := rfl
theorem cv_2_1 {z : Nat} : (CW θ ea ad (cnv a0 a1 a2 a3 a4 a5 a6 a7 a8 a9 a10 a11 a12 a13 a14 a15 a16 a17 a18 a19 a20) g b r E).set 2 (ad 2, .inr (0, (cf_2 ad (cnv a0 a1 a2 a3 a4 a5 a6 a7 a8 a9 a10 a11 a12 a13 a14 a15 a16 a17 a18 a19 a20) g b).set 1 (.int (nI z)))) = CW θ ea ad (cnv a0 a1 a2 a3 a4 z a6 a7 a8 a9 a10 a11 a12 a13 a14 a15 a16 a17 a18 a19 a20) g b r E := rfl
theorem cp_2_1 {z : Nat} : (CW θ ea ad n g b r E).set 2 (ad 2, .inr (0, (cf_2 ad n g b).set 1 (.int (nI z)))) = CW θ ea ad (cnv (n 0) (n 1) (n 2) (n 3) (n 4) z (n 6) (n 7) (n 8) (n 9) (n 10) (n 11) (n 12) (n 13) (n 14) (n 15) (n 16) (n 17) (n 18) (n 19) (n 20)) g b r E := rfl
theorem ch_2_1 : (cf_2 ad (cnv a0 a1 a2 a3 a4 a5 a6 a7 a8 a9 a10 a11 a12 a13 a14 a15 a16 a17 a18 a19 a20) g b)[1]? = some (.int (nI a5)) := rfl
theorem cg_2_2 : (cf_2 ad n g b)[2]? = some (.int (nI (n 6))) := rfl
theorem cv_2_2 {z : Nat} : (CW θ ea ad (cnv a0 a1 a2 a3 a4 a5 a6 a7 a8 a9 a10 a11 a12 a13 a14 a15 a16 a17 a18 a19 a20) g b r E).set 2 (ad 2, .inr (0, (cf_2 ad (cnv a0 a1 a2 a3 a4 a5 a6 a7 a8 a9 a10 a11 a12 a13 a14 a15 a16 a17 a18 a19 a20) g b).set 2 (.int (nI z)))) = CW θ ea ad (cnv a0 a1 a2 a3 a4 a5 z a7 a8 a9 a10 a11 a12 a13 a14 a15 a16 a17 a18 a19 a20) g b r E := rfl
theorem cp_2_2 {z : Nat} : (CW θ ea ad n g b r E).set 2 (ad 2, .inr (0, (cf_2 ad n g b).set 2 (.int (nI z)))) = CW θ ea ad (cnv (n 0) (n 1) (n 2) (n 3) (n 4) (n 5) z (n 7) (n 8) (n 9) (n 10) (n 11) (n 12) (n 13) (n 14) (n 15) (n 16) (n 17) (n 18) (n 19) (n 20)) g b r E := rfl
theorem ch_2_2 : (cf_2 ad (cnv a0 a1 a2 a3 a4 a5 a6 a7 a8 a9 a10 a11 a12 a13 a14 a15 a16 a17 a18 a19 a20) g b)[2]? = some (.int (nI a6)) := rfl
theorem cg_2_3 : (cf_2 ad n g b)[3]? = some (.int (nI (n 7))) := rfl
theorem cv_2_3 {z : Nat} : (CW θ ea ad (cnv a0 a1 a2 a3 a4 a5 a6 a7 a8 a9 a10 a11 a12 a13 a14 a15 a16 a17 a18 a19 a20) g b r E).set 2 (ad 2, .inr (0, (cf_2 ad (cnv a0 a1 a2 a3 a4 a5 a6 a7 a8 a9 a10 a11 a12 a13 a14 a15 a16 a17 a18 a19 a20) g b).set 3 (.int (nI z)))) = CW θ ea ad (cnv a0 a1 a2 a3 a4 a5 a6 z a8 a9 a10 a11 a12 a13 a14 a15 a16 a17 a18 a19 a20) g b r E := rfl
theorem cp_2_3 {z : Nat} : (CW θ ea ad n g b r E).set 2 (ad 2, .inr (0, (cf_2 ad n g b).set 3 (.int (nI z)))) = CW θ ea ad (cnv (n 0) (n 1) (n 2) (n 3) (n 4) (n 5) (n 6) z (n 8) (n 9) (n 10) (n 11) (n 12) (n 13) (n 14) (n 15) (n 16) (n 17) (n 18) (n 19) (n 20)) g b r E := rfl
theorem ch_2_3 : (cf_2 ad (cnv a0 a1 a2 a3 a4 a5 a6 a7 a8 a9 a10 a11 a12 a13 a14 a15 a16 a17 a18 a19 a20) g b)[3]? = some (.int (nI a7)) := rfl
theorem cg_2_4 : (cf_2 ad n g b)[4]? = some (.int (nI (n 8))) := rfl
theorem cv_2_4 {z : Nat} : (CW θ ea ad (cnv a0 a1 a2 a3 a4 a5 a6 a7 a8 a9 a10 a11 a12 a13 a14 a15 a16 a17 a18 a19 a20) g b r E).set 2 (ad 2, .inr (0, (cf_2 ad (cnv a0 a1 a2 a3 a4 a5 a6 a7 a8 a9 a10 a11 a12 a13 a14 a15 a16 a17 a18 a19 a20) g b).set 4 (.int (nI z)))) = CW θ ea ad (cnv a0 a1 a2 a3 a4 a5 a6 a7 z a9 a10 a11 a12 a13 a14 a15 a16 a17 a18 a19 a20) g b r E := rfl
theorem cp_2_4 {z : Nat} : (CW θ ea ad n g b r E).set 2 (ad 2, .inr (0, (cf_2 ad n g b).set 4 (.int (nI z)))) = CW θ ea ad (cnv (n 0) (n 1) (n 2) (n 3) (n 4) (n 5) (n 6) (n 7) z (n 9) (n 10) (n 11) (n 12) (n 13) (n 14) (n 15) (n 16) (n 17) (n 18) (n 19) (n 20)) g b r E := rfl
theorem ch_2_4 : (cf_2 ad (cnv a0 a1 a2 a3 a4 a5 a6 a7 a8 a9 a10 a11 a12 a13 a14 a15 a16 a17 a18 a19 a20) g b)[4]? = some (.int (nI a8)) := rfl
theorem cg_2_5 : (cf_2 ad n g b)[5]? = some (.ref (ad 12)) := rfl
theorem cg_2_6 : (cf_2 ad n g b)[6]? = some (.ref (ad 13)) := rfl
theorem cg_2_7 : (cf_2 ad n g b)[7]? = some (.ref (ad 14)) := rfl
theorem cc_3 : (CW θ ea ad n g b r E)[3]? = some (ad 3, .inr (0, cf_3 ad n g b)) := rfl
theorem cg_3_0 : (cf_3 ad n g b)[0]? = some (.int (bI (b 1))) := rfl
theorem cv_3_0 {z : Bool} : (CW θ ea ad n g (cbv t0 t1 t2) r E).set 3 (ad 3, .inr (0, (cf_3 ad n g (cbv t0 t1 t2)).set 0 (.int (bI z)))) = CW θ ea ad n g (cbv t0 z t2) r E := rfl
theorem cp_3_0 {z : Bool} : (CW θ ea ad n g b r E).set 3 (ad 3, .inr (0, (cf_3 ad n g b).set 0 (.int (bI z)))) = CW θ ea ad n g (cbv (b 0) z (b 2)) r E := rfl
theorem ch_3_0 : (cf_3 ad n g (cbv t0 t1 t2))[0]? = some (.int (bI t1)) := rfl
theorem cg_3_1 : (cf_3 ad n g b)[1]? = some (.int (nI (n 9))) := rfl
theorem cv_3_1 {z : Nat} : (CW θ ea ad (cnv a0 a1 a2 a3 a4 a5 a6 a7 a8 a9 a10 a11 a12 a13 a14 a15 a16 a17 a18 a19 a20) g b r E).set 3 (ad 3, .inr (0, (cf_3 ad (cnv a0 a1 a2 a3 a4 a5 a6 a7 a8 a9 a10 a11 a12 a13 a14 a15 a16 a17 a18 a19 a20) g b).set 1 (.int (nI z)))) = CW θ ea ad (cnv a0 a1 a2 a3 a4 a5 a6 a7 a8 z a10 a11 a12 a13 a14 a15 a16 a17 a18 a19 a20) g b r E := rfl
theorem cp_3_1 {z : Nat} : (CW θ ea ad n g b r E).set 3 (ad 3, .inr (0, (cf_3 ad n g b).set 1 (.int (nI z)))) = CW θ ea ad (cnv (n 0) (n 1) (n 2) (n 3) (n 4) (n 5) (n 6) (n 7) (n 8) z (n 10) (n 11) (n 12) (n 13) (n 14) (n 15) (n 16) (n 17) (n 18) (n 19) (n 20)) g b r E := rfl
theorem ch_3_1 : (cf_3 ad (cnv a0 a1 a2 a3 a4 a5 a6 a7 a8 a9 a10 a11 a12 a13 a14 a15 a16 a17 a18 a19 a20) g b)[1]? = some (.int (nI a9)) := rfl
theorem cg_3_2 : (cf_3 ad n g b)[2]? = some (.int (nI (n 10))) := rfl
theorem cv_3_2 {z : Nat} : (CW θ ea ad (cnv a0 a1 a2 a3 a4 a5 a6 a7 a8 a9 a10 a11 a12 a13 a14 a15 a16 a17 a18 a19 a20) g b r E).set 3 (ad 3, .inr (0, (cf_3 ad (cnv a0 a1 a2 a3 a4 a5 a6 a7 a8 a9 a10 a11 a12 a13 a14 a15 a16 a17 a18 a19 a20) g b).set 2 (.int (nI z)))) = CW θ ea ad (cnv a0 a1 a2 a3 a4 a5 a6 a7 a8 a9 z a11 a12 a13 a14 a15 a16 a17 a18 a19 a20) g b r E := rfl
theorem cp_3_2 {z : Nat} : (CW θ ea ad n g b r E).set 3 (ad 3, .inr (0, (cf_3 ad n g b).set 2 (.int (nI z)))) = CW θ ea ad (cnv (n 0) (n 1) (n 2) (n 3) (n 4) (n 5) (n 6) (n 7) (n 8) (n 9) z (n 11) (n 12) (n 13) (n 14) (n 15) (n 16) (n 17) (n 18) (n 19) (n 20)) g b r E := rfl
theorem ch_3_2 : (cf_3 ad (cnv a0 a1 a2 a3 a4 a5 a6 a7 a8 a9 a10 a11 a12 a13 a14 a15 a16 a17 a18 a19 a20) g b)[2]? = some (.int (nI a10)) := rfl
theorem cg_3_3 : (cf_3 ad n g b)[3]? = some (.int (nI (n 11))) := rfl
theorem cv_3_3 {z : Nat} : (CW θ ea ad (cnv a0 a1 a2 a3 a4 a5 a6 a7 a8 a9 a10 a11 a12 a13 a14 a15 a16 a17 a18 a19 a20) g b r E).set 3 (ad 3, .inr (0, (cf_3 ad (cnv a0 a1 a2 a3 a4 a5 a6 a7 a8 a9 a10 a11 a12 a13 a14 a15 a16 a17 a18 a19 a20) g b).set 3 (.int (nI z)))) = CW θ ea ad (cnv a0 a1 a2 a3 a4 a5 a6 a7 a8 a9 a10 z a12 a13 a14 a15 a16 a17 a18 a19 a20) g b r E := rfl
theorem cp_3_3 {z : Nat} : (CW θ ea ad n g b r E).set 3 (ad 3, .inr (0, (cf_3 ad n g b).set 3 (.int (nI z)))) = CW θ ea ad (cnv (n 0) (n 1) (n 2) (n 3) (n 4) (n 5) (n 6) (n 7) (n 8) (n 9) (n 10) z (n 12) (n 13) (n 14) (n 15) (n 16) (n 17) (n 18) (n 19) (n 20)) g b r E := rfl
theorem ch_3_3 : (cf_3 ad (cnv a0 a1 a2 a3 a4 a5 a6 a7 a8 a9 a10 a11 a12 a13 a14 a15 a16 a17 a18 a19 a20) g b)[3]? = some (.int (nI a11)) := rfl
theorem cg_3_4 : (cf_3 ad n g b)[4]? = some (.int (nI (n 12))) := rfl
theorem cv_3_4 {z : Nat} : (CW θ ea ad (cnv a0 a1 a2 a3 a4 a5 a6 a7 a8 a9 a10 a11 a12 a13 a14 a15 a16 a17 a18 a19 a20) g b r E).set 3 (ad 3, .inr (0, (cf_3 ad (cnv a0 a1 a2 a3 a4 a5 a6 a7 a8 a9 a10 a11 a12 a13 a14 a15 a16 a17 a18 a19 a20) g b).set 4 (.int (nI z)))) = CW θ ea ad (cnv a0 a1 a2 a3 a4 a5 a6 a7 a8 a9 a10 a11 z a13 a14 a15 a16 a17 a18 a19 a20) g b r E := rfl
theorem cp_3_4 {z : Nat} : (CW θ ea ad n g b r E).set 3 (ad 3, .inr (0, (cf_3 ad n g b).set 4 (.int (nI z)))) = CW θ ea ad (cnv (n 0) (n 1) (n 2) (n 3) (n 4) (n 5) (n 6) (n 7) (n 8) (n 9) (n 10) (n 11) z (n 13) (n 14) (n 15) (n 16) (n 17) (n 18) (n 19) (n 20)) g b r E := rfl
theorem ch_3_4 : (cf_3 ad (cnv a0 a1 a2 a3 a4 a5 a6 a7 a8 a9 a10 a11 a12 a13 a14 a15 a16 a17 a18 a19 a20) g b)[4]? = some (.int (nI a12)) := rfl
theorem cg_3_5 : (cf_3 ad n g b)[5]? = some (.ref (ad 15)) := rfl
theorem cg_3_6 : (cf_3 ad n g b)[6]? = some (.ref (ad 16)) := rfl
theorem cg_3_7 : (cf_3 ad n g b)[7]? = some (.ref (ad 17)) := rfl
theorem cc_4 : (CW θ ea ad n g b r E)[4]? = some (ad 4, .inr (1, cf_4 ad n g b)) := rfl
theorem cg_4_0 : (cf_4 ad n g b)[0]? = some (.int (g 3)) := rfl
theorem cv_4_0 {z : Int32} : (CW θ ea ad n (cgv x0 x1 x2 x3 x4 x5 x6) b r E).set 4 (ad 4, .inr (1, (cf_4 ad n (cgv x0 x1 x2 x3 x4 x5 x6) b).set 0 (.int z))) = CW θ ea ad n (cgv x0 x1 x2 z x4 x5 x6) b r E := rfl
theorem cp_4_0 {z : Int32} : (CW θ ea ad n g b r E).set 4 (ad 4, .inr (1, (cf_4 ad n g b).set 0 (.int z))) = CW θ ea ad n (cgv (g 0) (g 1) (g 2) z (g 4) (g 5) (g 6)) b r E := rfl
theorem ch_4_0 : (cf_4 ad n (cgv x0 x1 x2 x3 x4 x5 x6) b)[0]? = some (.int x3) := rfl
theorem cg_4_1 : (cf_4 ad n g b)[1]? = some (.int (g 4)) := rfl
theorem cv_4_1 {z : Int32} : (CW θ ea ad n (cgv x0 x1 x2 x3 x4 x5 x6) b r E).set 4 (ad 4, .inr (1, (cf_4 ad n (cgv x0 x1 x2 x3 x4 x5 x6) b).set 1 (.int z))) = CW θ ea ad n (cgv x0 x1 x2 x3 z x5 x6) b r E := rfl
theorem cp_4_1 {z : Int32} : (CW θ ea ad n g b r E).set 4 (ad 4, .inr (1, (cf_4 ad n g b).set 1 (.int z))) = CW θ ea ad n (cgv (g 0) (g 1) (g 2) (g 3) z (g 5) (g 6)) b r E := rfl
theorem ch_4_1 : (cf_4 ad n (cgv x0 x1 x2 x3 x4 x5 x6) b)[1]? = some (.int x4) := rfl
theorem cg_4_2 : (cf_4 ad n g b)[2]? = some (.int (g 5)) := rfl
theorem cv_4_2 {z : Int32} : (CW θ ea ad n (cgv x0 x1 x2 x3 x4 x5 x6) b r E).set 4 (ad 4, .inr (1, (cf_4 ad n (cgv x0 x1 x2 x3 x4 x5 x6) b).set 2 (.int z))) = CW θ ea ad n (cgv x0 x1 x2 x3 x4 z x6) b r E := rfl
theorem cp_4_2 {z : Int32} : (CW θ ea ad n g b r E).set 4 (ad 4, .inr (1, (cf_4 ad n g b).set 2 (.int z))) = CW θ ea ad n (cgv (g 0) (g 1) (g 2) (g 3) (g 4) z (g 6)) b r E := rfl
theorem ch_4_2 : (cf_4 ad n (cgv x0 x1 x2 x3 x4 x5 x6) b)[2]? = some (.int x5) := rfl
theorem cg_4_3 : (cf_4 ad n g b)[3]? = some (.int (bI (b 2))) := rfl
theorem cv_4_3 {z : Bool} : (CW θ ea ad n g (cbv t0 t1 t2) r E).set 4 (ad 4, .inr (1, (cf_4 ad n g (cbv t0 t1 t2)).set 3 (.int (bI z)))) = CW θ ea ad n g (cbv t0 t1 z) r E := rfl
theorem cp_4_3 {z : Bool} : (CW θ ea ad n g b r E).set 4 (ad 4, .inr (1, (cf_4 ad n g b).set 3 (.int (bI z)))) = CW θ ea ad n g (cbv (b 0) (b 1) z) r E := rfl
theorem ch_4_3 : (cf_4 ad n g (cbv t0 t1 t2))[3]? = some (.int (bI t2)) := rfl
theorem cg_4_4 : (cf_4 ad n g b)[4]? = some (.int (g 6)) := rfl
theorem cv_4_4 {z : Int32} : (CW θ ea ad n (cgv x0 x1 x2 x3 x4 x5 x6) b r E).set 4 (ad 4, .inr (1, (cf_4 ad n (cgv x0 x1 x2 x3 x4 x5 x6) b).set 4 (.int z))) = CW θ ea ad n (cgv x0 x1 x2 x3 x4 x5 z) b r E := rfl
theorem cp_4_4 {z : Int32} : (CW θ ea ad n g b r E).set 4 (ad 4, .inr (1, (cf_4 ad n g b).set 4 (.int z))) = CW θ ea ad n (cgv (g 0) (g 1) (g 2) (g 3) (g 4) (g 5) z) b r E := rfl
theorem ch_4_4 : (cf_4 ad n (cgv x0 x1 x2 x3 x4 x5 x6) b)[4]? = some (.int x6) := rfl
theorem cg_4_5 : (cf_4 ad n g b)[5]? = some (.int (nI (n 13))) := rfl
theorem cv_4_5 {z : Nat} : (CW θ ea ad (cnv a0 a1 a2 a3 a4 a5 a6 a7 a8 a9 a10 a11 a12 a13 a14 a15 a16 a17 a18 a19 a20) g b r E).set 4 (ad 4, .inr (1, (cf_4 ad (cnv a0 a1 a2 a3 a4 a5 a6 a7 a8 a9 a10 a11 a12 a13 a14 a15 a16 a17 a18 a19 a20) g b).set 5 (.int (nI z)))) = CW θ ea ad (cnv a0 a1 a2 a3 a4 a5 a6 a7 a8 a9 a10 a11 a12 z a14 a15 a16 a17 a18 a19 a20) g b r E := rfl
theorem cp_4_5 {z : Nat} : (CW θ ea ad n g b r E).set 4 (ad 4, .inr (1, (cf_4 ad n g b).set 5 (.int (nI z)))) = CW θ ea ad (cnv (n 0) (n 1) (n 2) (n 3) (n 4) (n 5) (n 6) (n 7) (n 8) (n 9) (n 10) (n 11) (n 12) z (n 14) (n 15) (n 16) (n 17) (n 18) (n 19) (n 20)) g b r E := rfl
theorem ch_4_5 : (cf_4 ad (cnv a0 a1 a2 a3 a4 a5 a6 a7 a8 a9 a10 a11 a12 a13 a14 a15 a16 a17 a18 a19 a20) g b)[5]? = some (.int (nI a13)) := rfl
theorem cg_4_6 : (cf_4 ad n g b)[6]? = some (.int (nI (n 14))) := rfl
theorem cv_4_6 {z : Nat} : (CW θ ea ad (cnv a0 a1 a2 a3 a4 a5 a6 a7 a8 a9 a10 a11 a12 a13 a14 a15 a16 a17 a18 a19 a20) g b r E).set 4 (ad 4, .inr (1, (cf_4 ad (cnv a0 a1 a2 a3 a4 a5 a6 a7 a8 a9 a10 a11 a12 a13 a14 a15 a16 a17 a18 a19 a20) g b).set 6 (.int (nI z)))) = CW θ ea ad (cnv a0 a1 a2 a3 a4 a5 a6 a7 a8 a9 a10 a11 a12 a13 z a15 a16 a17 a18 a19 a20) g b r E := rfl
theorem cp_4_6 {z : Nat} : (CW θ ea ad n g b r E).set 4 (ad 4, .inr (1, (cf_4 ad n g b).set 6 (.int (nI z)))) = CW θ ea ad (cnv (n 0) (n 1) (n 2) (n 3) (n 4) (n 5) (n 6) (n 7) (n 8) (n 9) (n 10) (n 11) (n 12) (n 13) z (n 15) (n 16) (n 17) (n 18) (n 19) (n 20)) g b r E := rfl
theorem ch_4_6 : (cf_4 ad (cnv a0 a1 a2 a3 a4 a5 a6 a7 a8 a9 a10 a11 a12 a13 a14 a15 a16 a17 a18 a19 a20) g b)[6]? = some (.int (nI a14)) := rfl
theorem cg_4_7 : (cf_4 ad n g b)[7]? = some (.int (nI (n 15))) := rfl
theorem cv_4_7 {z : Nat} : (CW θ ea ad (cnv a0 a1 a2 a3 a4 a5 a6 a7 a8 a9 a10 a11 a12 a13 a14 a15 a16 a17 a18 a19 a20) g b r E).set 4 (ad 4, .inr (1, (cf_4 ad (cnv a0 a1 a2 a3 a4 a5 a6 a7 a8 a9 a10 a11 a12 a13 a14 a15 a16 a17 a18 a19 a20) g b).set 7 (.int (nI z)))) = CW θ ea ad (cnv a0 a1 a2 a3 a4 a5 a6 a7 a8 a9 a10 a11 a12 a13 a14 z a16 a17 a18 a19 a20) g b r E := rfl
theorem cp_4_7 {z : Nat} : (CW θ ea ad n g b r E).set 4 (ad 4, .inr (1, (cf_4 ad n g b).set 7 (.int (nI z)))) = CW θ ea ad (cnv (n 0) (n 1) (n 2) (n 3) (n 4) (n 5) (n 6) (n 7) (n 8) (n 9) (n 10) (n 11) (n 12) (n 13) (n 14) z (n 16) (n 17) (n 18) (n 19) (n 20)) g b r E := rfl
theorem ch_4_7 : (cf_4 ad (cnv a0 a1 a2 a3 a4 a5 a6 a7 a8 a9 a10 a11 a12 a13 a14 a15 a16 a17 a18 a19 a20) g b)[7]? = some (.int (nI a15)) := rfl
theorem cg_4_8 : (cf_4 ad n g b)[8]? = some (.ref (ad 18)) := rfl
theorem cg_4_9 : (cf_4 ad n g b)[9]? = some (.ref (ad 19)) := rfl
theorem cg_4_10 : (cf_4 ad n g b)[10]? = some (.ref (ad 20)) := rfl
theorem cg_4_11 : (cf_4 ad n g b)[11]? = some (.ref (ad 21)) := rfl
theorem cg_4_12 : (cf_4 ad n g b)[12]? = some (.ref (ad 22)) := rfl
theorem cg_4_13 : (cf_4 ad n g b)[13]? = some (.ref (ad 23)) := rfl
theorem cc_5 : (CW θ ea ad n g b r E)[5]? = some (ad 5, .inr (2, cf_5 ad n g b)) := rfl
theorem cg_5_0 : (cf_5 ad n g b)[0]? = some (.ref (ad 24)) := rfl
theorem cg_5_1 : (cf_5 ad n g b)[1]? = some (.int (nI (n 16))) := rfl
theorem cv_5_1 {z : Nat} : (CW θ ea ad (cnv a0 a1 a2 a3 a4 a5 a6 a7 a8 a9 a10 a11 a12 a13 a14 a15 a16 a17 a18 a19 a20) g b r E).set 5 (ad 5, .inr (2, (cf_5 ad (cnv a0 a1 a2 a3 a4 a5 a6 a7 a8 a9 a10 a11 a12 a13 a14 a15 a16 a17 a18 a19 a20) g b).set 1 (.int (nI z)))) = CW θ ea ad (cnv a0 a1 a2 a3 a4 a5 a6 a7 a8 a9 a10 a11 a12 a13 a14 a15 z a17 a18 a19 a20) g b r E := rfl
theorem cp_5_1 {z : Nat} : (CW θ ea ad n g b r E).set 5 (ad 5, .inr (2, (cf_5 ad n g b).set 1 (.int (nI z)))) = CW θ ea ad (cnv (n 0) (n 1) (n 2) (n 3) (n 4) (n 5) (n 6) (n 7) (n 8) (n 9) (n 10) (n 11) (n 12) (n 13) (n 14) (n 15) z (n 17) (n 18) (n 19) (n 20)) g b r E := rfl
theorem ch_5_1 : (cf_5 ad (cnv a0 a1 a2 a3 a4 a5 a6 a7 a8 a9 a10 a11 a12 a13 a14 a15 a16 a17 a18 a19 a20) g b)[1]? = some (.int (nI a16)) := rfl
theorem cg_5_2 : (cf_5 ad n g b)[2]? = some (.int (nI (n 17))) := rfl
theorem cv_5_2 {z : Nat} : (CW θ ea ad (cnv a0 a1 a2 a3 a4 a5 a6 a7 a8 a9 a10 a11 a12 a13 a14 a15 a16 a17 a18 a19 a20) g b r E).set 5 (ad 5, .inr (2, (cf_5 ad (cnv a0 a1 a2 a3 a4 a5 a6 a7 a8 a9 a10 a11 a12 a13 a14 a15 a16 a17 a18 a19 a20) g b).set 2 (.int (nI z)))) = CW θ ea ad (cnv a0 a1 a2 a3 a4 a5 a6 a7 a8 a9 a10 a11 a12 a13 a14 a15 a16 z a18 a19 a20) g b r E := rfl
theorem cp_5_2 {z : Nat} : (CW θ ea ad n g b r E).set 5 (ad 5, .inr (2, (cf_5 ad n g b).set 2 (.int (nI z)))) = CW θ ea ad (cnv (n 0) (n 1) (n 2) (n 3) (n 4) (n 5) (n 6) (n 7) (n 8) (n 9) (n 10) (n 11) (n 12) (n 13) (n 14) (n 15) (n 16) z (n 18) (n 19) (n 20)) g b r E := rfl
theorem ch_5_2 : (cf_5 ad (cnv a0 a1 a2 a3 a4 a5 a6 a7 a8 a9 a10 a11 a12 a13 a14 a15 a16 a17 a18 a19 a20) g b)[2]? = some (.int (nI a17)) := rfl
theorem cc_9 : (CW θ ea ad n g b r E)[9]? = some (ad 9, .inr (3, cf_9 ad n g b)) := rfl
theorem cg_9_0 : (cf_9 ad n g b)[0]? = some (.int (nI (n 18))) := rfl
theorem cv_9_0 {z : Nat} : (CW θ ea ad (cnv a0 a1 a2 a3 a4 a5 a6 a7 a8 a9 a10 a11 a12 a13 a14 a15 a16 a17 a18 a19 a20) g b r E).set 9 (ad 9, .inr (3, (cf_9 ad (cnv a0 a1 a2 a3 a4 a5 a6 a7 a8 a9 a10 a11 a12 a13 a14 a15 a16 a17 a18 a19 a20) g b).set 0 (.int (nI z)))) = CW θ ea ad (cnv a0 a1 a2 a3 a4 a5 a6 a7 a8 a9 a10 a11 a12 a13 a14 a15 a16 a17 z a19 a20) g b r E := rfl
theorem cp_9_0 {z : Nat} : (CW θ ea ad n g b r E).set 9 (ad 9, .inr (3, (cf_9 ad n g b).set 0 (.int (nI z)))) = CW θ ea ad (cnv (n 0) (n 1) (n 2) (n 3) (n 4) (n 5) (n 6) (n 7) (n 8) (n 9) (n 10) (n 11) (n 12) (n 13) (n 14) (n 15) (n 16) (n 17) z (n 19) (n 20)) g b r E := rfl
theorem ch_9_0 : (cf_9 ad (cnv a0 a1 a2 a3 a4 a5 a6 a7 a8 a9 a10 a11 a12 a13 a14 a15 a16 a17 a18 a19 a20) g b)[0]? = some (.int (nI a18)) := rfl
theorem cg_9_1 : (cf_9 ad n g b)[1]? = some (.int (nI (n 19))) := rfl
theorem cv_9_1 {z : Nat} : (CW θ ea ad (cnv a0 a1 a2 a3 a4 a5 a6 a7 a8 a9 a10 a11 a12 a13 a14 a15 a16 a17 a18 a19 a20) g b r E).set 9 (ad 9, .inr (3, (cf_9 ad (cnv a0 a1 a2 a3 a4 a5 a6 a7 a8 a9 a10 a11 a12 a13 a14 a15 a16 a17 a18 a19 a20) g b).set 1 (.int (nI z)))) = CW θ ea ad (cnv a0 a1 a2 a3 a4 a5 a6 a7 a8 a9 a10 a11 a12 a13 a14 a15 a16 a17 a18 z a20) g b r E := rfl
theorem cp_9_1 {z : Nat} : (CW θ ea ad n g b r E).set 9 (ad 9, .inr (3, (cf_9 ad n g b).set 1 (.int (nI z)))) = CW θ ea ad (cnv (n 0) (n 1) (n 2) (n 3) (n 4) (n 5) (n 6) (n 7) (n 8) (n 9) (n 10) (n 11) (n 12) (n 13) (n 14) (n 15) (n 16) (n 17) (n 18) z (n 20)) g b r E := rfl
theorem ch_9_1 : (cf_9 ad (cnv a0 a1 a2 a3 a4 a5 a6 a7 a8 a9 a10 a11 a12 a13 a14 a15 a16 a17 a18 a19 a20) g b)[1]? = some (.int (nI a19)) := rfl
theorem cg_9_2 : (cf_9 ad n g b)[2]? = some (.int (nI (n 20))) := rfl
theorem cv_9_2 {z : Nat} : (CW θ ea ad (cnv a0 a1 a2 a3 a4 a5 a6 a7 a8 a9 a10 a11 a12 a13 a14 a15 a16 a17 a18 a19 a20) g b r E).set 9 (ad 9, .inr (3, (cf_9 ad (cnv a0 a1 a2 a3 a4 a5 a6 a7 a8 a9 a10 a11 a12 a13 a14 a15 a16 a17 a18 a19 a20) g b).set 2 (.int (nI z)))) = CW θ ea ad (cnv a0 a1 a2 a3 a4 a5 a6 a7 a8 a9 a10 a11 a12 a13 a14 a15 a16 a17 a18 a19 z) g b r E := rfl
theorem cp_9_2 {z : Nat} : (CW θ ea ad n g b r E).set 9 (ad 9, .inr (3, (cf_9 ad n g b).set 2 (.int (nI z)))) = CW θ ea ad (cnv (n 0) (n 1) (n 2) (n 3) (n 4) (n 5) (n 6) (n 7) (n 8) (n 9) (n 10) (n 11) (n 12) (n 13) (n 14) (n 15) (n 16) (n 17) (n 18) (n 19) z) g b r E := rfl
theorem ch_9_2 : (cf_9 ad (cnv a0 a1 a2 a3 a4 a5 a6 a7 a8 a9 a10 a11 a12 a13 a14 a15 a16 a17 a18 a19 a20) g b)[2]? = some (.int (nI a20)) := rfl
theorem cg_9_3 : (cf_9 ad n g b)[3]? = some (.ref (ad 25)) := rfl
theorem cg_9_4 : (cf_9 ad n g b)[4]? = some (.ref (ad 26)) := rfl
theorem cg_9_5 : (cf_9 ad n g b)[5]? = some (.ref (ad 27)) := rfl
theorem ca_11 : (CW θ ea ad n g b r E)[11]? = some (ad 11, .inl (θ.2.1, 240, .inl (r 0))) := rfl
theorem cav_11 : (CW θ ea ad n g b (crv f0 f1 f2 f3 f4 f5 f6 f7 f8 f9 f10 f11 f12 f13 f14 f15 f16 f17 f18) E)[11]? = some (ad 11, .inl (θ.2.1, 240, .inl f0)) := rfl
theorem cs_11 {z : Nat → Int32} : (CW θ ea ad n g b r E).set 11 (ad 11, .inl (θ.2.1, 240, .inl z)) = CW θ ea ad n g b (crv z (r 1) (r 2) (r 3) (r 4) (r 5) (r 6) (r 7) (r 8) (r 9) (r 10) (r 11) (r 12) (r 13) (r 14) (r 15) (r 16) (r 17) (r 18)) E := rfl
theorem csv_11 {z : Nat → Int32} : (CW θ ea ad n g b (crv f0 f1 f2 f3 f4 f5 f6 f7 f8 f9 f10 f11 f12 f13 f14 f15 f16 f17 f18) E).set 11 (ad 11, .inl (θ.2.1, 240, .inl z)) = CW θ ea ad n g b (crv z f1 f2 f3 f4 f5 f6 f7 f8 f9 f10 f11 f12 f13 f14 f15 f16 f17 f18) E := rfl
theorem ca_12 : (CW θ ea ad n g b r E)[12]? = some (ad 12, .inl (θ.2.1, 6, .inl (r 1))) := rfl
theorem cav_12 : (CW θ ea ad n g b (crv f0 f1 f2 f3 f4 f5 f6 f7 f8 f9 f10 f11 f12 f13 f14 f15 f16 f17 f18) E)[12]? = some (ad 12, .inl (θ.2.1, 6, .inl f1)) := rfl
theorem cs_12 {z : Nat → Int32} : (CW θ ea ad n g b r E).set 12 (ad 12, .inl (θ.2.1, 6, .inl z)) = CW θ ea ad n g b (crv (r 0) z (r 2) (r 3) (r 4) (r 5) (r 6) (r 7) (r 8) (r 9) (r 10) (r 11) (r 12) (r 13) (r 14) (r 15) (r 16) (r 17) (r 18)) E := rfl
theorem csv_12 {z : Nat → Int32} : (CW θ ea ad n g b (crv f0 f1 f2 f3 f4 f5 f6 f7 f8 f9 f10 f11 f12 f13 f14 f15 f16 f17 f18) E).set 12 (ad 12, .inl (θ.2.1, 6, .inl z)) = CW θ ea ad n g b (crv f0 z f2 f3 f4 f5 f6 f7 f8 f9 f10 f11 f12 f13 f14 f15 f16 f17 f18) E := rfl
theorem ca_13 : (CW θ ea ad n g b r E)[13]? = some (ad 13, .inl (θ.2.1, 5, .inl (r 2))) := rfl
theorem cav_13 : (CW θ ea ad n g b (crv f0 f1 f2 f3 f4 f5 f6 f7 f8 f9 f10 f11 f12 f13 f14 f15 f16 f17 f18) E)[13]? = some (ad 13, .inl (θ.2.1, 5, .inl f2)) := rfl
theorem cs_13 {z : Nat → Int32} : (CW θ ea ad n g b r E).set 13 (ad 13, .inl (θ.2.1, 5, .inl z)) = CW θ ea ad n g b (crv (r 0) (r 1) z (r 3) (r 4) (r 5) (r 6) (r 7) (r 8) (r 9) (r 10) (r 11) (r 12) (r 13) (r 14) (r 15) (r 16) (r 17) (r 18)) E := rfl
theorem csv_13 {z : Nat → Int32} : (CW θ ea ad n g b (crv f0 f1 f2 f3 f4 f5 f6 f7 f8 f9 f10 f11 f12 f13 f14 f15 f16 f17 f18) E).set 13 (ad 13, .inl (θ.2.1, 5, .inl z)) = CW θ ea ad n g b (crv f0 f1 z f3 f4 f5 f6 f7 f8 f9 f10 f11 f12 f13 f14 f15 f16 f17 f18) E := rfl
theorem ca_14 : (CW θ ea ad n g b r E)[14]? = some (ad 14, .inl (θ.2.1, 6, .inl (r 3))) := rfl
theorem cav_14 : (CW θ ea ad n g b (crv f0 f1 f2 f3 f4 f5 f6 f7 f8 f9 f10 f11 f12 f13 f14 f15 f16 f17 f18) E)[14]? = some (ad 14, .inl (θ.2.1, 6, .inl f3)) := rfl
theorem cs_14 {z : Nat → Int32} : (CW θ ea ad n g b r E).set 14 (ad 14, .inl (θ.2.1, 6, .inl z)) = CW θ ea ad n g b (crv (r 0) (r 1) (r 2) z (r 4) (r 5) (r 6) (r 7) (r 8) (r 9) (r 10) (r 11) (r 12) (r 13) (r 14) (r 15) (r 16) (r 17) (r 18)) E := rfl
theorem csv_14 {z : Nat → Int32} : (CW θ ea ad n g b (crv f0 f1 f2 f3 f4 f5 f6 f7 f8 f9 f10 f11 f12 f13 f14 f15 f16 f17 f18) E).set 14 (ad 14, .inl (θ.2.1, 6, .inl z)) = CW θ ea ad n g b (crv f0 f1 f2 z f4 f5 f6 f7 f8 f9 f10 f11 f12 f13 f14 f15 f16 f17 f18) E := rfl
theorem ca_15 : (CW θ ea ad n g b r E)[15]? = some (ad 15, .inl (θ.2.1, 6, .inl (r 4))) := rfl
theorem cav_15 : (CW θ ea ad n g b (crv f0 f1 f2 f3 f4 f5 f6 f7 f8 f9 f10 f11 f12 f13 f14 f15 f16 f17 f18) E)[15]? = some (ad 15, .inl (θ.2.1, 6, .inl f4)) := rfl
theorem cs_15 {z : Nat → Int32} : (CW θ ea ad n g b r E).set 15 (ad 15, .inl (θ.2.1, 6, .inl z)) = CW θ ea ad n g b (crv (r 0) (r 1) (r 2) (r 3) z (r 5) (r 6) (r 7) (r 8) (r 9) (r 10) (r 11) (r 12) (r 13) (r 14) (r 15) (r 16) (r 17) (r 18)) E := rfl
theorem csv_15 {z : Nat → Int32} : (CW θ ea ad n g b (crv f0 f1 f2 f3 f4 f5 f6 f7 f8 f9 f10 f11 f12 f13 f14 f15 f16 f17 f18) E).set 15 (ad 15, .inl (θ.2.1, 6, .inl z)) = CW θ ea ad n g b (crv f0 f1 f2 f3 z f5 f6 f7 f8 f9 f10 f11 f12 f13 f14 f15 f16 f17 f18) E := rfl
theorem ca_16 : (CW θ ea ad n g b r E)[16]? = some (ad 16, .inl (θ.2.1, 5, .inl (r 5))) := rfl
theorem cav_16 : (CW θ ea ad n g b (crv f0 f1 f2 f3 f4 f5 f6 f7 f8 f9 f10 f11 f12 f13 f14 f15 f16 f17 f18) E)[16]? = some (ad 16, .inl (θ.2.1, 5, .inl f5)) := rfl
theorem cs_16 {z : Nat → Int32} : (CW θ ea ad n g b r E).set 16 (ad 16, .inl (θ.2.1, 5, .inl z)) = CW θ ea ad n g b (crv (r 0) (r 1) (r 2) (r 3) (r 4) z (r 6) (r 7) (r 8) (r 9) (r 10) (r 11) (r 12) (r 13) (r 14) (r 15) (r 16) (r 17) (r 18)) E := rfl
theorem csv_16 {z : Nat → Int32} : (CW θ ea ad n g b (crv f0 f1 f2 f3 f4 f5 f6 f7 f8 f9 f10 f11 f12 f13 f14 f15 f16 f17 f18) E).set 16 (ad 16, .inl (θ.2.1, 5, .inl z)) = CW θ ea ad n g b (crv f0 f1 f2 f3 f4 z f6 f7 f8 f9 f10 f11 f12 f13 f14 f15 f16 f17 f18) E := rfl
theorem ca_17 : (CW θ ea ad n g b r E)[17]? = some (ad 17, .inl (θ.2.1, 6, .inl (r 6))) := rfl
theorem cav_17 : (CW θ ea ad n g b (crv f0 f1 f2 f3 f4 f5 f6 f7 f8 f9 f10 f11 f12 f13 f14 f15 f16 f17 f18) E)[17]? = some (ad 17, .inl (θ.2.1, 6, .inl f6)) := rfl
theorem cs_17 {z : Nat → Int32} : (CW θ ea ad n g b r E).set 17 (ad 17, .inl (θ.2.1, 6, .inl z)) = CW θ ea ad n g b (crv (r 0) (r 1) (r 2) (r 3) (r 4) (r 5) z (r 7) (r 8) (r 9) (r 10) (r 11) (r 12) (r 13) (r 14) (r 15) (r 16) (r 17) (r 18)) E := rfl
theorem csv_17 {z : Nat → Int32} : (CW θ ea ad n g b (crv f0 f1 f2 f3 f4 f5 f6 f7 f8 f9 f10 f11 f12 f13 f14 f15 f16 f17 f18) E).set 17 (ad 17, .inl (θ.2.1, 6, .inl z)) = CW θ ea ad n g b (crv f0 f1 f2 f3 f4 f5 z f7 f8 f9 f10 f11 f12 f13 f14 f15 f16 f17 f18) E := rfl
theorem ca_18 : (CW θ ea ad n g b r E)[18]? = some (ad 18, .inl (θ.2.1, 5, .inl (r 7))) := rfl
theorem cav_18 : (CW θ ea ad n g b (crv f0 f1 f2 f3 f4 f5 f6 f7 f8 f9 f10 f11 f12 f13 f14 f15 f16 f17 f18) E)[18]? = some (ad 18, .inl (θ.2.1, 5, .inl f7)) := rfl
theorem cs_18 {z : Nat → Int32} : (CW θ ea ad n g b r E).set 18 (ad 18, .inl (θ.2.1, 5, .inl z)) = CW θ ea ad n g b (crv (r 0) (r 1) (r 2) (r 3) (r 4) (r 5) (r 6) z (r 8) (r 9) (r 10) (r 11) (r 12) (r 13) (r 14) (r 15) (r 16) (r 17) (r 18)) E := rfl
theorem csv_18 {z : Nat → Int32} : (CW θ ea ad n g b (crv f0 f1 f2 f3 f4 f5 f6 f7 f8 f9 f10 f11 f12 f13 f14 f15 f16 f17 f18) E).set 18 (ad 18, .inl (θ.2.1, 5, .inl z)) = CW θ ea ad n g b (crv f0 f1 f2 f3 f4 f5 f6 z f8 f9 f10 f11 f12 f13 f14 f15 f16 f17 f18) E := rfl
theorem ca_19 : (CW θ ea ad n g b r E)[19]? = some (ad 19, .inl (θ.2.1, 5, .inl (r 8))) := rfl
theorem cav_19 : (CW θ ea ad n g b (crv f0 f1 f2 f3 f4 f5 f6 f7 f8 f9 f10 f11 f12 f13 f14 f15 f16 f17 f18) E)[19]? = some (ad 19, .inl (θ.2.1, 5, .inl f8)) := rfl
theorem cs_19 {z : Nat → Int32} : (CW θ ea ad n g b r E).set 19 (ad 19, .inl (θ.2.1, 5, .inl z)) = CW θ ea ad n g b (crv (r 0) (r 1) (r 2) (r 3) (r 4) (r 5) (r 6) (r 7) z (r 9) (r 10) (r 11) (r 12) (r 13) (r 14) (r 15) (r 16) (r 17) (r 18)) E := rfl
theorem csv_19 {z : Nat → Int32} : (CW θ ea ad n g b (crv f0 f1 f2 f3 f4 f5 f6 f7 f8 f9 f10 f11 f12 f13 f14 f15 f16 f17 f18) E).set 19 (ad 19, .inl (θ.2.1, 5, .inl z)) = CW θ ea ad n g b (crv f0 f1 f2 f3 f4 f5 f6 f7 z f9 f10 f11 f12 f13 f14 f15 f16 f17 f18) E := rfl
theorem ca_20 : (CW θ ea ad n g b r E)[20]? = some (ad 20, .inl (θ.2.1, 4, .inl (r 9))) := rfl
theorem cav_20 : (CW θ ea ad n g b (crv f0 f1 f2 f3 f4 f5 f6 f7 f8 f9 f10 f11 f12 f13 f14 f15 f16 f17 f18) E)[20]? = some (ad 20, .inl (θ.2.1, 4, .inl f9)) := rfl
theorem cs_20 {z : Nat → Int32} : (CW θ ea ad n g b r E).set 20 (ad 20, .inl (θ.2.1, 4, .inl z)) = CW θ ea ad n g b (crv (r 0) (r 1) (r 2) (r 3) (r 4) (r 5) (r 6) (r 7) (r 8) z (r 10) (r 11) (r 12) (r 13) (r 14) (r 15) (r 16) (r 17) (r 18)) E := rfl
theorem csv_20 {z : Nat → Int32} : (CW θ ea ad n g b (crv f0 f1 f2 f3 f4 f5 f6 f7 f8 f9 f10 f11 f12 f13 f14 f15 f16 f17 f18) E).set 20 (ad 20, .inl (θ.2.1, 4, .inl z)) = CW θ ea ad n g b (crv f0 f1 f2 f3 f4 f5 f6 f7 f8 z f10 f11 f12 f13 f14 f15 f16 f17 f18) E := rfl
theorem ca_21 : (CW θ ea ad n g b r E)[21]? = some (ad 21, .inl (θ.2.1, 20, .inl (r 10))) := rfl
theorem cav_21 : (CW θ ea ad n g b (crv f0 f1 f2 f3 f4 f5 f6 f7 f8 f9 f10 f11 f12 f13 f14 f15 f16 f17 f18) E)[21]? = some (ad 21, .inl (θ.2.1, 20, .inl f10)) := rfl
theorem cs_21 {z : Nat → Int32} : (CW θ ea ad n g b r E).set 21 (ad 21, .inl (θ.2.1, 20, .inl z)) = CW θ ea ad n g b (crv (r 0) (r 1) (r 2) (r 3) (r 4) (r 5) (r 6) (r 7) (r 8) (r 9) z (r 11) (r 12) (r 13) (r 14) (r 15) (r 16) (r 17) (r 18)) E := rfl
theorem csv_21 {z : Nat → Int32} : (CW θ ea ad n g b (crv f0 f1 f2 f3 f4 f5 f6 f7 f8 f9 f10 f11 f12 f13 f14 f15 f16 f17 f18) E).set 21 (ad 21, .inl (θ.2.1, 20, .inl z)) = CW θ ea ad n g b (crv f0 f1 f2 f3 f4 f5 f6 f7 f8 f9 z f11 f12 f13 f14 f15 f16 f17 f18) E := rfl
theorem ca_22 : (CW θ ea ad n g b r E)[22]? = some (ad 22, .inl (θ.2.1, 20, .inl (r 11))) := rfl
theorem cav_22 : (CW θ ea ad n g b (crv f0 f1 f2 f3 f4 f5 f6 f7 f8 f9 f10 f11 f12 f13 f14 f15 f16 f17 f18) E)[22]? = some (ad 22, .inl (θ.2.1, 20, .inl f11)) := rfl
theorem cs_22 {z : Nat → Int32} : (CW θ ea ad n g b r E).set 22 (ad 22, .inl (θ.2.1, 20, .inl z)) = CW θ ea ad n g b (crv (r 0) (r 1) (r 2) (r 3) (r 4) (r 5) (r 6) (r 7) (r 8) (r 9) (r 10) z (r 12) (r 13) (r 14) (r 15) (r 16) (r 17) (r 18)) E := rfl
theorem csv_22 {z : Nat → Int32} : (CW θ ea ad n g b (crv f0 f1 f2 f3 f4 f5 f6 f7 f8 f9 f10 f11 f12 f13 f14 f15 f16 f17 f18) E).set 22 (ad 22, .inl (θ.2.1, 20, .inl z)) = CW θ ea ad n g b (crv f0 f1 f2 f3 f4 f5 f6 f7 f8 f9 f10 z f12 f13 f14 f15 f16 f17 f18) E := rfl
theorem ca_23 : (CW θ ea ad n g b r E)[23]? = some (ad 23, .inl (θ.2.1, 20, .inl (r 12))) := rfl
theorem cav_23 : (CW θ ea ad n g b (crv f0 f1 f2 f3 f4 f5 f6 f7 f8 f9 f10 f11 f12 f13 f14 f15 f16 f17 f18) E)[23]? = some (ad 23, .inl (θ.2.1, 20, .inl f12)) := rfl
theorem cs_23 {z : Nat → Int32} : (CW θ ea ad n g b r E).set 23 (ad 23, .inl (θ.2.1, 20, .inl z)) = CW θ ea ad n g b (crv (r 0) (r 1) (r 2) (r 3) (r 4) (r 5) (r 6) (r 7) (r 8) (r 9) (r 10) (r 11) z (r 13) (r 14) (r 15) (r 16) (r 17) (r 18)) E := rfl
theorem csv_23 {z : Nat → Int32} : (CW θ ea ad n g b (crv f0 f1 f2 f3 f4 f5 f6 f7 f8 f9 f10 f11 f12 f13 f14 f15 f16 f17 f18) E).set 23 (ad 23, .inl (θ.2.1, 20, .inl z)) = CW θ ea ad n g b (crv f0 f1 f2 f3 f4 f5 f6 f7 f8 f9 f10 f11 z f13 f14 f15 f16 f17 f18) E := rfl
theorem ca_25 : (CW θ ea ad n g b r E)[25]? = some (ad 25, .inl (θ.2.1, 30, .inl (r 13))) := rfl
theorem cav_25 : (CW θ ea ad n g b (crv f0 f1 f2 f3 f4 f5 f6 f7 f8 f9 f10 f11 f12 f13 f14 f15 f16 f17 f18) E)[25]? = some (ad 25, .inl (θ.2.1, 30, .inl f13)) := rfl
theorem cs_25 {z : Nat → Int32} : (CW θ ea ad n g b r E).set 25 (ad 25, .inl (θ.2.1, 30, .inl z)) = CW θ ea ad n g b (crv (r 0) (r 1) (r 2) (r 3) (r 4) (r 5) (r 6) (r 7) (r 8) (r 9) (r 10) (r 11) (r 12) z (r 14) (r 15) (r 16) (r 17) (r 18)) E := rfl
theorem csv_25 {z : Nat → Int32} : (CW θ ea ad n g b (crv f0 f1 f2 f3 f4 f5 f6 f7 f8 f9 f10 f11 f12 f13 f14 f15 f16 f17 f18) E).set 25 (ad 25, .inl (θ.2.1, 30, .inl z)) = CW θ ea ad n g b (crv f0 f1 f2 f3 f4 f5 f6 f7 f8 f9 f10 f11 f12 z f14 f15 f16 f17 f18) E := rfl
theorem ca_26 : (CW θ ea ad n g b r E)[26]? = some (ad 26, .inl (θ.2.1, 5, .inl (r 14))) := rfl
theorem cav_26 : (CW θ ea ad n g b (crv f0 f1 f2 f3 f4 f5 f6 f7 f8 f9 f10 f11 f12 f13 f14 f15 f16 f17 f18) E)[26]? = some (ad 26, .inl (θ.2.1, 5, .inl f14)) := rfl
theorem cs_26 {z : Nat → Int32} : (CW θ ea ad n g b r E).set 26 (ad 26, .inl (θ.2.1, 5, .inl z)) = CW θ ea ad n g b (crv (r 0) (r 1) (r 2) (r 3) (r 4) (r 5) (r 6) (r 7) (r 8) (r 9) (r 10) (r 11) (r 12) (r 13) z (r 15) (r 16) (r 17) (r 18)) E := rfl
theorem csv_26 {z : Nat → Int32} : (CW θ ea ad n g b (crv f0 f1 f2 f3 f4 f5 f6 f7 f8 f9 f10 f11 f12 f13 f14 f15 f16 f17 f18) E).set 26 (ad 26, .inl (θ.2.1, 5, .inl z)) = CW θ ea ad n g b (crv f0 f1 f2 f3 f4 f5 f6 f7 f8 f9 f10 f11 f12 f13 z f15 f16 f17 f18) E := rfl
theorem ca_27 : (CW θ ea ad n g b r E)[27]? = some (ad 27, .inl (θ.2.1, 5, .inl (r 15))) := rfl
theorem cav_27 : (CW θ ea ad n g b (crv f0 f1 f2 f3 f4 f5 f6 f7 f8 f9 f10 f11 f12 f13 f14 f15 f16 f17 f18) E)[27]? = some (ad 27, .inl (θ.2.1, 5, .inl f15)) := rfl
theorem cs_27 {z : Nat → Int32} : (CW θ ea ad n g b r E).set 27 (ad 27, .inl (θ.2.1, 5, .inl z)) = CW θ ea ad n g b (crv (r 0) (r 1) (r 2) (r 3) (r 4) (r 5) (r 6) (r 7) (r 8) (r 9) (r 10) (r 11) (r 12) (r 13) (r 14) z (r 16) (r 17) (r 18)) E := rfl
theorem csv_27 {z : Nat → Int32} : (CW θ ea ad n g b (crv f0 f1 f2 f3 f4 f5 f6 f7 f8 f9 f10 f11 f12 f13 f14 f15 f16 f17 f18) E).set 27 (ad 27, .inl (θ.2.1, 5, .inl z)) = CW θ ea ad n g b (crv f0 f1 f2 f3 f4 f5 f6 f7 f8 f9 f10 f11 f12 f13 f14 z f16 f17 f18) E := rfl
theorem ca_10 : (CW θ ea ad n g b r E)[10]? = some (ad 10, .inl (θ.2.1, 6, .inl (r 16))) := rfl
theorem cav_10 : (CW θ ea ad n g b (crv f0 f1 f2 f3 f4 f5 f6 f7 f8 f9 f10 f11 f12 f13 f14 f15 f16 f17 f18) E)[10]? = some (ad 10, .inl (θ.2.1, 6, .inl f16)) := rfl
theorem cs_10 {z : Nat → Int32} : (CW θ ea ad n g b r E).set 10 (ad 10, .inl (θ.2.1, 6, .inl z)) = CW θ ea ad n g b (crv (r 0) (r 1) (r 2) (r 3) (r 4) (r 5) (r 6) (r 7) (r 8) (r 9) (r 10) (r 11) (r 12) (r 13) (r 14) (r 15) z (r 17) (r 18)) E := rfl
theorem csv_10 {z : Nat → Int32} : (CW θ ea ad n g b (crv f0 f1 f2 f3 f4 f5 f6 f7 f8 f9 f10 f11 f12 f13 f14 f15 f16 f17 f18) E).set 10 (ad 10, .inl (θ.2.1, 6, .inl z)) = CW θ ea ad n g b (crv f0 f1 f2 f3 f4 f5 f6 f7 f8 f9 f10 f11 f12 f13 f14 f15 z f17 f18) E := rfl
theorem ca_8 : (CW θ ea ad n g b r E)[8]? = some (ad 8, .inl (θ.2.1, 2, .inl (r 17))) := rfl
theorem cav_8 : (CW θ ea ad n g b (crv f0 f1 f2 f3 f4 f5 f6 f7 f8 f9 f10 f11 f12 f13 f14 f15 f16 f17 f18) E)[8]? = some (ad 8, .inl (θ.2.1, 2, .inl f17)) := rfl
theorem cs_8 {z : Nat → Int32} : (CW θ ea ad n g b r E).set 8 (ad 8, .inl (θ.2.1, 2, .inl z)) = CW θ ea ad n g b (crv (r 0) (r 1) (r 2) (r 3) (r 4) (r 5) (r 6) (r 7) (r 8) (r 9) (r 10) (r 11) (r 12) (r 13) (r 14) (r 15) (r 16) z (r 18)) E := rfl
theorem csv_8 {z : Nat → Int32} : (CW θ ea ad n g b (crv f0 f1 f2 f3 f4 f5 f6 f7 f8 f9 f10 f11 f12 f13 f14 f15 f16 f17 f18) E).set 8 (ad 8, .inl (θ.2.1, 2, .inl z)) = CW θ ea ad n g b (crv f0 f1 f2 f3 f4 f5 f6 f7 f8 f9 f10 f11 f12 f13 f14 f15 f16 z f18) E := rfl
theorem ca_7 : (CW θ ea ad n g b r E)[7]? = some (ad 7, .inl (θ.2.2.1, 2, .inl (r 18))) := rfl
theorem cav_7 : (CW θ ea ad n g b (crv f0 f1 f2 f3 f4 f5 f6 f7 f8 f9 f10 f11 f12 f13 f14 f15 f16 f17 f18) E)[7]? = some (ad 7, .inl (θ.2.2.1, 2, .inl f18)) := rfl
theorem cs_7 {z : Nat → Int32} : (CW θ ea ad n g b r E).set 7 (ad 7, .inl (θ.2.2.1, 2, .inl z)) = CW θ ea ad n g b (crv (r 0) (r 1) (r 2) (r 3) (r 4) (r 5) (r 6) (r 7) (r 8) (r 9) (r 10) (r 11) (r 12) (r 13) (r 14) (r 15) (r 16) (r 17) z) E := rfl
theorem csv_7 {z : Nat → Int32} : (CW θ ea ad n g b (crv f0 f1 f2 f3 f4 f5 f6 f7 f8 f9 f10 f11 f12 f13 f14 f15 f16 f17 f18) E).set 7 (ad 7, .inl (θ.2.2.1, 2, .inl z)) = CW θ ea ad n g b (crv f0 f1 f2 f3 f4 f5 f6 f7 f8 f9 f10 f11 f12 f13 f14 f15 f16 f17 z) E := rfl
end CV
