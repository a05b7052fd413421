def nv (a0 a1 a3 a5 a8 a10 a12 a13 a14 a15 a16 a18 a20 a22 a27 : Nat) : Nat → Nat := fun k => match k with
  | 0 => a0
  | 1 => a1
  | 3 => a3
  | 5 => a5
  | 8 => a8
  | 10 => a10
  | 12 => a12
  | 13 => a13
  | 14 => a14
  | 15 => a15
  | 16 => a16
  | 18 => a18
  | 20 => a20
  | 22 => a22
  | 27 => a27
  | _ => 0
def rv (f2 f4 f6 f7 f9 f17 f19 f21 f23 f24 f25 f26 f28 f29 f30 f31 f32 : Nat → Int32) : Nat → Nat → Int32 := fun k => match k with
  | 2 => f2
  | 4 => f4
  | 6 => f6
  | 7 => f7
  | 9 => f9
  | 17 => f17
  | 19 => f19
  | 21 => f21
  | 23 => f23
  | 24 => f24
  | 25 => f25
  | 26 => f26
  | 28 => f28
  | 29 => f29
  | 30 => f30
  | 31 => f31
  | 32 => f32
  | _ => fun _ => 0
section MV
variable {θ : zH} {ad : Nat → Nat} {n n' : Nat → Nat} {g : Int32} {r r' : Nat → Nat → Int32} {a0 a1 a3 a5 a8 a10 a12 a13 a14 a15 a16 a18 a20 a22 a27 : Nat} {f2 f4 f6 f7 f9 f17 f19 f21 f23 f24 f25 f26 f28 f29 f30 f31 f32 : Nat → Int32}
theorem mw_eq (h0 : n 0 = n' 0) (h1 : n 1 = n' 1) (h3 : n 3 = n' 3) (h5 : n 5 = n' 5) (h8 : n 8 = n' 8) (h10 : n 10 = n' 10) (h12 : n 12 = n' 12) (h13 : n 13 = n' 13) (h14 : n 14 = n' 14) (h15 : n 15 = n' 15) (h16 : n 16 = n' 16) (h18 : n 18 = n' 18) (h20 : n 20 = n' 20) (h22 : n 22 = n' 22) (h27 : n 27 = n' 27) (k2 : r 2 = r' 2) (k4 : r 4 = r' 4) (k6 : r 6 = r' 6) (k7 : r 7 = r' 7) (k9 : r 9 = r' 9) (k17 : r 17 = r' 17) (k19 : r 19 = r' 19) (k21 : r 21 = r' 21) (k23 : r 23 = r' 23) (k24 : r 24 = r' 24) (k25 : r 25 = r' 25) (k26 : r 26 = r' 26) (k28 : r 28 = r' 28) (k29 : r 29 = r' 29) (k30 : r 30 = r' 30) (k31 : r 31 = r' 31) (k32 : r 32 = r' 32) : MW θ ad n g r = MW θ ad n' g r' := by
  unfold MW mfs
  rw [h0, h1, h3, h5, h8, h10, h12, h13, h14, h15, h16, h18, h20, h22, h27, k2, k4, k6, k7, k9, k17, k19, k21, k23, k24, k25, k26, k28, k29, k30, k31, k32]
theorem mpv_0 {x : Nat} : (MW θ ad (nv a0 a1 a3 a5 a8 a10 a12 a13 a14 a15 a16 a18 a20 a22 a27) g r).set 0 (ad 0, .inr (6, (mfs ad (nv a0 a1 a3 a5 a8 a10 a12 a13 a14 a15 a16 a18 a20 a22 a27) g).set 0 (.int (nI x)))) = MW θ ad (nv x a1 a3 a5 a8 a10 a12 a13 a14 a15 a16 a18 a20 a22 a27) g r := rfl
theorem mpn_0 {x : Nat} : (MW θ ad n g r).set 0 (ad 0, .inr (6, (mfs ad n g).set 0 (.int (nI x)))) = MW θ ad (nv x (n 1) (n 3) (n 5) (n 8) (n 10) (n 12) (n 13) (n 14) (n 15) (n 16) (n 18) (n 20) (n 22) (n 27)) g r := rfl
theorem mpv_1 {x : Nat} : (MW θ ad (nv a0 a1 a3 a5 a8 a10 a12 a13 a14 a15 a16 a18 a20 a22 a27) g r).set 0 (ad 0, .inr (6, (mfs ad (nv a0 a1 a3 a5 a8 a10 a12 a13 a14 a15 a16 a18 a20 a22 a27) g).set 1 (.int (nI x)))) = MW θ ad (nv a0 x a3 a5 a8 a10 a12 a13 a14 a15 a16 a18 a20 a22 a27) g r := rfl
theorem mpn_1 {x : Nat} : (MW θ ad n g r).set 0 (ad 0, .inr (6, (mfs ad n g).set 1 (.int (nI x)))) = MW θ ad (nv (n 0) x (n 3) (n 5) (n 8) (n 10) (n 12) (n 13) (n 14) (n 15) (n 16) (n 18) (n 20) (n 22) (n 27)) g r := rfl
theorem mpv_3 {x : Nat} : (MW θ ad (nv a0 a1 a3 a5 a8 a10 a12 a13 a14 a15 a16 a18 a20 a22 a27) g r).set 0 (ad 0, .inr (6, (mfs ad (nv a0 a1 a3 a5 a8 a10 a12 a13 a14 a15 a16 a18 a20 a22 a27) g).set 3 (.int (nI x)))) = MW θ ad (nv a0 a1 x a5 a8 a10 a12 a13 a14 a15 a16 a18 a20 a22 a27) g r := rfl
theorem mpn_3 {x : Nat} : (MW θ ad n g r).set 0 (ad 0, .inr (6, (mfs ad n g).set 3 (.int (nI x)))) = MW θ ad (nv (n 0) (n 1) x (n 5) (n 8) (n 10) (n 12) (n 13) (n 14) (n 15) (n 16) (n 18) (n 20) (n 22) (n 27)) g r := rfl
theorem mpv_5 {x : Nat} : (MW θ ad (nv a0 a1 a3 a5 a8 a10 a12 a13 a14 a15 a16 a18 a20 a22 a27) g r).set 0 (ad 0, .inr (6, (mfs ad (nv a0 a1 a3 a5 a8 a10 a12 a13 a14 a15 a16 a18 a20 a22 a27) g).set 5 (.int (nI x)))) = MW θ ad (nv a0 a1 a3 x a8 a10 a12 a13 a14 a15 a16 a18 a20 a22 a27) g r := rfl
theorem mpn_5 {x : Nat} : (MW θ ad n g r).set 0 (ad 0, .inr (6, (mfs ad n g).set 5 (.int (nI x)))) = MW θ ad (nv (n 0) (n 1) (n 3) x (n 8) (n 10) (n 12) (n 13) (n 14) (n 15) (n 16) (n 18) (n 20) (n 22) (n 27)) g r := rfl
theorem mpv_8 {x : Nat} : (MW θ ad (nv a0 a1 a3 a5 a8 a10 a12 a13 a14 a15 a16 a18 a20 a22 a27) g r).set 0 (ad 0, .inr (6, (mfs ad (nv a0 a1 a3 a5 a8 a10 a12 a13 a14 a15 a16 a18 a20 a22 a27) g).set 8 (.int (nI x)))) = MW θ ad (nv a0 a1 a3 a5 x a10 a12 a13 a14 a15 a16 a18 a20 a22 a27) g r := rfl
theorem mpn_8 {x : Nat} : (MW θ ad n g r).set 0 (ad 0, .inr (6, (mfs ad n g).set 8 (.int (nI x)))) = MW θ ad (nv (n 0) (n 1) (n 3) (n 5) x (n 10) (n 12) (n 13) (n 14) (n 15) (n 16) (n 18) (n 20) (n 22) (n 27)) g r := rfl
theorem mpv_10 {x : Nat} : (MW θ ad (nv a0 a1 a3 a5 a8 a10 a12 a13 a14 a15 a16 a18 a20 a22 a27) g r).set 0 (ad 0, .inr (6, (mfs ad (nv a0 a1 a3 a5 a8 a10 a12 a13 a14 a15 a16 a18 a20 a22 a27) g).set 10 (.int (nI x)))) = MW θ ad (nv a0 a1 a3 a5 a8 x a12 a13 a14 a15 a16 a18 a20 a22 a27) g r := rfl
theorem mpn_10 {x : Nat} : (MW θ ad n g r).set 0 (ad 0, .inr (6, (mfs ad n g).set 10 (.int (nI x)))) = MW θ ad (nv (n 0) (n 1) (n 3) (n 5) (n 8) x (n 12) (n 13) (n 14) (n 15) (n 16) (n 18) (n 20) (n 22) (n 27)) g r := rfl
theorem mpv_12 {x : Nat} : (MW θ ad (nv a0 a1 a3 a5 a8 a10 a12 a13 a14 a15 a16 a18 a20 a22 a27) g r).set 0 (ad 0, .inr (6, (mfs ad (nv a0 a1 a3 a5 a8 a10 a12 a13 a14 a15 a16 a18 a20 a22 a27) g).set 12 (.int (nI x)))) = MW θ ad (nv a0 a1 a3 a5 a8 a10 x a13 a14 a15 a16 a18 a20 a22 a27) g r := rfl
theorem mpn_12 {x : Nat} : (MW θ ad n g r).set 0 (ad 0, .inr (6, (mfs ad n g).set 12 (.int (nI x)))) = MW θ ad (nv (n 0) (n 1) (n 3) (n 5) (n 8) (n 10) x (n 13) (n 14) (n 15) (n 16) (n 18) (n 20) (n 22) (n 27)) g r := rfl
theorem mpv_13 {x : Nat} : (MW θ ad (nv a0 a1 a3 a5 a8 a10 a12 a13 a14 a15 a16 a18 a20 a22 a27) g r).set 0 (ad 0, .inr (6, (mfs ad (nv a0 a1 a3 a5 a8 a10 a12 a13 a14 a15 a16 a18 a20 a22 a27) g).set 13 (.int (nI x)))) = MW θ ad (nv a0 a1 a3 a5 a8 a10 a12 x a14 a15 a16 a18 a20 a22 a27) g r := rfl
theorem mpn_13 {x : Nat} : (MW θ ad n g r).set 0 (ad 0, .inr (6, (mfs ad n g).set 13 (.int (nI x)))) = MW θ ad (nv (n 0) (n 1) (n 3) (n 5) (n 8) (n 10) (n 12) x (n 14) (n 15) (n 16) (n 18) (n 20) (n 22) (n 27)) g r := rfl
theorem mpv_14 {x : Nat} : (MW θ ad (nv a0 a1 a3 a5 a8 a10 a12 a13 a14 a15 a16 a18 a20 a22 a27) g r).set 0 (ad 0, .inr (6, (mfs ad (nv a0 a1 a3 a5 a8 a10 a12 a13 a14 a15 a16 a18 a20 a22 a27) g).set 14 (.int (nI x)))) = MW θ ad (nv a0 a1 a3 a5 a8 a10 a12 a13 x a15 a16 a18 a20 a22 a27) g r := rfl
theorem mpn_14 {x : Nat} : (MW θ ad n g r).set 0 (ad 0, .inr (6, (mfs ad n g).set 14 (.int (nI x)))) = MW θ ad (nv (n 0) (n 1) (n 3) (n 5) (n 8) (n 10) (n 12) (n 13) x (n 15) (n 16) (n 18) (n 20) (n 22) (n 27)) g r := rfl
theorem mpv_15 {x : Nat} : (MW θ ad (nv a0 a1 a3 a5 a8 a10 a12 a13 a14 a15 a16 a18 a20 a22 a27) g r).set 0 (ad 0, .inr (6, (mfs ad (nv a0 a1 a3 a5 a8 a10 a12 a13 a14 a15 a16 a18 a20 a22 a27) g).set 15 (.int (nI x)))) = MW θ ad (nv a0 a1 a3 a5 a8 a10 a12 a13 a14 x a16 a18 a20 a22 a27) g r := rfl
theorem mpn_15 {x : Nat} : (MW θ ad n g r).set 0 (ad 0, .inr (6, (mfs ad n g).set 15 (.int (nI x)))) = MW θ ad (nv (n 0) (n 1) (n 3) (n 5) (n 8) (n 10) (n 12) (n 13) (n 14) x (n 16) (n 18) (n 20) (n 22) (n 27)) g r := rfl
theorem mpv_16 {x : Nat} : (MW θ ad (nv a0 a1 a3 a5 a8 a10 a12 a13 a14 a15 a16 a18 a20 a22 a27) g r).set 0 (ad 0, .inr (6, (mfs ad (nv a0 a1 a3 a5 a8 a10 a12 a13 a14 a15 a16 a18 a20 a22 a27) g).set 16 (.int (nI x)))) = MW θ ad (nv a0 a1 a3 a5 a8 a10 a12 a13 a14 a15 x a18 a20 a22 a27) g r := rfl
theorem mpn_16 {x : Nat} : (MW θ ad n g r).set 0 (ad 0, .inr (6, (mfs ad n g).set 16 (.int (nI x)))) = MW θ ad (nv (n 0) (n 1) (n 3) (n 5) (n 8) (n 10) (n 12) (n 13) (n 14) (n 15) x (n 18) (n 20) (n 22) (n 27)) g r := rfl
theorem mpv_18 {x : Nat} : (MW θ ad (nv a0 a1 a3 a5 a8 a10 a12 a13 a14 a15 a16 a18 a20 a22 a27) g r).set 0 (ad 0, .inr (6, (mfs ad (nv a0 a1 a3 a5 a8 a10 a12 a13 a14 a15 a16 a18 a20 a22 a27) g).set 18 (.int (nI x)))) = MW θ ad (nv a0 a1 a3 a5 a8 a10 a12 a13 a14 a15 a16 x a20 a22 a27) g r := rfl
theorem mpn_18 {x : Nat} : (MW θ ad n g r).set 0 (ad 0, .inr (6, (mfs ad n g).set 18 (.int (nI x)))) = MW θ ad (nv (n 0) (n 1) (n 3) (n 5) (n 8) (n 10) (n 12) (n 13) (n 14) (n 15) (n 16) x (n 20) (n 22) (n 27)) g r := rfl
theorem mpv_20 {x : Nat} : (MW θ ad (nv a0 a1 a3 a5 a8 a10 a12 a13 a14 a15 a16 a18 a20 a22 a27) g r).set 0 (ad 0, .inr (6, (mfs ad (nv a0 a1 a3 a5 a8 a10 a12 a13 a14 a15 a16 a18 a20 a22 a27) g).set 20 (.int (nI x)))) = MW θ ad (nv a0 a1 a3 a5 a8 a10 a12 a13 a14 a15 a16 a18 x a22 a27) g r := rfl
theorem mpn_20 {x : Nat} : (MW θ ad n g r).set 0 (ad 0, .inr (6, (mfs ad n g).set 20 (.int (nI x)))) = MW θ ad (nv (n 0) (n 1) (n 3) (n 5) (n 8) (n 10) (n 12) (n 13) (n 14) (n 15) (n 16) (n 18) x (n 22) (n 27)) g r := rfl
theorem mpv_22 {x : Nat} : (MW θ ad (nv a0 a1 a3 a5 a8 a10 a12 a13 a14 a15 a16 a18 a20 a22 a27) g r).set 0 (ad 0, .inr (6, (mfs ad (nv a0 a1 a3 a5 a8 a10 a12 a13 a14 a15 a16 a18 a20 a22 a27) g).set 22 (.int (nI x)))) = MW θ ad (nv a0 a1 a3 a5 a8 a10 a12 a13 a14 a15 a16 a18 a20 x a27) g r := rfl
theorem mpn_22 {x : Nat} : (MW θ ad n g r).set 0 (ad 0, .inr (6, (mfs ad n g).set 22 (.int (nI x)))) = MW θ ad (nv (n 0) (n 1) (n 3) (n 5) (n 8) (n 10) (n 12) (n 13) (n 14) (n 15) (n 16) (n 18) (n 20) x (n 27)) g r := rfl
theorem mpv_27 {x : Nat} : (MW θ ad (nv a0 a1 a3 a5 a8 a10 a12 a13 a14 a15 a16 a18 a20 a22 a27) g r).set 0 (ad 0, .inr (6, (mfs ad (nv a0 a1 a3 a5 a8 a10 a12 a13 a14 a15 a16 a18 a20 a22 a27) g).set 27 (.int (nI x)))) = MW θ ad (nv a0 a1 a3 a5 a8 a10 a12 a13 a14 a15 a16 a18 a20 a22 x) g r := rfl
theorem mpn_27 {x : Nat} : (MW θ ad n g r).set 0 (ad 0, .inr (6, (mfs ad n g).set 27 (.int (nI x)))) = MW θ ad (nv (n 0) (n 1) (n 3) (n 5) (n 8) (n 10) (n 12) (n 13) (n 14) (n 15) (n 16) (n 18) (n 20) (n 22) x) g r := rfl
theorem mrv_2 : (MW θ ad n g (rv f2 f4 f6 f7 f9 f17 f19 f21 f23 f24 f25 f26 f28 f29 f30 f31 f32))[1]? = some (ad 2, .inl (θ.2.1, 6, .inl f2)) := rfl
theorem msv_2 {x : Nat → Int32} : (MW θ ad n g (rv f2 f4 f6 f7 f9 f17 f19 f21 f23 f24 f25 f26 f28 f29 f30 f31 f32)).set 1 (ad 2, .inl (θ.2.1, 6, .inl x)) = MW θ ad n g (rv x f4 f6 f7 f9 f17 f19 f21 f23 f24 f25 f26 f28 f29 f30 f31 f32) := rfl
theorem msn_2 {x : Nat → Int32} : (MW θ ad n g r).set 1 (ad 2, .inl (θ.2.1, 6, .inl x)) = MW θ ad n g (rv x (r 4) (r 6) (r 7) (r 9) (r 17) (r 19) (r 21) (r 23) (r 24) (r 25) (r 26) (r 28) (r 29) (r 30) (r 31) (r 32)) := rfl
theorem mrv_4 : (MW θ ad n g (rv f2 f4 f6 f7 f9 f17 f19 f21 f23 f24 f25 f26 f28 f29 f30 f31 f32))[2]? = some (ad 4, .inl (θ.2.1, 5, .inl f4)) := rfl
theorem msv_4 {x : Nat → Int32} : (MW θ ad n g (rv f2 f4 f6 f7 f9 f17 f19 f21 f23 f24 f25 f26 f28 f29 f30 f31 f32)).set 2 (ad 4, .inl (θ.2.1, 5, .inl x)) = MW θ ad n g (rv f2 x f6 f7 f9 f17 f19 f21 f23 f24 f25 f26 f28 f29 f30 f31 f32) := rfl
theorem msn_4 {x : Nat → Int32} : (MW θ ad n g r).set 2 (ad 4, .inl (θ.2.1, 5, .inl x)) = MW θ ad n g (rv (r 2) x (r 6) (r 7) (r 9) (r 17) (r 19) (r 21) (r 23) (r 24) (r 25) (r 26) (r 28) (r 29) (r 30) (r 31) (r 32)) := rfl
theorem mrv_6 : (MW θ ad n g (rv f2 f4 f6 f7 f9 f17 f19 f21 f23 f24 f25 f26 f28 f29 f30 f31 f32))[3]? = some (ad 6, .inl (θ.2.1, 6, .inl f6)) := rfl
theorem msv_6 {x : Nat → Int32} : (MW θ ad n g (rv f2 f4 f6 f7 f9 f17 f19 f21 f23 f24 f25 f26 f28 f29 f30 f31 f32)).set 3 (ad 6, .inl (θ.2.1, 6, .inl x)) = MW θ ad n g (rv f2 f4 x f7 f9 f17 f19 f21 f23 f24 f25 f26 f28 f29 f30 f31 f32) := rfl
theorem msn_6 {x : Nat → Int32} : (MW θ ad n g r).set 3 (ad 6, .inl (θ.2.1, 6, .inl x)) = MW θ ad n g (rv (r 2) (r 4) x (r 7) (r 9) (r 17) (r 19) (r 21) (r 23) (r 24) (r 25) (r 26) (r 28) (r 29) (r 30) (r 31) (r 32)) := rfl
theorem mrv_7 : (MW θ ad n g (rv f2 f4 f6 f7 f9 f17 f19 f21 f23 f24 f25 f26 f28 f29 f30 f31 f32))[4]? = some (ad 7, .inl (θ.2.1, 82, .inl f7)) := rfl
theorem msv_7 {x : Nat → Int32} : (MW θ ad n g (rv f2 f4 f6 f7 f9 f17 f19 f21 f23 f24 f25 f26 f28 f29 f30 f31 f32)).set 4 (ad 7, .inl (θ.2.1, 82, .inl x)) = MW θ ad n g (rv f2 f4 f6 x f9 f17 f19 f21 f23 f24 f25 f26 f28 f29 f30 f31 f32) := rfl
theorem msn_7 {x : Nat → Int32} : (MW θ ad n g r).set 4 (ad 7, .inl (θ.2.1, 82, .inl x)) = MW θ ad n g (rv (r 2) (r 4) (r 6) x (r 9) (r 17) (r 19) (r 21) (r 23) (r 24) (r 25) (r 26) (r 28) (r 29) (r 30) (r 31) (r 32)) := rfl
theorem mrv_9 : (MW θ ad n g (rv f2 f4 f6 f7 f9 f17 f19 f21 f23 f24 f25 f26 f28 f29 f30 f31 f32))[5]? = some (ad 9, .inl (θ.2.1, 240, .inl f9)) := rfl
theorem msv_9 {x : Nat → Int32} : (MW θ ad n g (rv f2 f4 f6 f7 f9 f17 f19 f21 f23 f24 f25 f26 f28 f29 f30 f31 f32)).set 5 (ad 9, .inl (θ.2.1, 240, .inl x)) = MW θ ad n g (rv f2 f4 f6 f7 x f17 f19 f21 f23 f24 f25 f26 f28 f29 f30 f31 f32) := rfl
theorem msn_9 {x : Nat → Int32} : (MW θ ad n g r).set 5 (ad 9, .inl (θ.2.1, 240, .inl x)) = MW θ ad n g (rv (r 2) (r 4) (r 6) (r 7) x (r 17) (r 19) (r 21) (r 23) (r 24) (r 25) (r 26) (r 28) (r 29) (r 30) (r 31) (r 32)) := rfl
theorem mrv_17 : (MW θ ad n g (rv f2 f4 f6 f7 f9 f17 f19 f21 f23 f24 f25 f26 f28 f29 f30 f31 f32))[6]? = some (ad 17, .inl (θ.2.1, 6, .inl f17)) := rfl
theorem msv_17 {x : Nat → Int32} : (MW θ ad n g (rv f2 f4 f6 f7 f9 f17 f19 f21 f23 f24 f25 f26 f28 f29 f30 f31 f32)).set 6 (ad 17, .inl (θ.2.1, 6, .inl x)) = MW θ ad n g (rv f2 f4 f6 f7 f9 x f19 f21 f23 f24 f25 f26 f28 f29 f30 f31 f32) := rfl
theorem msn_17 {x : Nat → Int32} : (MW θ ad n g r).set 6 (ad 17, .inl (θ.2.1, 6, .inl x)) = MW θ ad n g (rv (r 2) (r 4) (r 6) (r 7) (r 9) x (r 19) (r 21) (r 23) (r 24) (r 25) (r 26) (r 28) (r 29) (r 30) (r 31) (r 32)) := rfl
theorem mrv_19 : (MW θ ad n g (rv f2 f4 f6 f7 f9 f17 f19 f21 f23 f24 f25 f26 f28 f29 f30 f31 f32))[7]? = some (ad 19, .inl (θ.2.1, 5, .inl f19)) := rfl
theorem msv_19 {x : Nat → Int32} : (MW θ ad n g (rv f2 f4 f6 f7 f9 f17 f19 f21 f23 f24 f25 f26 f28 f29 f30 f31 f32)).set 7 (ad 19, .inl (θ.2.1, 5, .inl x)) = MW θ ad n g (rv f2 f4 f6 f7 f9 f17 x f21 f23 f24 f25 f26 f28 f29 f30 f31 f32) := rfl
theorem msn_19 {x : Nat → Int32} : (MW θ ad n g r).set 7 (ad 19, .inl (θ.2.1, 5, .inl x)) = MW θ ad n g (rv (r 2) (r 4) (r 6) (r 7) (r 9) (r 17) x (r 21) (r 23) (r 24) (r 25) (r 26) (r 28) (r 29) (r 30) (r 31) (r 32)) := rfl
theorem mrv_21 : (MW θ ad n g (rv f2 f4 f6 f7 f9 f17 f19 f21 f23 f24 f25 f26 f28 f29 f30 f31 f32))[8]? = some (ad 21, .inl (θ.2.1, 6, .inl f21)) := rfl
theorem msv_21 {x : Nat → Int32} : (MW θ ad n g (rv f2 f4 f6 f7 f9 f17 f19 f21 f23 f24 f25 f26 f28 f29 f30 f31 f32)).set 8 (ad 21, .inl (θ.2.1, 6, .inl x)) = MW θ ad n g (rv f2 f4 f6 f7 f9 f17 f19 x f23 f24 f25 f26 f28 f29 f30 f31 f32) := rfl
theorem msn_21 {x : Nat → Int32} : (MW θ ad n g r).set 8 (ad 21, .inl (θ.2.1, 6, .inl x)) = MW θ ad n g (rv (r 2) (r 4) (r 6) (r 7) (r 9) (r 17) (r 19) x (r 23) (r 24) (r 25) (r 26) (r 28) (r 29) (r 30) (r 31) (r 32)) := rfl
theorem mrv_23 : (MW θ ad n g (rv f2 f4 f6 f7 f9 f17 f19 f21 f23 f24 f25 f26 f28 f29 f30 f31 f32))[9]? = some (ad 23, .inl (θ.2.1, 1312, .inl f23)) := rfl
theorem msv_23 {x : Nat → Int32} : (MW θ ad n g (rv f2 f4 f6 f7 f9 f17 f19 f21 f23 f24 f25 f26 f28 f29 f30 f31 f32)).set 9 (ad 23, .inl (θ.2.1, 1312, .inl x)) = MW θ ad n g (rv f2 f4 f6 f7 f9 f17 f19 f21 x f24 f25 f26 f28 f29 f30 f31 f32) := rfl
theorem msn_23 {x : Nat → Int32} : (MW θ ad n g r).set 9 (ad 23, .inl (θ.2.1, 1312, .inl x)) = MW θ ad n g (rv (r 2) (r 4) (r 6) (r 7) (r 9) (r 17) (r 19) (r 21) x (r 24) (r 25) (r 26) (r 28) (r 29) (r 30) (r 31) (r 32)) := rfl
theorem mrv_24 : (MW θ ad n g (rv f2 f4 f6 f7 f9 f17 f19 f21 f23 f24 f25 f26 f28 f29 f30 f31 f32))[10]? = some (ad 24, .inl (θ.2.1, 6, .inl f24)) := rfl
theorem msv_24 {x : Nat → Int32} : (MW θ ad n g (rv f2 f4 f6 f7 f9 f17 f19 f21 f23 f24 f25 f26 f28 f29 f30 f31 f32)).set 10 (ad 24, .inl (θ.2.1, 6, .inl x)) = MW θ ad n g (rv f2 f4 f6 f7 f9 f17 f19 f21 f23 x f25 f26 f28 f29 f30 f31 f32) := rfl
theorem msn_24 {x : Nat → Int32} : (MW θ ad n g r).set 10 (ad 24, .inl (θ.2.1, 6, .inl x)) = MW θ ad n g (rv (r 2) (r 4) (r 6) (r 7) (r 9) (r 17) (r 19) (r 21) (r 23) x (r 25) (r 26) (r 28) (r 29) (r 30) (r 31) (r 32)) := rfl
theorem mrv_25 : (MW θ ad n g (rv f2 f4 f6 f7 f9 f17 f19 f21 f23 f24 f25 f26 f28 f29 f30 f31 f32))[11]? = some (ad 25, .inl (θ.2.1, 5, .inl f25)) := rfl
theorem msv_25 {x : Nat → Int32} : (MW θ ad n g (rv f2 f4 f6 f7 f9 f17 f19 f21 f23 f24 f25 f26 f28 f29 f30 f31 f32)).set 11 (ad 25, .inl (θ.2.1, 5, .inl x)) = MW θ ad n g (rv f2 f4 f6 f7 f9 f17 f19 f21 f23 f24 x f26 f28 f29 f30 f31 f32) := rfl
theorem msn_25 {x : Nat → Int32} : (MW θ ad n g r).set 11 (ad 25, .inl (θ.2.1, 5, .inl x)) = MW θ ad n g (rv (r 2) (r 4) (r 6) (r 7) (r 9) (r 17) (r 19) (r 21) (r 23) (r 24) x (r 26) (r 28) (r 29) (r 30) (r 31) (r 32)) := rfl
theorem mrv_26 : (MW θ ad n g (rv f2 f4 f6 f7 f9 f17 f19 f21 f23 f24 f25 f26 f28 f29 f30 f31 f32))[12]? = some (ad 26, .inl (θ.2.1, 30, .inl f26)) := rfl
theorem msv_26 {x : Nat → Int32} : (MW θ ad n g (rv f2 f4 f6 f7 f9 f17 f19 f21 f23 f24 f25 f26 f28 f29 f30 f31 f32)).set 12 (ad 26, .inl (θ.2.1, 30, .inl x)) = MW θ ad n g (rv f2 f4 f6 f7 f9 f17 f19 f21 f23 f24 f25 x f28 f29 f30 f31 f32) := rfl
theorem msn_26 {x : Nat → Int32} : (MW θ ad n g r).set 12 (ad 26, .inl (θ.2.1, 30, .inl x)) = MW θ ad n g (rv (r 2) (r 4) (r 6) (r 7) (r 9) (r 17) (r 19) (r 21) (r 23) (r 24) (r 25) x (r 28) (r 29) (r 30) (r 31) (r 32)) := rfl
theorem mrv_28 : (MW θ ad n g (rv f2 f4 f6 f7 f9 f17 f19 f21 f23 f24 f25 f26 f28 f29 f30 f31 f32))[13]? = some (ad 28, .inl (θ.2.1, 6, .inl f28)) := rfl
theorem msv_28 {x : Nat → Int32} : (MW θ ad n g (rv f2 f4 f6 f7 f9 f17 f19 f21 f23 f24 f25 f26 f28 f29 f30 f31 f32)).set 13 (ad 28, .inl (θ.2.1, 6, .inl x)) = MW θ ad n g (rv f2 f4 f6 f7 f9 f17 f19 f21 f23 f24 f25 f26 x f29 f30 f31 f32) := rfl
theorem msn_28 {x : Nat → Int32} : (MW θ ad n g r).set 13 (ad 28, .inl (θ.2.1, 6, .inl x)) = MW θ ad n g (rv (r 2) (r 4) (r 6) (r 7) (r 9) (r 17) (r 19) (r 21) (r 23) (r 24) (r 25) (r 26) x (r 29) (r 30) (r 31) (r 32)) := rfl
theorem mrv_29 : (MW θ ad n g (rv f2 f4 f6 f7 f9 f17 f19 f21 f23 f24 f25 f26 f28 f29 f30 f31 f32))[14]? = some (ad 29, .inl (θ.2.1, 6, .inl f29)) := rfl
theorem msv_29 {x : Nat → Int32} : (MW θ ad n g (rv f2 f4 f6 f7 f9 f17 f19 f21 f23 f24 f25 f26 f28 f29 f30 f31 f32)).set 14 (ad 29, .inl (θ.2.1, 6, .inl x)) = MW θ ad n g (rv f2 f4 f6 f7 f9 f17 f19 f21 f23 f24 f25 f26 f28 x f30 f31 f32) := rfl
theorem msn_29 {x : Nat → Int32} : (MW θ ad n g r).set 14 (ad 29, .inl (θ.2.1, 6, .inl x)) = MW θ ad n g (rv (r 2) (r 4) (r 6) (r 7) (r 9) (r 17) (r 19) (r 21) (r 23) (r 24) (r 25) (r 26) (r 28) x (r 30) (r 31) (r 32)) := rfl
theorem mrv_30 : (MW θ ad n g (rv f2 f4 f6 f7 f9 f17 f19 f21 f23 f24 f25 f26 f28 f29 f30 f31 f32))[15]? = some (ad 30, .inl (θ.2.1, 30, .inl f30)) := rfl
theorem msv_30 {x : Nat → Int32} : (MW θ ad n g (rv f2 f4 f6 f7 f9 f17 f19 f21 f23 f24 f25 f26 f28 f29 f30 f31 f32)).set 15 (ad 30, .inl (θ.2.1, 30, .inl x)) = MW θ ad n g (rv f2 f4 f6 f7 f9 f17 f19 f21 f23 f24 f25 f26 f28 f29 x f31 f32) := rfl
theorem msn_30 {x : Nat → Int32} : (MW θ ad n g r).set 15 (ad 30, .inl (θ.2.1, 30, .inl x)) = MW θ ad n g (rv (r 2) (r 4) (r 6) (r 7) (r 9) (r 17) (r 19) (r 21) (r 23) (r 24) (r 25) (r 26) (r 28) (r 29) x (r 31) (r 32)) := rfl
theorem mrv_31 : (MW θ ad n g (rv f2 f4 f6 f7 f9 f17 f19 f21 f23 f24 f25 f26 f28 f29 f30 f31 f32))[16]? = some (ad 31, .inl (θ.2.1, 166, .inl f31)) := rfl
theorem msv_31 {x : Nat → Int32} : (MW θ ad n g (rv f2 f4 f6 f7 f9 f17 f19 f21 f23 f24 f25 f26 f28 f29 f30 f31 f32)).set 16 (ad 31, .inl (θ.2.1, 166, .inl x)) = MW θ ad n g (rv f2 f4 f6 f7 f9 f17 f19 f21 f23 f24 f25 f26 f28 f29 f30 x f32) := rfl
theorem msn_31 {x : Nat → Int32} : (MW θ ad n g r).set 16 (ad 31, .inl (θ.2.1, 166, .inl x)) = MW θ ad n g (rv (r 2) (r 4) (r 6) (r 7) (r 9) (r 17) (r 19) (r 21) (r 23) (r 24) (r 25) (r 26) (r 28) (r 29) (r 30) x (r 32)) := rfl
theorem mrv_32 : (MW θ ad n g (rv f2 f4 f6 f7 f9 f17 f19 f21 f23 f24 f25 f26 f28 f29 f30 f31 f32))[17]? = some (ad 32, .inl (θ.2.2.1, 2, .inl f32)) := rfl
theorem msv_32 {x : Nat → Int32} : (MW θ ad n g (rv f2 f4 f6 f7 f9 f17 f19 f21 f23 f24 f25 f26 f28 f29 f30 f31 f32)).set 17 (ad 32, .inl (θ.2.2.1, 2, .inl x)) = MW θ ad n g (rv f2 f4 f6 f7 f9 f17 f19 f21 f23 f24 f25 f26 f28 f29 f30 f31 x) := rfl
theorem msn_32 {x : Nat → Int32} : (MW θ ad n g r).set 17 (ad 32, .inl (θ.2.2.1, 2, .inl x)) = MW θ ad n g (rv (r 2) (r 4) (r 6) (r 7) (r 9) (r 17) (r 19) (r 21) (r 23) (r 24) (r 25) (r 26) (r 28) (r 29) (r 30) (r 31) x) := rfl
theorem mfv_0 : (mfs ad (nv a0 a1 a3 a5 a8 a10 a12 a13 a14 a15 a16 a18 a20 a22 a27) g)[0]? = some (.int (nI a0)) := rfl
theorem mfv_1 : (mfs ad (nv a0 a1 a3 a5 a8 a10 a12 a13 a14 a15 a16 a18 a20 a22 a27) g)[1]? = some (.int (nI a1)) := rfl
theorem mfv_3 : (mfs ad (nv a0 a1 a3 a5 a8 a10 a12 a13 a14 a15 a16 a18 a20 a22 a27) g)[3]? = some (.int (nI a3)) := rfl
theorem mfv_5 : (mfs ad (nv a0 a1 a3 a5 a8 a10 a12 a13 a14 a15 a16 a18 a20 a22 a27) g)[5]? = some (.int (nI a5)) := rfl
theorem mfv_8 : (mfs ad (nv a0 a1 a3 a5 a8 a10 a12 a13 a14 a15 a16 a18 a20 a22 a27) g)[8]? = some (.int (nI a8)) := rfl
theorem mfv_10 : (mfs ad (nv a0 a1 a3 a5 a8 a10 a12 a13 a14 a15 a16 a18 a20 a22 a27) g)[10]? = some (.int (nI a10)) := rfl
theorem mfv_12 : (mfs ad (nv a0 a1 a3 a5 a8 a10 a12 a13 a14 a15 a16 a18 a20 a22 a27) g)[12]? = some (.int (nI a12)) := rfl
theorem mfv_13 : (mfs ad (nv a0 a1 a3 a5 a8 a10 a12 a13 a14 a15 a16 a18 a20 a22 a27) g)[13]? = some (.int (nI a13)) := rfl
theorem mfv_14 : (mfs ad (nv a0 a1 a3 a5 a8 a10 a12 a13 a14 a15 a16 a18 a20 a22 a27) g)[14]? = some (.int (nI a14)) := rfl
theorem mfv_15 : (mfs ad (nv a0 a1 a3 a5 a8 a10 a12 a13 a14 a15 a16 a18 a20 a22 a27) g)[15]? = some (.int (nI a15)) := rfl
theorem mfv_16 : (mfs ad (nv a0 a1 a3 a5 a8 a10 a12 a13 a14 a15 a16 a18 a20 a22 a27) g)[16]? = some (.int (nI a16)) := rfl
theorem mfv_18 : (mfs ad (nv a0 a1 a3 a5 a8 a10 a12 a13 a14 a15 a16 a18 a20 a22 a27) g)[18]? = some (.int (nI a18)) := rfl
theorem mfv_20 : (mfs ad (nv a0 a1 a3 a5 a8 a10 a12 a13 a14 a15 a16 a18 a20 a22 a27) g)[20]? = some (.int (nI a20)) := rfl
theorem mfv_22 : (mfs ad (nv a0 a1 a3 a5 a8 a10 a12 a13 a14 a15 a16 a18 a20 a22 a27) g)[22]? = some (.int (nI a22)) := rfl
theorem mfv_27 : (mfs ad (nv a0 a1 a3 a5 a8 a10 a12 a13 a14 a15 a16 a18 a20 a22 a27) g)[27]? = some (.int (nI a27)) := rfl
end MV
