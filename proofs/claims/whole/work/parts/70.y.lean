/-! the judgement yJ: as Z, with the cells and slots counted that were made; any room -/
def yJ (κ : zX) (X : va_W) (kc ks : Nat) (pc : Nat) (lv : List (Nat × Value)) (st : List Value) : Prop := match κ with
  | (p, l, e, R, s, m, args, below, meth, c, Q, A, θ, n) => ∀ (H : Heap) (locs : List Loc) (ls : Array Slot), va_P θ.1 vwCl X H → va_D A X → va_S A s.heap H locs → lv_has ls n lv → W p l e R s m args below meth c H locs kc ks Q (F0 m pc ls st)
def yC (κ : zX) (l0 : Launch) (cc : ByteArray) (n0 : Nat) (own : String) (Ts : List Cond) (R0 : Room) (θ0 : zH) : Prop := match κ with
  | (p, l, _, R, s, m, args, _, _, c, _, A, θ, n) => l = l0 ∧ n = n0 ∧ θ = θ0 ∧ R = R0 ∧ p.tables.exec = Jvm.exec ∧ c.code = cc ∧ c.maxLocals = n ∧ s.vm.findClass own = some m.cls ∧ (∀ w ∈ Ts, w.before args s = true) ∧ va_K θ.1 vwCl (zty θ) s ∧ zN s ∧ va_AO "GnatPortraits$Evening" s ∧ ∀ q, s.heap.size ≤ q → A q
def yI (κ : zX) : Prop := match κ with
  | (_, _, _, _, _, _, _, _, meth, _, _, _, _, _) => meth.name = "<init>"
/-- the script, in the law -/
def yS (κ : zX) (b L : Nat) (xs : Nat → Int32) : Prop := match κ with
  | (_, _, _, _, s, _, _, _, _, _, _, A, _, _) => va_X b L xs s s.heap ∧ b < s.heap.size ∧ ¬ A b
/-! worlds by membership, moved about -/
theorem y_Pm {D : va_G} {cl : List vw_C} {X : va_W} {H : Heap} : va_P D cl X H ↔ ∀ q ∈ X, va_at D cl q H :=
  ⟨fun h q hq => by obtain ⟨k, hk⟩ := List.getElem?_of_mem hq; exact h k q hk, fun h k q hk => h q (List.mem_of_getElem? hk)⟩
theorem y_Dn {A : Nat → Prop} {X : va_W} (h : va_D A X) : (X.map Prod.fst).Nodup ∧ ∀ q ∈ X, A q.1 := by
  refine ⟨?_, fun q hq => ?_⟩
  · unfold List.Nodup
    rw [List.pairwise_map, List.pairwise_iff_getElem]
    intro i j hi hj hij e
    have := h.1 i j _ _ (List.getElem?_eq_getElem hi) (List.getElem?_eq_getElem hj) e
    omega
  · obtain ⟨k, hk⟩ := List.getElem?_of_mem hq
    exact h.2 k q hk
theorem y_nD {A : Nat → Prop} {X : va_W} (h : (X.map Prod.fst).Nodup) (h2 : ∀ q ∈ X, A q.1) : va_D A X := by
  refine ⟨fun i j p q hi hj e => ?_, fun k q hk => h2 q (List.mem_of_getElem? hk)⟩
  unfold List.Nodup at h
  rw [List.pairwise_map, List.pairwise_iff_getElem] at h
  obtain ⟨hi1, hi2⟩ := List.getElem?_eq_some_iff.mp hi
  obtain ⟨hj1, hj2⟩ := List.getElem?_eq_some_iff.mp hj
  rcases Nat.lt_trichotomy i j with z | z | z
  · exact absurd (by rw [hi2, hj2]; exact e) (h i j hi1 hj1 z)
  · exact z
  · exact absurd (by rw [hi2, hj2]; exact e.symm) (h j i hj1 hi1 z)
theorem y_permP {D : va_G} {cl : List vw_C} {X X' : va_W} {H : Heap} (hp : X.Perm X') (h : va_P D cl X H) : va_P D cl X' H := y_Pm.mpr (fun q hq => y_Pm.mp h q (hp.mem_iff.mpr hq))
theorem y_permD {A : Nat → Prop} {X X' : va_W} (hp : X.Perm X') (h : va_D A X) : va_D A X' := y_nD ((hp.map Prod.fst).nodup_iff.mp (y_Dn h).1) (fun q hq => (y_Dn h).2 q (hp.mem_iff.mpr hq))
theorem y_Pr {D : va_G} {cl : List vw_C} {F X : va_W} {H : Heap} (h : va_P D cl (F ++ X) H) : va_P D cl X H := y_Pm.mpr (fun q hq => y_Pm.mp h q (List.mem_append_right _ hq))
theorem y_Pl {D : va_G} {cl : List vw_C} {F X : va_W} {H : Heap} (h : va_P D cl (F ++ X) H) : va_P D cl F H := y_Pm.mpr (fun q hq => y_Pm.mp h q (List.mem_append_left _ hq))
theorem y_Dr {A : Nat → Prop} {F X : va_W} (h : va_D A (F ++ X)) : va_D A X := by
  obtain ⟨h1, h2⟩ := y_Dn h
  rw [List.map_append] at h1
  exact y_nD (List.nodup_append.mp h1).2.1 (fun q hq => h2 q (List.mem_append_right _ hq))
theorem y_Dl {A : Nat → Prop} {F X : va_W} (h : va_D A (F ++ X)) : va_D A F := by
  obtain ⟨h1, h2⟩ := y_Dn h
  rw [List.map_append] at h1
  exact y_nD (List.nodup_append.mp h1).1 (fun q hq => h2 q (List.mem_append_left _ hq))
theorem y_Dx {A : Nat → Prop} {F X : va_W} (h : va_D A (F ++ X)) {p q : Nat × va_E} (hp : p ∈ F) (hq : q ∈ X) : p.1 ≠ q.1 := by
  obtain ⟨h1, -⟩ := y_Dn h
  rw [List.map_append] at h1
  exact (List.nodup_append.mp h1).2.2 p.1 (List.mem_map.mpr ⟨p, hp, rfl⟩) q.1 (List.mem_map.mpr ⟨q, hq, rfl⟩)
/-- behind a call on X: the frame F stands -/
theorem y_join {A0 : Nat → Prop} {D : va_G} {cl : List vw_C} {F X Y : va_W} {H H1 : Heap} (hP : va_P D cl (F ++ X) H) (hD : va_D A0 (F ++ X)) (hk : ∀ q : Nat, q < H.size → ¬ va_A X H.size q → H1[q]? = H[q]?) (hF : ∀ q, va_A X H.size q → A0 q) (hP1 : va_P D cl Y H1) (hD1 : va_D (va_A X H.size) Y) : va_P D cl (F ++ Y) H1 ∧ va_D A0 (F ++ Y) := by
  have hPF := y_Pl hP
  have apart : ∀ q ∈ F, q.1 < H.size ∧ ¬ va_A X H.size q.1 := by
    intro q hq
    have hl := (y_Pm.mp hPF q hq).lt
    refine ⟨hl, fun h => ?_⟩
    rcases h with ⟨k2, e, h⟩ | h
    · exact y_Dx hD hq (List.mem_of_getElem? h) rfl
    · omega
  refine ⟨va_P.app (y_Pm.mpr (fun q hq => ?_)) hP1, va_D.app (y_Dl hD) (hD1.weaken (fun k q _ h => hF q.1 h)) (fun i j x y hx hy hxy => ?_)⟩
  · obtain ⟨g1, g2⟩ := apart q hq
    exact (y_Pm.mp hPF q hq).kept (hk q.1 g1 g2)
  · exact (apart x (List.mem_of_getElem? hx)).2 (by rw [hxy]; exact hD1.2 j y hy)
/-! contracts of makers -/
def yr (k mc ms : Nat) : Room := { frames := k, cells := mc, slots := ms, locals := 40 * k }
def yPc (θ : zH) (av : List Value) (X : va_W) (sz : Nat) : Array Value → State → Prop := va_Pc av (fun U => U.heap.size = sz ∧ va_P θ.1 vwCl X U.heap ∧ va_K θ.1 vwCl (zty θ) U ∧ zN U ∧ va_AO "GnatPortraits$Evening" U ∧ va_D (fun _ => True) X)
def cMk (l : Launch) (y : MethodName) (wl : List Cond) (k mc ms : Nat) (θ : zH) (av : List Value) (X : va_W) (post : va_W → Prop) : Prop := ∀ sz : Nat, Met l y wl (yr k mc ms) (yPc θ av X sz) (va_Qv post (zB θ X sz) (va_A X sz)) mc ms (va_A X sz)
theorem yPc_blind {θ : zH} {av : List Value} {X : va_W} {sz : Nat} : FrameBlind (yPc θ av X sz) := fun a U g mk q => by
  obtain ⟨q0, q1, qP, qK, qN, qO, qD⟩ := q
  exact ⟨q0, q1, qP, va_K.moved (u := U) (U := U.calling g mk a) (Vm.Alike.refl U.vm) qK, zN.same (u := U) (U := U.calling g mk a) rfl qN, va_AO.moved (u := U) (U := U.calling g mk a) (Vm.Alike.refl U.vm) qO, qD⟩
set_option maxHeartbeats 1000000 in
theorem y_cN {l : Launch} {y : MethodName} {wl ws' : List Cond} {cc : ByteArray} {n k mc ms : Nat} {θ : zH} {av : List Value} {X : va_W} {post : va_W → Prop} {lv : List (Nat × Value)} {own : String} (hy : plainName y.cls = true) (hyn : y.name = "<init>") (hw : wl = Cond.code y cc n none :: ws') (hown : y.cls = own) (hlen : (lg_sl av).length ≤ n) (hlv : lv_args 0 av = lv)
    (body : ∀ κ : zX, yC κ l cc n own wl (yr k mc ms) θ → yI κ → (∀ (Y : va_W) (pc : Nat) (lv' : List (Nat × Value)), post Y → decode cc pc = .ok (.return_, 1) → yJ κ Y mc ms pc lv' []) → yJ κ X 0 0 0 lv []) : cMk l y wl k mc ms θ av X post := by
  intro sz
  refine Met.ofW (cc := cc) (maxL := n) (ret := none) hy hw ?_
  intro p e s m args below meth c s₁ B hml hv
  obtain ⟨rfl, hsz, hP, hK, hN, hO, hD0⟩ := hv
  subst hsz
  have hown' : s.vm.findClass own = some m.cls := by rw [← hown]; exact findClass_of_methodNamed B.named
  have hts := atoms_spec (ws := wl) B.pre
  have hr := B.returns
  have hx := B.exec
  have hb := B.bytes
  have hlocks := B.notSynchronized
  have hin : meth.name = "<init>" := (name_of_methodNamed B.named B.method).1.trans hyn
  have hA : ∀ q : Nat, s.heap.size ≤ q → va_A X s.heap.size q := fun q h => Or.inr h
  have h := body (p, l, e, yr k mc ms, s, m, av.toArray, below, meth, c, MQ below (va_Qv post (zB θ X s.heap.size) (va_A X s.heap.size)) av.toArray s mc ms (va_A X s.heap.size), va_A X s.heap.size, θ, n)
    ⟨rfl, rfl, rfl, rfl, hx, hb, hml, hown', hts, hK, hN, hO, hA⟩ hin (fun Y pc lv' hp hd H locs ls hP hD hS hl => by
      exact W.vret hx hb hr (fun t ht hW => ⟨⟨Y, rfl, hp, by rw [ht]; exact hP, hD⟩, hS.F ht⟩) hS.2.2 hd hlocks)
  have hl := lv_entry av (n := n) hlen
  rw [lg_entry_eq]
  rw [hlv] at hl
  exact h s.heap [] _ hP hD0.self va_S.rf hl
section YR
variable {κ : zX} {l0 : Launch} {cc : ByteArray} {n0 : Nat} {own : String} {Ts : List Cond} {R0 : Room} {θ : zH} {X : va_W} {kc ks : Nat} {pc : Nat} {lv : List (Nat × Value)} {st : List Value}
theorem y_lv {lv' : List (Nat × Value)} (h : lv'.map (fun q => zlk lv q.1) = lv'.map (fun q => some q.2)) (kk : yJ κ X kc ks pc lv' st) : yJ κ X kc ks pc lv st := by
  obtain ⟨p, l, e, R, s, m, args, below, meth, c, Q, A, θ', n⟩ := κ
  intro H locs ls hP hD hS hl
  refine kk H locs ls hP hD hS ⟨hl.1, hl.2.1, fun q hq => ?_⟩
  have h2 := List.map_inj_left.mp h q hq
  exact zlk_has hl h2
theorem y_X {Y : va_W} (h : X = Y) (kk : yJ κ Y kc ks pc lv st) : yJ κ X kc ks pc lv st := h ▸ kk
theorem y_st {st' : List Value} (h : st = st') (kk : yJ κ X kc ks pc lv st') : yJ κ X kc ks pc lv st := h ▸ kk
theorem y_iconst (C : yC κ l0 cc n0 own Ts R0 θ) {i : Int} {v : Int32} (hd : decode cc pc = .ok (.iconst i, 1)) (hv : Int32.ofInt i = v) (kk : yJ κ X kc ks (pc + 1) lv (.int v :: st)) : yJ κ X kc ks pc lv st := by
  obtain ⟨p, l, e, R, s, m, args, below, meth, c, Q, A, θ', n⟩ := κ
  obtain ⟨rfl, rfl, rfl, hR, hx, hb, hml, hown, hts, hK, hN, hO, hA⟩ := C
  subst hR
  intro H locs ls hP hD hS hl
  exact lv_iconst hx hb hd hv (kk H locs ls hP hD hS hl)
theorem y_bipush (C : yC κ l0 cc n0 own Ts R0 θ) {i : Int} {v : Int32} (hd : decode cc pc = .ok (.bipush i, 2)) (hv : (Int8.ofInt i).toInt32 = v) (kk : yJ κ X kc ks (pc + 2) lv (.int v :: st)) : yJ κ X kc ks pc lv st := by
  obtain ⟨p, l, e, R, s, m, args, below, meth, c, Q, A, θ', n⟩ := κ
  obtain ⟨rfl, rfl, rfl, hR, hx, hb, hml, hown, hts, hK, hN, hO, hA⟩ := C
  subst hR
  intro H locs ls hP hD hS hl
  exact lv_bipush hx hb hd hv (kk H locs ls hP hD hS hl)
theorem y_sipush (C : yC κ l0 cc n0 own Ts R0 θ) {i : Int} {v : Int32} (hd : decode cc pc = .ok (.sipush i, 3)) (hv : (Int16.ofInt i).toInt32 = v) (kk : yJ κ X kc ks (pc + 3) lv (.int v :: st)) : yJ κ X kc ks pc lv st := by
  obtain ⟨p, l, e, R, s, m, args, below, meth, c, Q, A, θ', n⟩ := κ
  obtain ⟨rfl, rfl, rfl, hR, hx, hb, hml, hown, hts, hK, hN, hO, hA⟩ := C
  subst hR
  intro H locs ls hP hD hS hl
  exact lv_sipush hx hb hd hv (kk H locs ls hP hD hS hl)
theorem y_iload_n (C : yC κ l0 cc n0 own Ts R0 θ) {j : Fin 4} {i : Nat} {x : Int32} (hd : decode cc pc = .ok (.iload_n j, 1)) (hi : (j : Nat) = i) (h : zlk lv i = some (.int x)) (kk : yJ κ X kc ks (pc + 1) lv (.int x :: st)) : yJ κ X kc ks pc lv st := by
  obtain ⟨p, l, e, R, s, m, args, below, meth, c, Q, A, θ', n⟩ := κ
  obtain ⟨rfl, rfl, rfl, hR, hx, hb, hml, hown, hts, hK, hN, hO, hA⟩ := C
  subst hR
  intro H locs ls hP hD hS hl
  exact lv_iload_n hx hb hd hi (zlk_has hl h) (kk H locs ls hP hD hS hl)
theorem y_istore_n (C : yC κ l0 cc n0 own Ts R0 θ) {j : Fin 4} {i : Nat} {x : Int32} (lv' : List (Nat × Value)) (hd : decode cc pc = .ok (.istore_n j, 1)) (hi : (j : Nat) = i) (hn : i < n0) (h : (i, Value.int x) :: lv.filter (fun q => !(q.1 == i) && !(q.1 + 1 == i && q.2.category == 2)) = lv') (kk : yJ κ X kc ks (pc + 1) lv' st) : yJ κ X kc ks pc lv (.int x :: st) := by
  obtain ⟨p, l, e, R, s, m, args, below, meth, c, Q, A, θ', n⟩ := κ
  obtain ⟨rfl, rfl, rfl, hR, hx, hb, hml, hown, hts, hK, hN, hO, hA⟩ := C
  subst hR
  intro H locs ls hP hD hS hl
  exact lv_istore_n hx hb hd hi hl hn h (fun ls hl => kk H locs ls hP hD hS hl)
theorem y_aload_n (C : yC κ l0 cc n0 own Ts R0 θ) {j : Fin 4} {i : Nat} {x : Nat} (hd : decode cc pc = .ok (.aload_n j, 1)) (hi : (j : Nat) = i) (h : zlk lv i = some (.ref x)) (kk : yJ κ X kc ks (pc + 1) lv (.ref x :: st)) : yJ κ X kc ks pc lv st := by
  obtain ⟨p, l, e, R, s, m, args, below, meth, c, Q, A, θ', n⟩ := κ
  obtain ⟨rfl, rfl, rfl, hR, hx, hb, hml, hown, hts, hK, hN, hO, hA⟩ := C
  subst hR
  intro H locs ls hP hD hS hl
  exact lv_aload_n hx hb hd hi (zlk_has hl h) (kk H locs ls hP hD hS hl)
theorem y_astore_n (C : yC κ l0 cc n0 own Ts R0 θ) {j : Fin 4} {i : Nat} {x : Nat} (lv' : List (Nat × Value)) (hd : decode cc pc = .ok (.astore_n j, 1)) (hi : (j : Nat) = i) (hn : i < n0) (h : (i, Value.ref x) :: lv.filter (fun q => !(q.1 == i) && !(q.1 + 1 == i && q.2.category == 2)) = lv') (kk : yJ κ X kc ks (pc + 1) lv' st) : yJ κ X kc ks pc lv (.ref x :: st) := by
  obtain ⟨p, l, e, R, s, m, args, below, meth, c, Q, A, θ', n⟩ := κ
  obtain ⟨rfl, rfl, rfl, hR, hx, hb, hml, hown, hts, hK, hN, hO, hA⟩ := C
  subst hR
  intro H locs ls hP hD hS hl
  exact lv_astore_n hx hb hd hi hl hn h (fun ls hl => kk H locs ls hP hD hS hl)
theorem y_iinc (C : yC κ l0 cc n0 own Ts R0 θ) {i : Nat} {j : Int} {x v : Int32} (lv' : List (Nat × Value)) (hd : decode cc pc = .ok (.iinc i j, 3)) (hk : zlk lv i = some (.int x)) (hv : x + Int32.ofInt j = v) (hn : i < n0) (h : (i, Value.int v) :: lv.filter (fun q => !(q.1 == i) && !(q.1 + 1 == i && q.2.category == 2)) = lv') (kk : yJ κ X kc ks (pc + 3) lv' st) : yJ κ X kc ks pc lv st := by
  obtain ⟨p, l, e, R, s, m, args, below, meth, c, Q, A, θ', n⟩ := κ
  obtain ⟨rfl, rfl, rfl, hR, hx, hb, hml, hown, hts, hK, hN, hO, hA⟩ := C
  subst hR
  intro H locs ls hP hD hS hl
  obtain ⟨k0, hk0⟩ := zlk_mem hk
  exact lv_iinc hx hb hd hl hk0 hv hn h (fun ls hl => kk H locs ls hP hD hS hl)
theorem y_iadd (C : yC κ l0 cc n0 own Ts R0 θ) {x y : Int32} (hd : decode cc pc = .ok (.iadd, 1)) (kk : yJ κ X kc ks (pc + 1) lv (.int (x + y) :: st)) : yJ κ X kc ks pc lv (.int y :: .int x :: st) := by
  obtain ⟨p, l, e, R, s, m, args, below, meth, c, Q, A, θ', n⟩ := κ
  obtain ⟨rfl, rfl, rfl, hR, hx, hb, hml, hown, hts, hK, hN, hO, hA⟩ := C
  subst hR
  intro H locs ls hP hD hS hl
  exact lv_iadd hx hb hd (kk H locs ls hP hD hS hl)
theorem y_isub (C : yC κ l0 cc n0 own Ts R0 θ) {x y : Int32} (hd : decode cc pc = .ok (.isub, 1)) (kk : yJ κ X kc ks (pc + 1) lv (.int (x - y) :: st)) : yJ κ X kc ks pc lv (.int y :: .int x :: st) := by
  obtain ⟨p, l, e, R, s, m, args, below, meth, c, Q, A, θ', n⟩ := κ
  obtain ⟨rfl, rfl, rfl, hR, hx, hb, hml, hown, hts, hK, hN, hO, hA⟩ := C
  subst hR
  intro H locs ls hP hD hS hl
  exact lv_isub hx hb hd (kk H locs ls hP hD hS hl)
theorem y_iand (C : yC κ l0 cc n0 own Ts R0 θ) {x y : Int32} (hd : decode cc pc = .ok (.iand, 1)) (kk : yJ κ X kc ks (pc + 1) lv (.int (x &&& y) :: st)) : yJ κ X kc ks pc lv (.int y :: .int x :: st) := by
  obtain ⟨p, l, e, R, s, m, args, below, meth, c, Q, A, θ', n⟩ := κ
  obtain ⟨rfl, rfl, rfl, hR, hx, hb, hml, hown, hts, hK, hN, hO, hA⟩ := C
  subst hR
  intro H locs ls hP hD hS hl
  exact lv_iand hx hb hd (kk H locs ls hP hD hS hl)
theorem y_dup (C : yC κ l0 cc n0 own Ts R0 θ) {v : Value} (hd : decode cc pc = .ok (.dup, 1)) (hv : v.category = 1) (kk : yJ κ X kc ks (pc + 1) lv (v :: v :: st)) : yJ κ X kc ks pc lv (v :: st) := by
  obtain ⟨p, l, e, R, s, m, args, below, meth, c, Q, A, θ', n⟩ := κ
  obtain ⟨rfl, rfl, rfl, hR, hx, hb, hml, hown, hts, hK, hN, hO, hA⟩ := C
  subst hR
  intro H locs ls hP hD hS hl
  exact lv_dup hx hb hd hv (kk H locs ls hP hD hS hl)
theorem y_icmp_ge (C : yC κ l0 cc n0 own Ts R0 θ) {x y : Int32} {off : Int} (tgt : Nat) (hd : decode cc pc = .ok (.if_icmp .ge off, 3)) (ht : (pc : Int) + off = (tgt : Int)) (kt : y ≤ x → yJ κ X kc ks tgt lv st) (kn : ¬ y ≤ x → yJ κ X kc ks (pc + 3) lv st) : yJ κ X kc ks pc lv (.int y :: .int x :: st) := by
  obtain ⟨p, l, e, R, s, m, args, below, meth, c, Q, A, θ', n⟩ := κ
  obtain ⟨rfl, rfl, rfl, hR, hx, hb, hml, hown, hts, hK, hN, hO, hA⟩ := C
  subst hR
  intro H locs ls hP hD hS hl
  exact lv_icmp_ge hx hb hd ht (fun h => kt h H locs ls hP hD hS hl) (fun h => kn h H locs ls hP hD hS hl)
theorem y_icmp_gt (C : yC κ l0 cc n0 own Ts R0 θ) {x y : Int32} {off : Int} (tgt : Nat) (hd : decode cc pc = .ok (.if_icmp .gt off, 3)) (ht : (pc : Int) + off = (tgt : Int)) (kt : y < x → yJ κ X kc ks tgt lv st) (kn : ¬ y < x → yJ κ X kc ks (pc + 3) lv st) : yJ κ X kc ks pc lv (.int y :: .int x :: st) := by
  obtain ⟨p, l, e, R, s, m, args, below, meth, c, Q, A, θ', n⟩ := κ
  obtain ⟨rfl, rfl, rfl, hR, hx, hb, hml, hown, hts, hK, hN, hO, hA⟩ := C
  subst hR
  intro H locs ls hP hD hS hl
  exact lv_icmp_gt hx hb hd ht (fun h => kt h H locs ls hP hD hS hl) (fun h => kn h H locs ls hP hD hS hl)
theorem y_icmp_eq (C : yC κ l0 cc n0 own Ts R0 θ) {x y : Int32} {off : Int} (tgt : Nat) (hd : decode cc pc = .ok (.if_icmp .eq off, 3)) (ht : (pc : Int) + off = (tgt : Int)) (kt : x = y → yJ κ X kc ks tgt lv st) (kn : ¬ x = y → yJ κ X kc ks (pc + 3) lv st) : yJ κ X kc ks pc lv (.int y :: .int x :: st) := by
  obtain ⟨p, l, e, R, s, m, args, below, meth, c, Q, A, θ', n⟩ := κ
  obtain ⟨rfl, rfl, rfl, hR, hx, hb, hml, hown, hts, hK, hN, hO, hA⟩ := C
  subst hR
  intro H locs ls hP hD hS hl
  exact lv_icmp_eq hx hb hd ht (fun h => kt h H locs ls hP hD hS hl) (fun h => kn h H locs ls hP hD hS hl)
theorem y_if_eq (C : yC κ l0 cc n0 own Ts R0 θ) {x : Int32} {off : Int} (tgt : Nat) (hd : decode cc pc = .ok (.ifCond .eq off, 3)) (ht : (pc : Int) + off = (tgt : Int)) (kt : x = 0 → yJ κ X kc ks tgt lv st) (kn : ¬ x = 0 → yJ κ X kc ks (pc + 3) lv st) : yJ κ X kc ks pc lv (.int x :: st) := by
  obtain ⟨p, l, e, R, s, m, args, below, meth, c, Q, A, θ', n⟩ := κ
  obtain ⟨rfl, rfl, rfl, hR, hx, hb, hml, hown, hts, hK, hN, hO, hA⟩ := C
  subst hR
  intro H locs ls hP hD hS hl
  exact lv_if_eq hx hb hd ht (fun h => kt h H locs ls hP hD hS hl) (fun h => kn h H locs ls hP hD hS hl)
theorem y_goto (C : yC κ l0 cc n0 own Ts R0 θ) {off : Int} (tgt : Nat) (hd : decode cc pc = .ok (.goto off, 3)) (ht : (pc : Int) + off = (tgt : Int)) (kk : yJ κ X kc ks tgt lv st) : yJ κ X kc ks pc lv st := by
  obtain ⟨p, l, e, R, s, m, args, below, meth, c, Q, A, θ', n⟩ := κ
  obtain ⟨rfl, rfl, rfl, hR, hx, hb, hml, hown, hts, hK, hN, hO, hA⟩ := C
  subst hR
  intro H locs ls hP hD hS hl
  exact lv_goto hx hb hd ht (kk H locs ls hP hD hS hl)
theorem y_tableOut (C : yC κ l0 cc n0 own Ts R0 θ) {dflt lo hi : Int} {offs : Array Int} {len : Nat} {x : Int32} (tgt : Nat) (hd : decode cc pc = .ok (.tableswitch dflt lo hi offs, len)) (h : x.toInt < lo ∨ hi < x.toInt) (ht : (pc : Int) + dflt = (tgt : Int)) (kk : yJ κ X kc ks tgt lv st) : yJ κ X kc ks pc lv (.int x :: st) := by
  obtain ⟨p, l, e, R, s, m, args, below, meth, c, Q, A, θ', n⟩ := κ
  obtain ⟨rfl, rfl, rfl, hR, hx, hb, hml, hown, hts, hK, hN, hO, hA⟩ := C
  subst hR
  intro H locs ls hP hD hS hl
  exact lv_tableOut hx hb hd h ht (kk H locs ls hP hD hS hl)
theorem y_tableIn (C : yC κ l0 cc n0 own Ts R0 θ) {dflt lo hi : Int} {offs : Array Int} {len : Nat} {x : Int32} {off : Int} (tgt : Nat) (hd : decode cc pc = .ok (.tableswitch dflt lo hi offs, len)) (h1 : ¬ x.toInt < lo) (h2 : ¬ hi < x.toInt) (ho : offs[(x.toInt - lo).toNat]? = some off) (ht : (pc : Int) + off = (tgt : Int)) (kk : yJ κ X kc ks tgt lv st) : yJ κ X kc ks pc lv (.int x :: st) := by
  obtain ⟨p, l, e, R, s, m, args, below, meth, c, Q, A, θ', n⟩ := κ
  obtain ⟨rfl, rfl, rfl, hR, hx, hb, hml, hown, hts, hK, hN, hO, hA⟩ := C
  subst hR
  intro H locs ls hP hD hS hl
  exact lv_tableIn hx hb hd h1 h2 ho ht (kk H locs ls hP hD hS hl)
theorem y_get (C : yC κ l0 cc n0 own Ts R0 θ) {a N ci index : Nat} {Cn : String} {T : u_T} {fs : List Value} {v : Value} (hin : ∀ w ∈ u_ws Cn T N, w ∈ Ts) (q0 : Nat) (he : X[q0]? = some (a, .inr (ci, fs))) (hc : vwCl[ci]? = some (Cn, T, N)) (j : Nat) (hj : j < N) (hm : Cond.fieldLink own index (T j).1 (T j).2.1 (T j).2.2.1 ∈ Ts) (hv : fs[j]? = some v) (hd : decode cc pc = .ok (.getfield index, 3)) (kk : yJ κ X kc ks (pc + 3) lv (v :: st)) : yJ κ X kc ks pc lv (.ref a :: st) := by
  obtain ⟨p, l, e, R, s, m, args, below, meth, c, Q, A, θ', n⟩ := κ
  obtain ⟨rfl, rfl, rfl, hR, hx, hb, hml, hown, hts, hK, hN, hO, hA⟩ := C
  subst hR
  intro H locs ls hP hD hS hl
  exact va_get hx hb hts hin hown hK hP q0 he hc j hj (hts _ hm) (fun _ h9 => h9) hv hd (kk H locs ls hP hD hS hl)
theorem y_put (C : yC κ l0 cc n0 own Ts R0 θ) {a N ci index : Nat} {Cn : String} {T : u_T} {fs : List Value} {v : Value} {ty : FieldType} (hin : ∀ w ∈ u_ws Cn T N, w ∈ Ts) (ty0 : Nat → FieldType) (hty : ∀ k, k < N → parseFieldDescriptor (T k).2.2.1 = some (ty0 k)) (hnm : ∀ a, a < N → ∀ b, b < N → a ≠ b → (T a).2.1 ≠ (T b).2.1) (q0 : Nat) (he : X[q0]? = some (a, .inr (ci, fs))) (hc : vwCl[ci]? = some (Cn, T, N)) (j : Nat) (hj : j < N) (hm : Cond.fieldLink own index (T j).1 (T j).2.1 (T j).2.2.1 ∈ Ts) (hfin : (T j).2.2.2 = false) (hty1 : ty0 j = ty) (hn : narrow ty v = v) (hfit : fits ty v = true) (hl : j < fs.length) (Y : va_W) (hY : X.set q0 (a, .inr (ci, fs.set j v)) = Y) (hd : decode cc pc = .ok (.putfield index, 3)) (kk : yJ κ Y kc ks (pc + 3) lv st) : yJ κ X kc ks pc lv (v :: .ref a :: st) := by
  obtain ⟨p, l, e, R, s, m, args, below, meth, c, Q, A, θ', n⟩ := κ
  obtain ⟨rfl, rfl, rfl, hR, hx, hb, hml, hown, hts, hK, hN, hO, hA⟩ := C
  subst hR
  intro H locs ls hP hD hS hl
  rename_i hl0
  subst hY
  exact va_put hx hb hts hin ty0 hty hnm hown hK hP hD hS q0 he hc j hj (hts _ hm) (fun _ h9 => h9) hfin (hty1 ▸ hty j hj) hn hfit hl0 hd (fun H locs hP hD hS => kk H locs ls hP hD hS hl)
theorem y_iast (C : yC κ l0 cc n0 own Ts R0 θ) {a n : Nat} {f : Nat → Int32} {i v : Int32} (q0 : Nat) (he : X[q0]? = some (a, .inl (θ.2.1, n, .inl f))) (j : Nat) (hi : i = nI j) (hj : j < n) (hn : n < 2 ^ 31) (Y : va_W) (hY : X.set q0 (a, .inl (θ.2.1, n, .inl (upd f j v))) = Y) (hd : decode cc pc = .ok (.iastore, 1)) (kk : yJ κ Y kc ks (pc + 1) lv st) : yJ κ X kc ks pc lv (.int v :: .int i :: .ref a :: st) := by
  obtain ⟨p, l, e, R, s, m, args, below, meth, c, Q, A, θ', n⟩ := κ
  obtain ⟨rfl, rfl, rfl, hR, hx, hb, hml, hown, hts, hK, hN, hO, hA⟩ := C
  subst hR
  intro H locs ls hP hD hS hl
  subst hi
  subst hY
  refine va_iast hx hb hK hP hD hS q0 0 he rfl (vp_in_nI hj hn) hd ?_
  rw [nI_clamp (Nat.lt_trans hj hn)]
  exact fun H locs hP hD hS => kk H locs ls hP hD hS hl
theorem y_perm {X' : va_W} (hp : X.Perm X') (kk : yJ κ X' kc ks pc lv st) : yJ κ X kc ks pc lv st := by
  obtain ⟨p, l, e, R, s, m, args, below, meth, c, Q, A, θ', n⟩ := κ
  exact fun H locs ls hP hD hS hl => kk H locs ls (y_permP hp hP) (y_permD hp hD) hS hl
theorem y_widen {k2 s2 : Nat} (h1 : kc ≤ k2) (h2 : ks ≤ s2) (kk : yJ κ X k2 s2 pc lv st) : yJ κ X kc ks pc lv st := by
  obtain ⟨p, l, e, R, s, m, args, below, meth, c, Q, A, θ', n⟩ := κ
  exact fun H locs ls hP hD hS hl => W.widen h1 h2 (kk H locs ls hP hD hS hl)
/-- a cell's array may be another where it is the same below its length -/
theorem y_cong {X' : va_W} (h : ∀ (D : va_G) (H : Heap), va_P D vwCl X H → va_P D vwCl X' H) (h2 : X'.map Prod.fst = X.map Prod.fst) (kk : yJ κ X' kc ks pc lv st) : yJ κ X kc ks pc lv st := by
  obtain ⟨p, l, e, R, s, m, args, below, meth, c, Q, A, θ', n⟩ := κ
  refine fun H locs ls hP hD hS hl => kk H locs ls (h _ _ hP) ?_ hS hl
  obtain ⟨d1, d2⟩ := y_Dn hD
  refine y_nD (by rw [h2]; exact d1) (fun q hq => ?_)
  have hq' : q.1 ∈ X.map Prod.fst := by rw [← h2]; exact List.mem_map.mpr ⟨q, hq, rfl⟩
  obtain ⟨z, hz, ez⟩ := List.mem_map.mp hq'
  rw [← ez]; exact d2 z hz
theorem y_putF (C : yC κ l0 cc n0 own Ts R0 θ) (hI : yI κ) {a N ci index : Nat} {Cn : String} {T : u_T} {fs : List Value} {v : Value} {ty : FieldType} (hin : ∀ w ∈ u_ws Cn T N, w ∈ Ts) (ty0 : Nat → FieldType) (hty : ∀ k, k < N → parseFieldDescriptor (T k).2.2.1 = some (ty0 k)) (hnm : ∀ a, a < N → ∀ b, b < N → a ≠ b → (T a).2.1 ≠ (T b).2.1) (q0 : Nat) (he : X[q0]? = some (a, .inr (ci, fs))) (hc : vwCl[ci]? = some (Cn, T, N)) (j : Nat) (hj : j < N) (hm : Cond.fieldLink own index (T j).1 (T j).2.1 (T j).2.2.1 ∈ Ts) (hfin : (T j).2.2.2 = true) (hdecl : (T j).1 = own) (hty1 : ty0 j = ty) (hn : narrow ty v = v) (hfit : fits ty v = true) (hl : j < fs.length) (Y : va_W) (hY : X.set q0 (a, .inr (ci, fs.set j v)) = Y) (hd : decode cc pc = .ok (.putfield index, 3)) (kk : yJ κ Y kc ks (pc + 3) lv st) : yJ κ X kc ks pc lv (v :: .ref a :: st) := by
  obtain ⟨p, l, e, R, s, m, args, below, meth, c, Q, A, θ', n⟩ := κ
  obtain ⟨rfl, rfl, rfl, hR, hx, hb, hml, hown, hts, hK, hN, hO, hA⟩ := C
  subst hR
  intro H locs ls hP hD hS hl
  rename_i hl0
  subst hY
  exact va_putF hx hb hts hin ty0 hty hnm hown hK hP hD hS q0 he hc j hj (hts _ hm) (fun _ h9 => h9) hfin hI hdecl (hty1 ▸ hty j hj) hn hfit hl0 hd (fun H locs hP hD hS => kk H locs ls hP hD hS hl)
theorem y_mv {A0 E B : va_W} : ((A0 ++ E) ++ B).Perm ((A0 ++ B) ++ E) := by
  rw [List.append_assoc, List.append_assoc]
  exact List.Perm.append_left A0 List.perm_append_comm
theorem y_newa (C : yC κ l0 cc n0 own Ts R0 θ) {A0 E : va_W} {x : Int32} (N' : Nat) (hm : Cond.arrayClass .int ∈ Ts) (hx0 : x = nI N') (hN0 : N' < 10000) (hcells : kc + 1 ≤ R0.cells) (hslots : ks + N' ≤ R0.slots) (hd : decode cc pc = .ok (.newarray .int, 2)) (kk : ∀ q : Nat, yJ κ ((A0 ++ [(q, .inl (θ.2.1, N', .inl (fun _ => 0)))]) ++ E) (kc + 1) (ks + N') (pc + 2) lv (.ref q :: st)) : yJ κ (A0 ++ E) kc ks pc lv (.int x :: st) := by
  obtain ⟨p, l, e, R, s, m, args, below, meth, c, Q, A, θ', n⟩ := κ
  obtain ⟨rfl, rfl, rfl, hR, hx, hb, hml, hown, hts, hK, hN, hO, hA⟩ := C
  subst hR
  intro H locs ls hP hD hS hl
  subst hx0
  refine va_newa (atype := .int) (ty := .int) (a0 := (N', .inl (fun _ => 0))) (N' := N') hx hb (hts _ hm) rfl hK hP hD hS hA (fun cA => rfl) (nI_pos (by omega)) (nI_clamp (by omega)) (by show N' * 4 ≤ _; omega) hcells hslots hd (fun q cA H1 hK1 hP1 hD1 hS1 => ?_)
  have e1 : s.vm.findClass ("[" ++ FieldType.int.toString) = some cA := (hK1.2 3 (cA, .int) rfl).2
  have e2 : s.vm.findClass ("[" ++ FieldType.int.toString) = some θ'.2.1 := (hK.2 0 (θ'.2.1, .int) rfl).2
  obtain rfl := Option.some.inj (e1.symm.trans e2)
  exact kk q H1 locs ls (y_permP y_mv hP1) (y_permD y_mv hD1) hS1 hl
theorem y_newz (C : yC κ l0 cc n0 own Ts R0 θ) {A0 E : va_W} {x : Int32} (N' : Nat) (hm : Cond.arrayClass .boolean ∈ Ts) (hx0 : x = nI N') (hN0 : N' < 10000) (hcells : kc + 1 ≤ R0.cells) (hslots : ks + N' ≤ R0.slots) (hd : decode cc pc = .ok (.newarray .boolean, 2)) (kk : ∀ q : Nat, yJ κ ((A0 ++ [(q, .inl (θ.2.2.1, N', .inl (fun _ => 0)))]) ++ E) (kc + 1) (ks + N') (pc + 2) lv (.ref q :: st)) : yJ κ (A0 ++ E) kc ks pc lv (.int x :: st) := by
  obtain ⟨p, l, e, R, s, m, args, below, meth, c, Q, A, θ', n⟩ := κ
  obtain ⟨rfl, rfl, rfl, hR, hx, hb, hml, hown, hts, hK, hN, hO, hA⟩ := C
  subst hR
  intro H locs ls hP hD hS hl
  subst hx0
  refine va_newa (atype := .boolean) (ty := .boolean) (a0 := (N', .inl (fun _ => 0))) (N' := N') hx hb (hts _ hm) rfl hK hP hD hS hA (fun cA => rfl) (nI_pos (by omega)) (nI_clamp (by omega)) (by show N' * 1 ≤ _; omega) hcells hslots hd (fun q cA H1 hK1 hP1 hD1 hS1 => ?_)
  have e1 : s.vm.findClass ("[" ++ FieldType.boolean.toString) = some cA := (hK1.2 3 (cA, .boolean) rfl).2
  have e2 : s.vm.findClass ("[" ++ FieldType.boolean.toString) = some θ'.2.2.1 := (hK.2 1 (θ'.2.2.1, .boolean) rfl).2
  obtain rfl := Option.some.inj (e1.symm.trans e2)
  exact kk q H1 locs ls (y_permP y_mv hP1) (y_permD y_mv hD1) hS1 hl
theorem y_newq (C : yC κ l0 cc n0 own Ts R0 θ) {A0 E : va_W} {x : Int32} {index : Nat} (N' : Nat) (hm : Cond.classLink own index "GnatPortraits$Evening" ∈ Ts) (hx0 : x = nI N') (hN0 : N' < 10000) (hcells : kc + 1 ≤ R0.cells) (hslots : ks + N' ≤ R0.slots) (hd : decode cc pc = .ok (.anewarray index, 3)) (kk : ∀ q : Nat, yJ κ ((A0 ++ [(q, .inl (θ.2.2.2, N', .inr (.inr (.inr (.inr (fun _ => none))))))]) ++ E) (kc + 1) (ks + N') (pc + 3) lv (.ref q :: st)) : yJ κ (A0 ++ E) kc ks pc lv (.int x :: st) := by
  obtain ⟨p, l, e, R, s, m, args, below, meth, c, Q, A, θ', n⟩ := κ
  obtain ⟨rfl, rfl, rfl, hR, hx, hb, hml, hown, hts, hK, hN, hO, hA⟩ := C
  subst hR
  intro H locs ls hP hD hS hl
  subst hx0
  refine va_newq (N' := N') hx hb hown (hts _ hm) hO hK hP hD hS hA (nI_pos (by omega)) (nI_clamp (by omega)) (by omega) hcells hslots hd (fun q cA H1 hK1 hP1 hD1 hS1 => ?_)
  obtain ⟨-, -, -, -, -, e1⟩ : va_RA s cA (.object "GnatPortraits$Evening") := (hK1.2 3 (cA, .object "GnatPortraits$Evening") rfl).2
  obtain ⟨-, -, -, -, -, e2⟩ : va_RA s θ'.2.2.2 (.object "GnatPortraits$Evening") := (hK.2 2 (θ'.2.2.2, .object "GnatPortraits$Evening") rfl).2
  obtain rfl := Option.some.inj (e1.symm.trans e2)
  exact kk q H1 locs ls (y_permP y_mv hP1) (y_permD y_mv hD1) hS1 hl
theorem y_new (C : yC κ l0 cc n0 own Ts R0 θ) {N ci index : Nat} {Cn : String} {T : u_T} (fs : List Value) (hin : ∀ w ∈ u_ws Cn T N, w ∈ Ts) (ty0 : Nat → FieldType) (hty : ∀ k, k < N → parseFieldDescriptor (T k).2.2.1 = some (ty0 k)) (hcl : Cond.classLink own index Cn ∈ Ts) (hinst : Cond.instantiable Cn N ∈ Ts) (hini : Cond.initialized Cn ∈ Ts) (hc : vwCl[ci]? = some (Cn, T, N)) (hfs : ∀ j, j < N → defaultValue (ty0 j) = vp_V fs j) (hcells : kc + 1 ≤ R0.cells) (hslots : ks + N ≤ R0.slots) (hd : decode cc pc = .ok (.new index, 3)) (kk : ∀ q : Nat, yJ κ (X ++ [(q, .inr (ci, fs))]) (kc + 1) (ks + N) (pc + 3) lv (.ref q :: st)) : yJ κ X kc ks pc lv st := by
  obtain ⟨p, l, e, R, s, m, args, below, meth, c, Q, A, θ', n⟩ := κ
  obtain ⟨rfl, rfl, rfl, hR, hx, hb, hml, hown, hts, hK, hN, hO, hA⟩ := C
  subst hR
  intro H locs ls hP hD hS hl
  exact va_new (fs := fs) hx hb hts hin ty0 hty hown (hts _ hcl) (hts _ hinst) (hts _ hini) hK hP hD hS hA hc hfs hcells hslots hd (fun q H1 hP1 hD1 hS1 => kk q H1 locs ls hP1 hD1 hS1 hl)
theorem y_astq (C : yC κ l0 cc n0 own Ts R0 θ) {a n v : Nat} {vs : List Value} {f : Nat → Option Nat} {i : Int32} (q0 qk : Nat) (he : X[q0]? = some (a, .inl (θ.2.2.2, n, .inr (.inr (.inr (.inr f)))))) (hv : X[qk]? = some (v, .inr (1, vs))) (j : Nat) (hi : i = nI j) (hj : j < n) (hn : n < 2 ^ 31) (Y : va_W) (hY : X.set q0 (a, .inl (θ.2.2.2, n, .inr (.inr (.inr (.inr (va_up f j (some v))))))) = Y) (hd : decode cc pc = .ok (.aastore, 1)) (kk : yJ κ Y kc ks (pc + 1) lv st) : yJ κ X kc ks pc lv (.ref v :: .int i :: .ref a :: st) := by
  obtain ⟨p, l, e, R, s, m, args, below, meth, c, Q, A, θ', n⟩ := κ
  obtain ⟨rfl, rfl, rfl, hR, hx, hb, hml, hown, hts, hK, hN, hO, hA⟩ := C
  subst hR
  intro H locs ls hP hD hS hl
  subst hi
  subst hY
  refine va_astq (r := (RX1, TX1, 14)) hx hb hK hP hD hS q0 2 qk 1 he rfl hv rfl (vp_in_nI hj hn) hd ?_
  rw [nI_clamp (Nat.lt_trans hj hn)]
  exact fun H locs hP hD hS => kk H locs ls hP hD hS hl
theorem y_objInit (C : yC κ l0 cc n0 own Ts R0 θ) {idx a : Nat} (hm : Cond.methodLink own idx objectInit ∈ Ts) (hm2 : Cond.instanceMethod objectInit ∈ Ts) (hm3 : Cond.code objectInit ⟨#[0xb1]⟩ 1 none ∈ Ts) (hf : 1 ≤ R0.frames) (hlo : 12 ≤ R0.locals) (hd : decode cc pc = .ok (.invokespecial idx, 3)) (kk : yJ κ X kc ks (pc + 3) lv []) : yJ κ X kc ks pc lv [.ref a] := by
  obtain ⟨p, l, e, R, s, m, args, below, meth, c, Q, A, θ', n⟩ := κ
  obtain ⟨rfl, rfl, rfl, hR, hx, hb, hml, hown, hts, hK, hN, hO, hA⟩ := C
  subst hR
  intro H locs ls hP hD hS hl
  refine W.objInit hx hb hown (hts _ hm) (hts _ hm2) (hts _ hm3) rfl (by rw [hml]; exact hl.1) rfl hd hf hlo ?_
  exact W.eq (g2 := F0 m (pc + 3) ls []) rfl (kk H locs ls hP hD hS hl)
theorem y_free {A : Nat → Prop} {F X1 : va_W} {H0 H : Heap} {locs : List Loc} (hD : va_D A (F ++ X1)) (hS : va_S A H0 H locs) (hA : ∀ q, H0.size ≤ q → A q) : ∀ z : Nat, va_A X1 H.size z → A z := fun z h => by
  rcases h with ⟨i, e', h⟩ | h
  · exact (y_Dr hD).2 i _ h
  · exact hA z (Nat.le_trans hS.1 h)
set_option maxHeartbeats 1000000 in
theorem y_ctorN (C : yC κ l0 cc n0 own Ts R0 θ) {y : MethodName} {wl ws' : List Cond} {bytes : ByteArray} {maxL k' mc ms index b : Nat} {host : String} {rest : List Value} {F X1 : va_W} {post : va_W → Prop} (hM : cMk l0 y wl k' mc ms θ [.ref b] X1 post) (hG : GoodIn Ts wl) (hw : wl = Cond.code y bytes maxL none :: ws') (hd0 : y.cls ≠ "java/lang/invoke/MethodHandle" ∧ y.cls ≠ "java/lang/invoke/VarHandle" ∧ (parseMethodDescriptor y.desc).map (fun d => d.parameters.length) = some 0) (hm : (own, index, y, host) ∈ zNM) (hi : Cond.initialized y.cls ∈ Ts) (hyn : y.name = "<init>") (hi2 : Cond.instanceMethod y ∈ Ts) (hfr : (yr k' mc ms).frames + 1 ≤ R0.frames ∧ 8 + (maxL + 11) + (yr k' mc ms).locals ≤ R0.locals) (hcs : kc + mc ≤ R0.cells ∧ ks + ms ≤ R0.slots) (hr : (rest.map fun v => v.category).sum ≤ 8) (hd : decode cc pc = .ok (.invokespecial index, 3)) (kk : ∀ (Y : va_W), post Y → yJ κ (F ++ Y) (kc + mc) (ks + ms) (pc + 3) lv rest) : yJ κ (F ++ X1) kc ks pc lv (.ref b :: rest) := by
  obtain ⟨p, l, e, R, s, m, args, below, meth, c, Q, A, θ', n⟩ := κ
  obtain ⟨rfl, rfl, rfl, hR, hx, hb, hml, hown, hts, hK, hN, hO, hA⟩ := C
  subst hR
  intro H locs ls hP hD hS hl
  have hFc := y_free hD hS hA
  have hPc := y_Pr hP
  have hDc := y_Dr hD
  refine va_callv (va_runIN (As := []) (rest := rest) ⟨hx, hb, hml, hown, hts⟩ (hM H.size) ⟨va_cnB 0 hts hG hw rfl rfl (hN.2 _ hm) (hts _ hi) hd0 hfr, hyn, hts _ hi2⟩ ⟨yPc_blind, fun U hU hW => ⟨rfl, by rw [hU], by rw [hU]; exact hPc, va_K.moved hW.alike hK, zN.warm hW hN, va_AO.moved hW.alike hO, hDc.weaken (fun _ _ _ _ => trivial)⟩⟩ rfl rfl hl.1 rfl (lv_room hr) hd hcs) hS (fun z _ h => hFc z h) hFc (fun Y t H1 locs1 ht hvm hp hB hz1 hk1 hS1 => ?_)
  obtain ⟨hP', hD'⟩ := y_join hP hD hk1 hFc (ht ▸ hB.1) hB.2
  exact kk Y hp H1 locs1 ls hP' hD' hS1 hl
set_option maxHeartbeats 1000000 in
theorem y_ctorI (C : yC κ l0 cc n0 own Ts R0 θ) {y : MethodName} {wl ws' : List Cond} {bytes : ByteArray} {maxL k' mc ms index b : Nat} {rest : List Value} {F X1 : va_W} {post : va_W → Prop} (hM : cMk l0 y wl k' mc ms θ [.ref b] X1 post) (hG : GoodIn Ts wl) (hw : wl = Cond.code y bytes maxL none :: ws') (hd0 : y.cls ≠ "java/lang/invoke/MethodHandle" ∧ y.cls ≠ "java/lang/invoke/VarHandle" ∧ (parseMethodDescriptor y.desc).map (fun d => d.parameters.length) = some 0) (hi : Cond.initialized y.cls ∈ Ts) (hml0 : Cond.methodLink own index y ∈ Ts) (hyn : y.name = "<init>") (hi2 : Cond.instanceMethod y ∈ Ts) (hfr : (yr k' mc ms).frames + 1 ≤ R0.frames ∧ 8 + (maxL + 11) + (yr k' mc ms).locals ≤ R0.locals) (hcs : kc + mc ≤ R0.cells ∧ ks + ms ≤ R0.slots) (hr : (rest.map fun v => v.category).sum ≤ 8) (hd : decode cc pc = .ok (.invokespecial index, 3)) (kk : ∀ (Y : va_W), post Y → yJ κ (F ++ Y) (kc + mc) (ks + ms) (pc + 3) lv rest) : yJ κ (F ++ X1) kc ks pc lv (.ref b :: rest) := by
  obtain ⟨p, l, e, R, s, m, args, below, meth, c, Q, A, θ', n⟩ := κ
  obtain ⟨rfl, rfl, rfl, hR, hx, hb, hml, hown, hts, hK, hN, hO, hA⟩ := C
  subst hR
  intro H locs ls hP hD hS hl
  have hFc := y_free hD hS hA
  have hPc := y_Pr hP
  have hDc := y_Dr hD
  refine va_callv (va_runI (As := []) (rest := rest) ⟨hx, hb, hml, hown, hts⟩ (hM H.size) (cwI 0 hts hG hw rfl rfl (hts _ hi) (hts _ hml0) (hts _ hi2) hyn hd0 hfr) ⟨yPc_blind, fun U hU hW => ⟨rfl, by rw [hU], by rw [hU]; exact hPc, va_K.moved hW.alike hK, zN.warm hW hN, va_AO.moved hW.alike hO, hDc.weaken (fun _ _ _ _ => trivial)⟩⟩ rfl rfl hl.1 rfl (lv_room hr) hd hcs) hS (fun z _ h => hFc z h) hFc (fun Y t H1 locs1 ht hvm hp hB hz1 hk1 hS1 => ?_)
  obtain ⟨hP', hD'⟩ := y_join hP hD hk1 hFc (ht ▸ hB.1) hB.2
  exact kk Y hp H1 locs1 ls hP' hD' hS1 hl
set_option maxHeartbeats 1000000 in
theorem y_callVi (C : yC κ l0 cc n0 own Ts R0 θ) {y : MethodName} {wl ws' : List Cond} {bytes : ByteArray} {maxL k' index b ci : Nat} {ret : Option FieldType} {Cn : String} {fs As rest : List Value} {q : vw_C} {F X1 : va_W} {post : Int32 → va_W → Prop} (hM : cI l0 y wl k' θ (.ref b :: As) X1 post) (hG : GoodIn Ts (wsV own index Cn y wl)) (hw : wl = Cond.code y bytes maxL ret :: ws') (nA : Nat) (hd0 : y.cls = Cn ∧ y.cls ≠ "java/lang/invoke/MethodHandle" ∧ y.cls ≠ "java/lang/invoke/VarHandle" ∧ (parseMethodDescriptor y.desc).map (fun d => d.parameters.length) = some nA) (hfr : (zr k').frames + 1 ≤ R0.frames ∧ 8 + (maxL + 11) + (zr k').locals ≤ R0.locals) (hcs : kc ≤ R0.cells ∧ ks ≤ R0.slots) (q0 : Nat) (he : X1[q0]? = some (b, .inr (ci, fs))) (hc : vwCl[ci]? = some q) (hq : q.1 = Cn) (hn : As.length = nA) (hst : st = As.reverse ++ .ref b :: rest) (hr : (rest.map fun v => v.category).sum ≤ 8) (hd : decode cc pc = .ok (.invokevirtual index, 3)) (kk : ∀ (r : Int32) (Y : va_W), post r Y → yJ κ (F ++ Y) kc ks (pc + 3) lv (.int r :: rest)) : yJ κ (F ++ X1) kc ks pc lv st := by
  obtain ⟨p, l, e, R, s, m, args, below, meth, c, Q, A, θ', n⟩ := κ
  obtain ⟨rfl, rfl, rfl, hR, hx, hb, hml, hown, hts, hK, hN, hO, hA⟩ := C
  subst hR
  intro H locs ls hP hD hS hl
  have hFc := y_free hD hS hA
  have hPc := y_Pr hP
  have hDc := y_Dr hD
  subst hq
  subst hst
  refine va_calli (va_runV (As := As) (rest := rest) ⟨hx, hb, hml, hown, hts⟩ (hM H.size) (cwV nA hts hG hw rfl rfl hd0 hfr) ⟨zPc_blind, va_recv hK hPc hc he, fun U hU hW => ⟨rfl, by rw [hU], by rw [hU]; exact hPc, va_K.moved hW.alike hK, zN.warm hW hN, hDc.weaken (fun _ _ _ _ => trivial)⟩⟩ rfl hn hl.1 rfl (lv_room hr) hd hcs) hS (fun z _ h => hFc z h) hFc (fun r Y t H1 locs1 ht hvm hp hB hz1 hk1 hS1 => ?_)
  obtain ⟨hP', hD'⟩ := y_join hP hD hk1 hFc (ht ▸ hB.1) hB.2
  exact kk r Y hp H1 locs1 ls hP' hD' hS1 hl
set_option maxHeartbeats 1000000 in
theorem y_callVv (C : yC κ l0 cc n0 own Ts R0 θ) {y : MethodName} {wl ws' : List Cond} {bytes : ByteArray} {maxL k' index b ci : Nat} {ret : Option FieldType} {Cn : String} {fs As rest : List Value} {q : vw_C} {F X1 : va_W} {post : va_W → Prop} (hM : cV l0 y wl k' θ (.ref b :: As) X1 post) (hG : GoodIn Ts (wsV own index Cn y wl)) (hw : wl = Cond.code y bytes maxL ret :: ws') (nA : Nat) (hd0 : y.cls = Cn ∧ y.cls ≠ "java/lang/invoke/MethodHandle" ∧ y.cls ≠ "java/lang/invoke/VarHandle" ∧ (parseMethodDescriptor y.desc).map (fun d => d.parameters.length) = some nA) (hfr : (zr k').frames + 1 ≤ R0.frames ∧ 8 + (maxL + 11) + (zr k').locals ≤ R0.locals) (hcs : kc ≤ R0.cells ∧ ks ≤ R0.slots) (q0 : Nat) (he : X1[q0]? = some (b, .inr (ci, fs))) (hc : vwCl[ci]? = some q) (hq : q.1 = Cn) (hn : As.length = nA) (hst : st = As.reverse ++ .ref b :: rest) (hr : (rest.map fun v => v.category).sum ≤ 8) (hd : decode cc pc = .ok (.invokevirtual index, 3)) (kk : ∀ (Y : va_W), post Y → yJ κ (F ++ Y) kc ks (pc + 3) lv rest) : yJ κ (F ++ X1) kc ks pc lv st := by
  obtain ⟨p, l, e, R, s, m, args, below, meth, c, Q, A, θ', n⟩ := κ
  obtain ⟨rfl, rfl, rfl, hR, hx, hb, hml, hown, hts, hK, hN, hO, hA⟩ := C
  subst hR
  intro H locs ls hP hD hS hl
  have hFc := y_free hD hS hA
  have hPc := y_Pr hP
  have hDc := y_Dr hD
  subst hq
  subst hst
  refine va_callv (va_runV (As := As) (rest := rest) ⟨hx, hb, hml, hown, hts⟩ (hM H.size) (cwV nA hts hG hw rfl rfl hd0 hfr) ⟨zPc_blind, va_recv hK hPc hc he, fun U hU hW => ⟨rfl, by rw [hU], by rw [hU]; exact hPc, va_K.moved hW.alike hK, zN.warm hW hN, hDc.weaken (fun _ _ _ _ => trivial)⟩⟩ rfl hn hl.1 rfl (lv_room hr) hd hcs) hS (fun z _ h => hFc z h) hFc (fun Y t H1 locs1 ht hvm hp hB hz1 hk1 hS1 => ?_)
  obtain ⟨hP', hD'⟩ := y_join hP hD hk1 hFc (ht ▸ hB.1) hB.2
  exact kk Y hp H1 locs1 ls hP' hD' hS1 hl
theorem y_sld (C : yC κ l0 cc n0 own Ts R0 θ) {b L : Nat} {xs : Nat → Int32} (hX : yS κ b L xs) {i : Int32} (j : Nat) (hi : i = nI j) (hj : j < L) (hL : L < 2 ^ 31) (hd : decode cc pc = .ok (.iaload, 1)) (kk : yJ κ X kc ks (pc + 1) lv (.int (xs j) :: st)) : yJ κ X kc ks pc lv (.int i :: .ref b :: st) := by
  obtain ⟨p, l, e, R, s, m, args, below, meth, c, Q, A, θ', n⟩ := κ
  obtain ⟨rfl, rfl, rfl, hR, hx, hb, hml, hown, hts, hK, hN, hO, hA⟩ := C
  subst hR
  intro H locs ls hP hD hS hl
  obtain ⟨x1, x2, x3⟩ := hX
  subst hi
  refine va_sld hx hb x1 x2 x3 hS (vp_in_nI hj hL) hd ?_
  rw [nI_clamp (Nat.lt_trans hj hL)]
  exact kk H locs ls hP hD hS hl
theorem y_slen (C : yC κ l0 cc n0 own Ts R0 θ) {b L : Nat} {xs : Nat → Int32} (hX : yS κ b L xs) (hd : decode cc pc = .ok (.arraylength, 1)) (kk : yJ κ X kc ks (pc + 1) lv (.int (nI L) :: st)) : yJ κ X kc ks pc lv (.ref b :: st) := by
  obtain ⟨p, l, e, R, s, m, args, below, meth, c, Q, A, θ', n⟩ := κ
  obtain ⟨rfl, rfl, rfl, hR, hx, hb, hml, hown, hts, hK, hN, hO, hA⟩ := C
  subst hR
  intro H locs ls hP hD hS hl
  obtain ⟨x1, x2, x3⟩ := hX
  exact va_slen hx hb x1 x2 x3 hS hd (kk H locs ls hP hD hS hl)
end YR
