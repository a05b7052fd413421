/-! the judgement Z: a frame at pc, with known locals and stack, over a world X of cells; contracts over whole worlds; a row an instruction -/
def zNF : List (String × Nat × String × String × String × String) := [("GnatPortraits$Reader", 56, "GnatPortraits$Capital", "isTold", "Z", "GnatPortraits"), ("GnatPortraits", 200, "GnatPortraits$Capital", "isTold", "Z", "GnatPortraits"), ("GnatPortraits$Reader", 64, "GnatPortraits$Capital", "gnats", "I", "GnatPortraits"), ("GnatPortraits", 97, "GnatPortraits$Capital", "gnats", "I", "GnatPortraits"), ("GnatPortraits$Placing", 21, "GnatPortraits$Capital", "sitters", "I", "GnatPortraits"), ("GnatPortraits", 91, "GnatPortraits$Capital", "sitters", "I", "GnatPortraits"), ("GnatPortraits$Reader", 86, "GnatPortraits$Capital", "sitters", "I", "GnatPortraits"), ("GnatPortraits$Placing", 28, "GnatPortraits$Capital", "windows", "I", "GnatPortraits"), ("GnatPortraits$Reader", 70, "GnatPortraits$Capital", "windows", "I", "GnatPortraits"), ("GnatPortraits", 100, "GnatPortraits$Capital", "windows", "I", "GnatPortraits"), ("GnatPortraits$Reader", 76, "GnatPortraits$Capital", "critics", "I", "GnatPortraits"), ("GnatPortraits", 103, "GnatPortraits$Capital", "critics", "I", "GnatPortraits"), ("GnatPortraits", 146, "GnatPortraits$Capital", "outlines", "[I", "GnatPortraits"), ("GnatPortraits$Reader", 89, "GnatPortraits$Capital", "outlines", "[I", "GnatPortraits"), ("GnatPortraits$Evening", 56, "GnatPortraits$Capital", "firstLamps", "[I", "GnatPortraits"), ("GnatPortraits$Reader", 73, "GnatPortraits$Capital", "firstLamps", "[I", "GnatPortraits"), ("GnatPortraits$Reader", 79, "GnatPortraits$Capital", "views", "[I", "GnatPortraits"), ("GnatPortraits", 320, "GnatPortraits$Capital", "views", "[I", "GnatPortraits"), ("GnatPortraits", 75, "GnatPortraits$Reader", "found", "LGnatPortraits$Capital;", "GnatPortraits"), ("GnatPortraits", 60, "GnatPortraits$Reader", "length", "I", "GnatPortraits"), ("GnatPortraits", 72, "GnatPortraits$Reader", "faultKind", "I", "GnatPortraits"), ("GnatPortraits", 94, "GnatPortraits$Reader", "faultAt", "I", "GnatPortraits"), ("GnatPortraits", 109, "GnatPortraits$Evening", "blowing", "I", "GnatPortraits"), ("GnatPortraits", 112, "GnatPortraits$Evening", "batted", "I", "GnatPortraits"), ("GnatPortraits", 115, "GnatPortraits$Evening", "eyes", "I", "GnatPortraits"), ("GnatPortraits", 118, "GnatPortraits$Evening", "raining", "Z", "GnatPortraits"), ("GnatPortraits", 122, "GnatPortraits$Evening", "smoking", "I", "GnatPortraits"), ("GnatPortraits", 106, "GnatPortraits$Evening", "dusks", "I", "GnatPortraits"), ("GnatPortraits", 129, "GnatPortraits$Evening", "albumSize", "I", "GnatPortraits"), ("GnatPortraits", 159, "GnatPortraits$Evening", "lamps", "[I", "GnatPortraits"), ("GnatPortraits", 162, "GnatPortraits$Evening", "standing", "[I", "GnatPortraits"), ("GnatPortraits", 188, "GnatPortraits$Evening", "glasses", "[I", "GnatPortraits"), ("GnatPortraits", 176, "GnatPortraits$Evening", "albumWindows", "[I", "GnatPortraits"), ("GnatPortraits", 179, "GnatPortraits$Evening", "albumSitters", "[I", "GnatPortraits"), ("GnatPortraits", 182, "GnatPortraits$Evening", "albumDots", "[I", "GnatPortraits"), ("GnatPortraits", 138, "GnatPortraits$Past", "size", "I", "GnatPortraits"), ("GnatPortraits", 316, "GnatPortraits$Placing", "sitters", "I", "GnatPortraits"), ("GnatPortraits", 312, "GnatPortraits$Placing", "windows", "I", "GnatPortraits"), ("GnatPortraits", 238, "GnatPortraits$Placing", "most", "I", "GnatPortraits"), ("GnatPortraits", 231, "GnatPortraits$Placing", "drawn", "[I", "GnatPortraits"), ("GnatPortraits", 317, "GnatPortraits$Placing", "chosen", "[I", "GnatPortraits"), ("GnatPortraits", 241, "GnatPortraits$Placing", "best", "[I", "GnatPortraits")]
def zNM : List (String × Nat × MethodName × String) := [("GnatPortraits", 9, ⟨"GnatPortraits$Reader", "<init>", "()V"⟩, "GnatPortraits"), ("GnatPortraits$Reader", 17, ⟨"GnatPortraits$Capital", "<init>", "()V"⟩, "GnatPortraits"), ("GnatPortraits", 18, ⟨"GnatPortraits$Capital", "<init>", "()V"⟩, "GnatPortraits"), ("GnatPortraits", 25, ⟨"GnatPortraits$Evening", "<init>", "()V"⟩, "GnatPortraits"), ("GnatPortraits", 32, ⟨"GnatPortraits$Past", "<init>", "()V"⟩, "GnatPortraits"), ("GnatPortraits$Past", 17, ⟨"GnatPortraits$Evening", "<init>", "()V"⟩, "GnatPortraits"), ("GnatPortraits", 51, ⟨"GnatPortraits$Placing", "<init>", "()V"⟩, "GnatPortraits"), ("GnatPortraits", 65, ⟨"GnatPortraits$Reader", "add", "(I)V"⟩, "GnatPortraits"), ("GnatPortraits", 69, ⟨"GnatPortraits$Reader", "read", "()V"⟩, "GnatPortraits"), ("GnatPortraits$Reader", 29, ⟨"GnatPortraits$Capital", "empty", "()V"⟩, "GnatPortraits"), ("GnatPortraits", 78, ⟨"GnatPortraits$Capital", "takeFrom", "(LGnatPortraits$Capital;)V"⟩, "GnatPortraits"), ("GnatPortraits", 82, ⟨"GnatPortraits$Evening", "begin", "(LGnatPortraits$Capital;)V"⟩, "GnatPortraits"), ("GnatPortraits", 85, ⟨"GnatPortraits$Past", "forget", "()V"⟩, "GnatPortraits"), ("GnatPortraits", 149, ⟨"GnatPortraits$Evening", "windowOf", "(I)I"⟩, "GnatPortraits"), ("GnatPortraits", 153, ⟨"GnatPortraits$Evening", "timesInAlbum", "(I)I"⟩, "GnatPortraits"), ("GnatPortraits", 173, ⟨"GnatPortraits$Evening", "albumPlace", "(I)I"⟩, "GnatPortraits"), ("GnatPortraits", 192, ⟨"GnatPortraits$Past", "remember", "(LGnatPortraits$Evening;)V"⟩, "GnatPortraits"), ("GnatPortraits$Past", 25, ⟨"GnatPortraits$Evening", "copy", "(LGnatPortraits$Evening;LGnatPortraits$Evening;)V"⟩, "GnatPortraits"), ("GnatPortraits", 196, ⟨"GnatPortraits$Evening", "moveTo", "(II)V"⟩, "GnatPortraits"), ("GnatPortraits", 296, ⟨"GnatPortraits$Evening", "keepInAlbum", "(III)V"⟩, "GnatPortraits"), ("GnatPortraits", 300, ⟨"GnatPortraits$Evening", "endDusk", "()V"⟩, "GnatPortraits"), ("GnatPortraits", 215, ⟨"GnatPortraits$Past", "recall", "(LGnatPortraits$Evening;)V"⟩, "GnatPortraits"), ("GnatPortraits", 230, ⟨"GnatPortraits$Placing", "begin", "(LGnatPortraits$Capital;)V"⟩, "GnatPortraits"), ("GnatPortraits", 313, ⟨"GnatPortraits$Placing", "takeChosen", "(I)V"⟩, "GnatPortraits"), ("GnatPortraits", 285, ⟨"GnatPortraits$Evening", "copy", "(LGnatPortraits$Evening;LGnatPortraits$Evening;)V"⟩, "GnatPortraits")]
def zN (U : State) : Prop := (∀ q ∈ zNF, va_Nw (.fieldLinkNest q.1 q.2.1 q.2.2.1 q.2.2.2.1 q.2.2.2.2.1 q.2.2.2.2.2) U) ∧ (∀ q ∈ zNM, va_Nw (.methodLinkNest q.1 q.2.1 q.2.2.1 q.2.2.2) U)
theorem zN.warm {s U : State} (hW : s.WarmedH U.vm) (h : zN s) : zN U := ⟨fun q hq => va_Nw.warmF hW (h.1 q hq), fun q hq => va_Nw.warmM hW (h.2 q hq)⟩
theorem zN.same {u U : State} (hv : u.vm = U.vm) (h : zN u) : zN U := ⟨fun q hq => va_Nw.same rfl hv (h.1 q hq), fun q hq => va_Nw.same rfl hv (h.2 q hq)⟩
def zr (k : Nat) : Room := { frames := k, cells := 0, slots := 0, locals := 40 * k }
abbrev zH : Type := va_G × ClassId × ClassId × ClassId
def zty (θ : zH) : List (ClassId × FieldType) := [(θ.2.1, .int), (θ.2.2.1, .boolean), (θ.2.2.2, .object "GnatPortraits$Evening")]
abbrev zX : Type := Program × Launch × Env × Room × State × MethodId × Array Value × List Frame × Method × Code × (State → Prop) × (Nat → Prop) × zH × Nat
def Z (κ : zX) (X : va_W) (pc : Nat) (lv : List (Nat × Value)) (st : List Value) : Prop := match κ with
  | (p, l, e, R, s, m, args, below, meth, c, Q, A, θ, n) => ∀ (H : Heap) (locs : List Loc) (ls : Array Slot), va_P θ.1 vwCl X H → va_D A X → va_S A s.heap H locs → lv_has ls n lv → W p l e R s m args below meth c H locs 0 0 Q (F0 m pc ls st)
def zC (κ : zX) (l0 : Launch) (cc : ByteArray) (n0 : Nat) (own : String) (Ts : List Cond) (k : Nat) (θ0 : zH) : Prop := match κ with
  | (p, l, _, R, s, m, args, _, _, c, _, A, θ, n) => l = l0 ∧ n = n0 ∧ θ = θ0 ∧ R = zr k ∧ p.tables.exec = Jvm.exec ∧ c.code = cc ∧ c.maxLocals = n ∧ s.vm.findClass own = some m.cls ∧ (∀ w ∈ Ts, w.before args s = true) ∧ va_K θ.1 vwCl (zty θ) s ∧ zN s ∧ ∀ q, s.heap.size ≤ q → A q
def zPc (θ : zH) (av : List Value) (X : va_W) (sz : Nat) : Array Value → State → Prop := va_Pc av (fun U => U.heap.size = sz ∧ va_P θ.1 vwCl X U.heap ∧ va_K θ.1 vwCl (zty θ) U ∧ zN U ∧ va_D (fun _ => True) X)
def zB (θ : zH) (X : va_W) (sz : Nat) (Y : va_W) (t : State) : Prop := va_P θ.1 vwCl Y t.heap ∧ va_D (va_A X sz) Y
def cI (l : Launch) (y : MethodName) (wl : List Cond) (k : Nat) (θ : zH) (av : List Value) (X : va_W) (post : Int32 → va_W → Prop) : Prop := ∀ sz : Nat, Met l y wl (zr k) (zPc θ av X sz) (va_Qi post (zB θ X sz) (va_A X sz)) 0 0 (va_A X sz)
def cV (l : Launch) (y : MethodName) (wl : List Cond) (k : Nat) (θ : zH) (av : List Value) (X : va_W) (post : va_W → Prop) : Prop := ∀ sz : Nat, Met l y wl (zr k) (zPc θ av X sz) (va_Qv post (zB θ X sz) (va_A X sz)) 0 0 (va_A X sz)
theorem zPc_blind {θ : zH} {av : List Value} {X : va_W} {sz : Nat} : FrameBlind (zPc θ av X sz) := fun a U g mk q => by
  obtain ⟨q0, q1, qP, qK, qN, qD⟩ := q
  exact ⟨q0, q1, qP, va_K.moved (u := U) (U := U.calling g mk a) (Vm.Alike.refl U.vm) qK, zN.same (u := U) (U := U.calling g mk a) rfl qN, qD⟩
set_option maxHeartbeats 1000000 in
theorem z_cI {l : Launch} {y : MethodName} {wl ws' : List Cond} {cc : ByteArray} {n k : Nat} {ty : FieldType} {θ : zH} {av : List Value} {X : va_W} {post : Int32 → va_W → Prop} {lv : List (Nat × Value)} {own : String} (hy : plainName y.cls = true) (hw : wl = Cond.code y cc n (some ty) :: ws') (hown : y.cls = own) (hlen : (lg_sl av).length ≤ n) (hlv : lv_args 0 av = lv)
    (body : ∀ κ : zX, zC κ l cc n own wl k θ → (∀ (r : Int32) (Y : va_W) (pc : Nat) (lv' : List (Nat × Value)), post r Y → narrow ty (.int r) = .int r → decode cc pc = .ok (.ireturn, 1) → Z κ Y pc lv' [.int r]) → Z κ X 0 lv []) : cI l y wl k θ av X post := by
  intro sz
  refine Met.ofW (cc := cc) (maxL := n) (ret := some ty) hy hw ?_
  intro p e s m args below meth c s₁ B hml hv
  obtain ⟨rfl, hsz, hP, hK, hN, hD0⟩ := hv
  subst hsz
  have hown' : s.vm.findClass own = some m.cls := by rw [← hown]; exact findClass_of_methodNamed B.named
  have hts := atoms_spec (ws := wl) B.pre
  have hr := B.returns
  have hx := B.exec
  have hb := B.bytes
  have hlocks := B.notSynchronized
  have hA : ∀ q : Nat, s.heap.size ≤ q → va_A X s.heap.size q := fun q h => Or.inr h
  have h := body (p, l, e, zr k, s, m, av.toArray, below, meth, c, MQ below (va_Qi post (zB θ X s.heap.size) (va_A X s.heap.size)) av.toArray s 0 0 (va_A X s.heap.size), va_A X s.heap.size, θ, n)
    ⟨rfl, rfl, rfl, rfl, hx, hb, hml, hown', hts, hK, hN, hA⟩ (fun r Y pc lv' hp hn hd H locs ls hP hD hS hl => by
      exact W.zret (v := r) hx hb hr hn (fun t ht hW => ⟨⟨r, Y, rfl, hp, by rw [ht]; exact hP, hD⟩, hS.F ht⟩) hS.2.2 hd hlocks)
  have hl := lv_entry av (n := n) hlen
  rw [lg_entry_eq]
  rw [hlv] at hl
  exact h s.heap [] _ hP hD0.self va_S.rf hl
set_option maxHeartbeats 1000000 in
theorem z_cV {l : Launch} {y : MethodName} {wl ws' : List Cond} {cc : ByteArray} {n k : Nat} {θ : zH} {av : List Value} {X : va_W} {post : va_W → Prop} {lv : List (Nat × Value)} {own : String} (hy : plainName y.cls = true) (hw : wl = Cond.code y cc n none :: ws') (hown : y.cls = own) (hlen : (lg_sl av).length ≤ n) (hlv : lv_args 0 av = lv)
    (body : ∀ κ : zX, zC κ l cc n own wl k θ → (∀ (Y : va_W) (pc : Nat) (lv' : List (Nat × Value)), post Y → decode cc pc = .ok (.return_, 1) → Z κ Y pc lv' []) → Z κ X 0 lv []) : cV l y wl k θ av X post := by
  intro sz
  refine Met.ofW (cc := cc) (maxL := n) (ret := none) hy hw ?_
  intro p e s m args below meth c s₁ B hml hv
  obtain ⟨rfl, hsz, hP, hK, hN, hD0⟩ := hv
  subst hsz
  have hown' : s.vm.findClass own = some m.cls := by rw [← hown]; exact findClass_of_methodNamed B.named
  have hts := atoms_spec (ws := wl) B.pre
  have hr := B.returns
  have hx := B.exec
  have hb := B.bytes
  have hlocks := B.notSynchronized
  have hA : ∀ q : Nat, s.heap.size ≤ q → va_A X s.heap.size q := fun q h => Or.inr h
  have h := body (p, l, e, zr k, s, m, av.toArray, below, meth, c, MQ below (va_Qv post (zB θ X s.heap.size) (va_A X s.heap.size)) av.toArray s 0 0 (va_A X s.heap.size), va_A X s.heap.size, θ, n)
    ⟨rfl, rfl, rfl, rfl, hx, hb, hml, hown', hts, hK, hN, hA⟩ (fun Y pc lv' hp hd H locs ls hP hD hS hl => by
      exact W.vret hx hb hr (fun t ht hW => ⟨⟨Y, rfl, hp, by rw [ht]; exact hP, hD⟩, hS.F ht⟩) hS.2.2 hd hlocks)
  have hl := lv_entry av (n := n) hlen
  rw [lg_entry_eq]
  rw [hlv] at hl
  exact h s.heap [] _ hP hD0.self va_S.rf hl
section ZR
variable {κ : zX} {l0 : Launch} {cc : ByteArray} {n0 : Nat} {own : String} {Ts : List Cond} {kf : Nat} {θ : zH} {X : va_W} {pc : Nat} {lv : List (Nat × Value)} {st : List Value}
def zlk : List (Nat × Value) → Nat → Option Value
  | [], _ => none
  | q :: r, i => bif q.1 == i then some q.2 else zlk r i
theorem zlk_has {ls : Array Slot} {n i : Nat} {lv : List (Nat × Value)} {v : Value} (h : lv_has ls n lv) (hk : zlk lv i = some v) : ls[i]? = some (.val v) := by
  have key : ∀ l : List (Nat × Value), (∀ q ∈ l, ls[q.1]? = some (.val q.2)) → zlk l i = some v → ls[i]? = some (.val v) := by
    intro l
    induction l with
    | nil => intro _ h; cases h
    | cons q r ih =>
      intro hq hz
      unfold zlk at hz
      cases hb : (q.1 == i) with
      | true =>
        rw [hb] at hz
        have e : q.2 = v := Option.some.inj hz
        have e2 : q.1 = i := by simpa using hb
        rw [← e, ← e2]
        exact hq q List.mem_cons_self
      | false =>
        rw [hb] at hz
        exact ih (fun x hx => hq x (List.mem_cons_of_mem _ hx)) hz
  exact key lv h.2.2 hk
theorem zlk_mem {lv : List (Nat × Value)} {i : Nat} {v : Value} (hk : zlk lv i = some v) : ∃ k : Nat, lv[k]? = some (i, v) := by
  induction lv with
  | nil => cases hk
  | cons q r ih =>
    unfold zlk at hk
    cases hb : (q.1 == i) with
    | true =>
      rw [hb] at hk
      have e : q.2 = v := Option.some.inj hk
      have e2 : q.1 = i := by simpa using hb
      exact ⟨0, by rw [← e, ← e2]; rfl⟩
    | false =>
      rw [hb] at hk
      obtain ⟨k, h⟩ := ih hk
      exact ⟨k + 1, by simpa using h⟩
/-- fewer locals, in any order -/
theorem z_lv {lv' : List (Nat × Value)} (h : lv'.map (fun q => zlk lv q.1) = lv'.map (fun q => some q.2)) (kk : Z κ X pc lv' st) : Z κ X pc lv st := by
  obtain ⟨p, l, e, R, s, m, args, below, meth, c, Q, A, θ', n⟩ := κ
  intro H locs ls hP hD hS hl
  refine kk H locs ls hP hD hS ⟨hl.1, hl.2.1, fun q hq => ?_⟩
  have h2 := List.map_inj_left.mp h q hq
  exact zlk_has hl h2
theorem z_X {Y : va_W} (h : X = Y) (kk : Z κ Y pc lv st) : Z κ X pc lv st := h ▸ kk
theorem z_st {st' : List Value} (h : st = st') (kk : Z κ X pc lv st') : Z κ X pc lv st := h ▸ kk
theorem z_topi {x : Int32} (k : ∀ y : Int32, y = x → Z κ X pc lv (.int y :: st)) : Z κ X pc lv (.int x :: st) := k x rfl
theorem z_topl {x : Int64} (k : ∀ y : Int64, y = x → Z κ X pc lv (.long y :: st)) : Z κ X pc lv (.long x :: st) := k x rfl
theorem z_up (P : Nat → Prop) (N : Nat) (hend : P N) (hstep : ∀ k, k < N → P (k + 1) → P k) (k : Nat) (hk : k ≤ N) : P k := by
  obtain ⟨d, hd⟩ : ∃ d, N - k = d := ⟨_, rfl⟩
  induction d generalizing k with
  | zero => have e : k = N := by omega
            rw [e]; exact hend
  | succ d ih => exact hstep k (by omega) (ih (k + 1) (by omega) (by omega))

theorem z_iconst (C : zC κ l0 cc n0 own Ts kf θ) {i : Int} {v : Int32} (hd : decode cc pc = .ok (.iconst i, 1)) (hv : Int32.ofInt i = v) (kk : Z κ X (pc + 1) lv (.int v :: st)) : Z κ X pc lv st := by
  obtain ⟨p, l, e, R, s, m, args, below, meth, c, Q, A, θ', n⟩ := κ
  obtain ⟨rfl, rfl, rfl, hR, hx, hb, hml, hown, hts, hK, hN, hA⟩ := C
  subst hR
  intro H locs ls hP hD hS hl
  exact lv_iconst hx hb hd hv (kk H locs ls hP hD hS hl)
theorem z_bipush (C : zC κ l0 cc n0 own Ts kf θ) {i : Int} {v : Int32} (hd : decode cc pc = .ok (.bipush i, 2)) (hv : (Int8.ofInt i).toInt32 = v) (kk : Z κ X (pc + 2) lv (.int v :: st)) : Z κ X pc lv st := by
  obtain ⟨p, l, e, R, s, m, args, below, meth, c, Q, A, θ', n⟩ := κ
  obtain ⟨rfl, rfl, rfl, hR, hx, hb, hml, hown, hts, hK, hN, hA⟩ := C
  subst hR
  intro H locs ls hP hD hS hl
  exact lv_bipush hx hb hd hv (kk H locs ls hP hD hS hl)
theorem z_sipush (C : zC κ l0 cc n0 own Ts kf θ) {i : Int} {v : Int32} (hd : decode cc pc = .ok (.sipush i, 3)) (hv : (Int16.ofInt i).toInt32 = v) (kk : Z κ X (pc + 3) lv (.int v :: st)) : Z κ X pc lv st := by
  obtain ⟨p, l, e, R, s, m, args, below, meth, c, Q, A, θ', n⟩ := κ
  obtain ⟨rfl, rfl, rfl, hR, hx, hb, hml, hown, hts, hK, hN, hA⟩ := C
  subst hR
  intro H locs ls hP hD hS hl
  exact lv_sipush hx hb hd hv (kk H locs ls hP hD hS hl)
theorem z_lconst (C : zC κ l0 cc n0 own Ts kf θ) {i : Fin 2} {v : Int64} (hd : decode cc pc = .ok (.lconst i, 1)) (hv : Int64.ofNat (i : Nat) = v) (kk : Z κ X (pc + 1) lv (.long v :: st)) : Z κ X pc lv st := by
  obtain ⟨p, l, e, R, s, m, args, below, meth, c, Q, A, θ', n⟩ := κ
  obtain ⟨rfl, rfl, rfl, hR, hx, hb, hml, hown, hts, hK, hN, hA⟩ := C
  subst hR
  intro H locs ls hP hD hS hl
  exact lv_lconst hx hb hd hv (kk H locs ls hP hD hS hl)
theorem z_ldc (C : zC κ l0 cc n0 own Ts kf θ) {i : Nat} {v : Int32} (hm : Cond.constant own i v ∈ Ts) (hd : decode cc pc = .ok (.ldc i, 2)) (kk : Z κ X (pc + 2) lv (.int v :: st)) : Z κ X pc lv st := by
  obtain ⟨p, l, e, R, s, m, args, below, meth, c, Q, A, θ', n⟩ := κ
  obtain ⟨rfl, rfl, rfl, hR, hx, hb, hml, hown, hts, hK, hN, hA⟩ := C
  subst hR
  intro H locs ls hP hD hS hl
  exact lv_ldc hx hb hown (hts _ hm) hd (kk H locs ls hP hD hS hl)
theorem z_ldcw (C : zC κ l0 cc n0 own Ts kf θ) {i : Nat} {v : Int32} (hm : Cond.constant own i v ∈ Ts) (hd : decode cc pc = .ok (.ldc_w i, 3)) (kk : Z κ X (pc + 3) lv (.int v :: st)) : Z κ X pc lv st := by
  obtain ⟨p, l, e, R, s, m, args, below, meth, c, Q, A, θ', n⟩ := κ
  obtain ⟨rfl, rfl, rfl, hR, hx, hb, hml, hown, hts, hK, hN, hA⟩ := C
  subst hR
  intro H locs ls hP hD hS hl
  exact lv_ldcw hx hb hown (hts _ hm) hd (kk H locs ls hP hD hS hl)
theorem z_ldc2 (C : zC κ l0 cc n0 own Ts kf θ) {i : Nat} {v : Int64} (hm : Cond.constantLong own i v ∈ Ts) (hd : decode cc pc = .ok (.ldc2_w i, 3)) (kk : Z κ X (pc + 3) lv (.long v :: st)) : Z κ X pc lv st := by
  obtain ⟨p, l, e, R, s, m, args, below, meth, c, Q, A, θ', n⟩ := κ
  obtain ⟨rfl, rfl, rfl, hR, hx, hb, hml, hown, hts, hK, hN, hA⟩ := C
  subst hR
  intro H locs ls hP hD hS hl
  exact lv_ldc2 hx hb hown (hts _ hm) hd (kk H locs ls hP hD hS hl)
theorem z_iload_n (C : zC κ l0 cc n0 own Ts kf θ) {j : Fin 4} {i : Nat} {x : Int32} (hd : decode cc pc = .ok (.iload_n j, 1)) (hi : (j : Nat) = i) (h : zlk lv i = some (.int x)) (kk : Z κ X (pc + 1) lv (.int x :: st)) : Z κ X pc lv st := by
  obtain ⟨p, l, e, R, s, m, args, below, meth, c, Q, A, θ', n⟩ := κ
  obtain ⟨rfl, rfl, rfl, hR, hx, hb, hml, hown, hts, hK, hN, hA⟩ := C
  subst hR
  intro H locs ls hP hD hS hl
  exact lv_iload_n hx hb hd hi (zlk_has hl h) (kk H locs ls hP hD hS hl)
theorem z_iload (C : zC κ l0 cc n0 own Ts kf θ) {i : Nat} {x : Int32} (hd : decode cc pc = .ok (.iload i, 2)) (h : zlk lv i = some (.int x)) (kk : Z κ X (pc + 2) lv (.int x :: st)) : Z κ X pc lv st := by
  obtain ⟨p, l, e, R, s, m, args, below, meth, c, Q, A, θ', n⟩ := κ
  obtain ⟨rfl, rfl, rfl, hR, hx, hb, hml, hown, hts, hK, hN, hA⟩ := C
  subst hR
  intro H locs ls hP hD hS hl
  exact lv_iload hx hb hd (zlk_has hl h) (kk H locs ls hP hD hS hl)
theorem z_istore_n (C : zC κ l0 cc n0 own Ts kf θ) {j : Fin 4} {i : Nat} {x : Int32} (lv' : List (Nat × Value)) (hd : decode cc pc = .ok (.istore_n j, 1)) (hi : (j : Nat) = i) (hn : i < n0) (h : (i, Value.int x) :: lv.filter (fun q => !(q.1 == i) && !(q.1 + 1 == i && q.2.category == 2)) = lv') (kk : Z κ X (pc + 1) lv' st) : Z κ X pc lv (.int x :: st) := by
  obtain ⟨p, l, e, R, s, m, args, below, meth, c, Q, A, θ', n⟩ := κ
  obtain ⟨rfl, rfl, rfl, hR, hx, hb, hml, hown, hts, hK, hN, hA⟩ := C
  subst hR
  intro H locs ls hP hD hS hl
  exact lv_istore_n hx hb hd hi hl hn h (fun ls hl => kk H locs ls hP hD hS hl)
theorem z_istore (C : zC κ l0 cc n0 own Ts kf θ) {i : Nat} {x : Int32} (lv' : List (Nat × Value)) (hd : decode cc pc = .ok (.istore i, 2)) (hn : i < n0) (h : (i, Value.int x) :: lv.filter (fun q => !(q.1 == i) && !(q.1 + 1 == i && q.2.category == 2)) = lv') (kk : Z κ X (pc + 2) lv' st) : Z κ X pc lv (.int x :: st) := by
  obtain ⟨p, l, e, R, s, m, args, below, meth, c, Q, A, θ', n⟩ := κ
  obtain ⟨rfl, rfl, rfl, hR, hx, hb, hml, hown, hts, hK, hN, hA⟩ := C
  subst hR
  intro H locs ls hP hD hS hl
  exact lv_istore hx hb hd hl hn h (fun ls hl => kk H locs ls hP hD hS hl)
theorem z_lload_n (C : zC κ l0 cc n0 own Ts kf θ) {j : Fin 4} {i : Nat} {x : Int64} (hd : decode cc pc = .ok (.lload_n j, 1)) (hi : (j : Nat) = i) (h : zlk lv i = some (.long x)) (kk : Z κ X (pc + 1) lv (.long x :: st)) : Z κ X pc lv st := by
  obtain ⟨p, l, e, R, s, m, args, below, meth, c, Q, A, θ', n⟩ := κ
  obtain ⟨rfl, rfl, rfl, hR, hx, hb, hml, hown, hts, hK, hN, hA⟩ := C
  subst hR
  intro H locs ls hP hD hS hl
  exact lv_lload_n hx hb hd hi (zlk_has hl h) (kk H locs ls hP hD hS hl)
theorem z_lload (C : zC κ l0 cc n0 own Ts kf θ) {i : Nat} {x : Int64} (hd : decode cc pc = .ok (.lload i, 2)) (h : zlk lv i = some (.long x)) (kk : Z κ X (pc + 2) lv (.long x :: st)) : Z κ X pc lv st := by
  obtain ⟨p, l, e, R, s, m, args, below, meth, c, Q, A, θ', n⟩ := κ
  obtain ⟨rfl, rfl, rfl, hR, hx, hb, hml, hown, hts, hK, hN, hA⟩ := C
  subst hR
  intro H locs ls hP hD hS hl
  exact lv_lload hx hb hd (zlk_has hl h) (kk H locs ls hP hD hS hl)
theorem z_lstore_n (C : zC κ l0 cc n0 own Ts kf θ) {j : Fin 4} {i : Nat} {x : Int64} (lv' : List (Nat × Value)) (hd : decode cc pc = .ok (.lstore_n j, 1)) (hi : (j : Nat) = i) (hn : i + 1 < n0) (h : (i, Value.long x) :: lv.filter (fun q => !(q.1 == i) && (!(q.1 == i + 1) && !(q.1 + 1 == i && q.2.category == 2))) = lv') (kk : Z κ X (pc + 1) lv' st) : Z κ X pc lv (.long x :: st) := by
  obtain ⟨p, l, e, R, s, m, args, below, meth, c, Q, A, θ', n⟩ := κ
  obtain ⟨rfl, rfl, rfl, hR, hx, hb, hml, hown, hts, hK, hN, hA⟩ := C
  subst hR
  intro H locs ls hP hD hS hl
  exact lv_lstore_n hx hb hd hi hl hn h (fun ls hl => kk H locs ls hP hD hS hl)
theorem z_lstore (C : zC κ l0 cc n0 own Ts kf θ) {i : Nat} {x : Int64} (lv' : List (Nat × Value)) (hd : decode cc pc = .ok (.lstore i, 2)) (hn : i + 1 < n0) (h : (i, Value.long x) :: lv.filter (fun q => !(q.1 == i) && (!(q.1 == i + 1) && !(q.1 + 1 == i && q.2.category == 2))) = lv') (kk : Z κ X (pc + 2) lv' st) : Z κ X pc lv (.long x :: st) := by
  obtain ⟨p, l, e, R, s, m, args, below, meth, c, Q, A, θ', n⟩ := κ
  obtain ⟨rfl, rfl, rfl, hR, hx, hb, hml, hown, hts, hK, hN, hA⟩ := C
  subst hR
  intro H locs ls hP hD hS hl
  exact lv_lstore hx hb hd hl hn h (fun ls hl => kk H locs ls hP hD hS hl)
theorem z_aload_n (C : zC κ l0 cc n0 own Ts kf θ) {j : Fin 4} {i : Nat} {x : Nat} (hd : decode cc pc = .ok (.aload_n j, 1)) (hi : (j : Nat) = i) (h : zlk lv i = some (.ref x)) (kk : Z κ X (pc + 1) lv (.ref x :: st)) : Z κ X pc lv st := by
  obtain ⟨p, l, e, R, s, m, args, below, meth, c, Q, A, θ', n⟩ := κ
  obtain ⟨rfl, rfl, rfl, hR, hx, hb, hml, hown, hts, hK, hN, hA⟩ := C
  subst hR
  intro H locs ls hP hD hS hl
  exact lv_aload_n hx hb hd hi (zlk_has hl h) (kk H locs ls hP hD hS hl)
theorem z_aload (C : zC κ l0 cc n0 own Ts kf θ) {i : Nat} {x : Nat} (hd : decode cc pc = .ok (.aload i, 2)) (h : zlk lv i = some (.ref x)) (kk : Z κ X (pc + 2) lv (.ref x :: st)) : Z κ X pc lv st := by
  obtain ⟨p, l, e, R, s, m, args, below, meth, c, Q, A, θ', n⟩ := κ
  obtain ⟨rfl, rfl, rfl, hR, hx, hb, hml, hown, hts, hK, hN, hA⟩ := C
  subst hR
  intro H locs ls hP hD hS hl
  exact lv_aload hx hb hd (zlk_has hl h) (kk H locs ls hP hD hS hl)
theorem z_astore_n (C : zC κ l0 cc n0 own Ts kf θ) {j : Fin 4} {i : Nat} {x : Nat} (lv' : List (Nat × Value)) (hd : decode cc pc = .ok (.astore_n j, 1)) (hi : (j : Nat) = i) (hn : i < n0) (h : (i, Value.ref x) :: lv.filter (fun q => !(q.1 == i) && !(q.1 + 1 == i && q.2.category == 2)) = lv') (kk : Z κ X (pc + 1) lv' st) : Z κ X pc lv (.ref x :: st) := by
  obtain ⟨p, l, e, R, s, m, args, below, meth, c, Q, A, θ', n⟩ := κ
  obtain ⟨rfl, rfl, rfl, hR, hx, hb, hml, hown, hts, hK, hN, hA⟩ := C
  subst hR
  intro H locs ls hP hD hS hl
  exact lv_astore_n hx hb hd hi hl hn h (fun ls hl => kk H locs ls hP hD hS hl)
theorem z_astore (C : zC κ l0 cc n0 own Ts kf θ) {i : Nat} {x : Nat} (lv' : List (Nat × Value)) (hd : decode cc pc = .ok (.astore i, 2)) (hn : i < n0) (h : (i, Value.ref x) :: lv.filter (fun q => !(q.1 == i) && !(q.1 + 1 == i && q.2.category == 2)) = lv') (kk : Z κ X (pc + 2) lv' st) : Z κ X pc lv (.ref x :: st) := by
  obtain ⟨p, l, e, R, s, m, args, below, meth, c, Q, A, θ', n⟩ := κ
  obtain ⟨rfl, rfl, rfl, hR, hx, hb, hml, hown, hts, hK, hN, hA⟩ := C
  subst hR
  intro H locs ls hP hD hS hl
  exact lv_astore hx hb hd hl hn h (fun ls hl => kk H locs ls hP hD hS hl)
theorem z_iinc (C : zC κ l0 cc n0 own Ts kf θ) {i : Nat} {j : Int} {x v : Int32} (lv' : List (Nat × Value)) (hd : decode cc pc = .ok (.iinc i j, 3)) (hk : zlk lv i = some (.int x)) (hv : x + Int32.ofInt j = v) (hn : i < n0) (h : (i, Value.int v) :: lv.filter (fun q => !(q.1 == i) && !(q.1 + 1 == i && q.2.category == 2)) = lv') (kk : Z κ X (pc + 3) lv' st) : Z κ X pc lv st := by
  obtain ⟨p, l, e, R, s, m, args, below, meth, c, Q, A, θ', n⟩ := κ
  obtain ⟨rfl, rfl, rfl, hR, hx, hb, hml, hown, hts, hK, hN, hA⟩ := C
  subst hR
  intro H locs ls hP hD hS hl
  obtain ⟨k0, hk0⟩ := zlk_mem hk
  exact lv_iinc hx hb hd hl hk0 hv hn h (fun ls hl => kk H locs ls hP hD hS hl)
theorem z_iadd (C : zC κ l0 cc n0 own Ts kf θ) {x y : Int32} (hd : decode cc pc = .ok (.iadd, 1)) (kk : Z κ X (pc + 1) lv (.int (x + y) :: st)) : Z κ X pc lv (.int y :: .int x :: st) := by
  obtain ⟨p, l, e, R, s, m, args, below, meth, c, Q, A, θ', n⟩ := κ
  obtain ⟨rfl, rfl, rfl, hR, hx, hb, hml, hown, hts, hK, hN, hA⟩ := C
  subst hR
  intro H locs ls hP hD hS hl
  exact lv_iadd hx hb hd (kk H locs ls hP hD hS hl)
theorem z_isub (C : zC κ l0 cc n0 own Ts kf θ) {x y : Int32} (hd : decode cc pc = .ok (.isub, 1)) (kk : Z κ X (pc + 1) lv (.int (x - y) :: st)) : Z κ X pc lv (.int y :: .int x :: st) := by
  obtain ⟨p, l, e, R, s, m, args, below, meth, c, Q, A, θ', n⟩ := κ
  obtain ⟨rfl, rfl, rfl, hR, hx, hb, hml, hown, hts, hK, hN, hA⟩ := C
  subst hR
  intro H locs ls hP hD hS hl
  exact lv_isub hx hb hd (kk H locs ls hP hD hS hl)
theorem z_imul (C : zC κ l0 cc n0 own Ts kf θ) {x y : Int32} (hd : decode cc pc = .ok (.imul, 1)) (kk : Z κ X (pc + 1) lv (.int (x * y) :: st)) : Z κ X pc lv (.int y :: .int x :: st) := by
  obtain ⟨p, l, e, R, s, m, args, below, meth, c, Q, A, θ', n⟩ := κ
  obtain ⟨rfl, rfl, rfl, hR, hx, hb, hml, hown, hts, hK, hN, hA⟩ := C
  subst hR
  intro H locs ls hP hD hS hl
  exact lv_imul hx hb hd (kk H locs ls hP hD hS hl)
theorem z_iand (C : zC κ l0 cc n0 own Ts kf θ) {x y : Int32} (hd : decode cc pc = .ok (.iand, 1)) (kk : Z κ X (pc + 1) lv (.int (x &&& y) :: st)) : Z κ X pc lv (.int y :: .int x :: st) := by
  obtain ⟨p, l, e, R, s, m, args, below, meth, c, Q, A, θ', n⟩ := κ
  obtain ⟨rfl, rfl, rfl, hR, hx, hb, hml, hown, hts, hK, hN, hA⟩ := C
  subst hR
  intro H locs ls hP hD hS hl
  exact lv_iand hx hb hd (kk H locs ls hP hD hS hl)
theorem z_ior (C : zC κ l0 cc n0 own Ts kf θ) {x y : Int32} (hd : decode cc pc = .ok (.ior, 1)) (kk : Z κ X (pc + 1) lv (.int (x ||| y) :: st)) : Z κ X pc lv (.int y :: .int x :: st) := by
  obtain ⟨p, l, e, R, s, m, args, below, meth, c, Q, A, θ', n⟩ := κ
  obtain ⟨rfl, rfl, rfl, hR, hx, hb, hml, hown, hts, hK, hN, hA⟩ := C
  subst hR
  intro H locs ls hP hD hS hl
  exact lv_ior hx hb hd (kk H locs ls hP hD hS hl)
theorem z_ixor (C : zC κ l0 cc n0 own Ts kf θ) {x y : Int32} (hd : decode cc pc = .ok (.ixor, 1)) (kk : Z κ X (pc + 1) lv (.int (x ^^^ y) :: st)) : Z κ X pc lv (.int y :: .int x :: st) := by
  obtain ⟨p, l, e, R, s, m, args, below, meth, c, Q, A, θ', n⟩ := κ
  obtain ⟨rfl, rfl, rfl, hR, hx, hb, hml, hown, hts, hK, hN, hA⟩ := C
  subst hR
  intro H locs ls hP hD hS hl
  exact lv_ixor hx hb hd (kk H locs ls hP hD hS hl)
theorem z_ishl (C : zC κ l0 cc n0 own Ts kf θ) {x y : Int32} (hd : decode cc pc = .ok (.ishl, 1)) (kk : Z κ X (pc + 1) lv (.int (x <<< (y &&& 31)) :: st)) : Z κ X pc lv (.int y :: .int x :: st) := by
  obtain ⟨p, l, e, R, s, m, args, below, meth, c, Q, A, θ', n⟩ := κ
  obtain ⟨rfl, rfl, rfl, hR, hx, hb, hml, hown, hts, hK, hN, hA⟩ := C
  subst hR
  intro H locs ls hP hD hS hl
  exact lv_ishl hx hb hd (kk H locs ls hP hD hS hl)
theorem z_ishr (C : zC κ l0 cc n0 own Ts kf θ) {x y : Int32} (hd : decode cc pc = .ok (.ishr, 1)) (kk : Z κ X (pc + 1) lv (.int (x >>> (y &&& 31)) :: st)) : Z κ X pc lv (.int y :: .int x :: st) := by
  obtain ⟨p, l, e, R, s, m, args, below, meth, c, Q, A, θ', n⟩ := κ
  obtain ⟨rfl, rfl, rfl, hR, hx, hb, hml, hown, hts, hK, hN, hA⟩ := C
  subst hR
  intro H locs ls hP hD hS hl
  exact lv_ishr hx hb hd (kk H locs ls hP hD hS hl)
theorem z_ineg (C : zC κ l0 cc n0 own Ts kf θ) {x : Int32} (hd : decode cc pc = .ok (.ineg, 1)) (kk : Z κ X (pc + 1) lv (.int (-x) :: st)) : Z κ X pc lv (.int x :: st) := by
  obtain ⟨p, l, e, R, s, m, args, below, meth, c, Q, A, θ', n⟩ := κ
  obtain ⟨rfl, rfl, rfl, hR, hx, hb, hml, hown, hts, hK, hN, hA⟩ := C
  subst hR
  intro H locs ls hP hD hS hl
  exact lv_ineg hx hb hd (kk H locs ls hP hD hS hl)
theorem z_idiv (C : zC κ l0 cc n0 own Ts kf θ) {x y : Int32} (hd : decode cc pc = .ok (.idiv, 1)) (hne : ¬ y = 0) (kk : Z κ X (pc + 1) lv (.int (x / y) :: st)) : Z κ X pc lv (.int y :: .int x :: st) := by
  obtain ⟨p, l, e, R, s, m, args, below, meth, c, Q, A, θ', n⟩ := κ
  obtain ⟨rfl, rfl, rfl, hR, hx, hb, hml, hown, hts, hK, hN, hA⟩ := C
  subst hR
  intro H locs ls hP hD hS hl
  exact lv_idiv hx hb hd hne (kk H locs ls hP hD hS hl)
theorem z_irem (C : zC κ l0 cc n0 own Ts kf θ) {x y : Int32} (hd : decode cc pc = .ok (.irem, 1)) (hne : ¬ y = 0) (kk : Z κ X (pc + 1) lv (.int (x - x / y * y) :: st)) : Z κ X pc lv (.int y :: .int x :: st) := by
  obtain ⟨p, l, e, R, s, m, args, below, meth, c, Q, A, θ', n⟩ := κ
  obtain ⟨rfl, rfl, rfl, hR, hx, hb, hml, hown, hts, hK, hN, hA⟩ := C
  subst hR
  intro H locs ls hP hD hS hl
  exact lv_irem hx hb hd hne (kk H locs ls hP hD hS hl)
theorem z_iushr (C : zC κ l0 cc n0 own Ts kf θ) {x y v : Int32} (hd : decode cc pc = .ok (.iushr, 1)) (hv : (x.toUInt32 >>> (y.toUInt32 &&& Int32.toUInt32 31)).toInt32 = v) (kk : Z κ X (pc + 1) lv (.int v :: st)) : Z κ X pc lv (.int y :: .int x :: st) := by
  obtain ⟨p, l, e, R, s, m, args, below, meth, c, Q, A, θ', n⟩ := κ
  obtain ⟨rfl, rfl, rfl, hR, hx, hb, hml, hown, hts, hK, hN, hA⟩ := C
  subst hR
  intro H locs ls hP hD hS hl
  exact lv_iushr hx hb hd hv (kk H locs ls hP hD hS hl)
theorem z_ladd (C : zC κ l0 cc n0 own Ts kf θ) {x y : Int64} (hd : decode cc pc = .ok (.ladd, 1)) (kk : Z κ X (pc + 1) lv (.long (x + y) :: st)) : Z κ X pc lv (.long y :: .long x :: st) := by
  obtain ⟨p, l, e, R, s, m, args, below, meth, c, Q, A, θ', n⟩ := κ
  obtain ⟨rfl, rfl, rfl, hR, hx, hb, hml, hown, hts, hK, hN, hA⟩ := C
  subst hR
  intro H locs ls hP hD hS hl
  exact lv_ladd hx hb hd (kk H locs ls hP hD hS hl)
theorem z_lmul (C : zC κ l0 cc n0 own Ts kf θ) {x y : Int64} (hd : decode cc pc = .ok (.lmul, 1)) (kk : Z κ X (pc + 1) lv (.long (x * y) :: st)) : Z κ X pc lv (.long y :: .long x :: st) := by
  obtain ⟨p, l, e, R, s, m, args, below, meth, c, Q, A, θ', n⟩ := κ
  obtain ⟨rfl, rfl, rfl, hR, hx, hb, hml, hown, hts, hK, hN, hA⟩ := C
  subst hR
  intro H locs ls hP hD hS hl
  exact lv_lmul hx hb hd (kk H locs ls hP hD hS hl)
theorem z_ldiv (C : zC κ l0 cc n0 own Ts kf θ) {x y : Int64} (hd : decode cc pc = .ok (.ldiv, 1)) (hne : ¬ y = 0) (kk : Z κ X (pc + 1) lv (.long (x / y) :: st)) : Z κ X pc lv (.long y :: .long x :: st) := by
  obtain ⟨p, l, e, R, s, m, args, below, meth, c, Q, A, θ', n⟩ := κ
  obtain ⟨rfl, rfl, rfl, hR, hx, hb, hml, hown, hts, hK, hN, hA⟩ := C
  subst hR
  intro H locs ls hP hD hS hl
  exact lv_ldiv hx hb hd hne (kk H locs ls hP hD hS hl)
theorem z_lrem (C : zC κ l0 cc n0 own Ts kf θ) {x y : Int64} (hd : decode cc pc = .ok (.lrem, 1)) (hne : ¬ y = 0) (kk : Z κ X (pc + 1) lv (.long (x - x / y * y) :: st)) : Z κ X pc lv (.long y :: .long x :: st) := by
  obtain ⟨p, l, e, R, s, m, args, below, meth, c, Q, A, θ', n⟩ := κ
  obtain ⟨rfl, rfl, rfl, hR, hx, hb, hml, hown, hts, hK, hN, hA⟩ := C
  subst hR
  intro H locs ls hP hD hS hl
  exact lv_lrem hx hb hd hne (kk H locs ls hP hD hS hl)
theorem z_i2l (C : zC κ l0 cc n0 own Ts kf θ) {x : Int32} (hd : decode cc pc = .ok (.i2l, 1)) (kk : Z κ X (pc + 1) lv (.long x.toInt64 :: st)) : Z κ X pc lv (.int x :: st) := by
  obtain ⟨p, l, e, R, s, m, args, below, meth, c, Q, A, θ', n⟩ := κ
  obtain ⟨rfl, rfl, rfl, hR, hx, hb, hml, hown, hts, hK, hN, hA⟩ := C
  subst hR
  intro H locs ls hP hD hS hl
  exact lv_i2l hx hb hd rfl (kk H locs ls hP hD hS hl)
theorem z_l2i (C : zC κ l0 cc n0 own Ts kf θ) {x : Int64} (hd : decode cc pc = .ok (.l2i, 1)) (kk : Z κ X (pc + 1) lv (.int x.toInt32 :: st)) : Z κ X pc lv (.long x :: st) := by
  obtain ⟨p, l, e, R, s, m, args, below, meth, c, Q, A, θ', n⟩ := κ
  obtain ⟨rfl, rfl, rfl, hR, hx, hb, hml, hown, hts, hK, hN, hA⟩ := C
  subst hR
  intro H locs ls hP hD hS hl
  exact lv_l2i hx hb hd rfl (kk H locs ls hP hD hS hl)
theorem z_dup (C : zC κ l0 cc n0 own Ts kf θ) {v : Value} (hd : decode cc pc = .ok (.dup, 1)) (hv : v.category = 1) (kk : Z κ X (pc + 1) lv (v :: v :: st)) : Z κ X pc lv (v :: st) := by
  obtain ⟨p, l, e, R, s, m, args, below, meth, c, Q, A, θ', n⟩ := κ
  obtain ⟨rfl, rfl, rfl, hR, hx, hb, hml, hown, hts, hK, hN, hA⟩ := C
  subst hR
  intro H locs ls hP hD hS hl
  exact lv_dup hx hb hd hv (kk H locs ls hP hD hS hl)
theorem z_dup2 (C : zC κ l0 cc n0 own Ts kf θ) {v u : Value} (hd : decode cc pc = .ok (.dup2, 1)) (hv : v.category = 1) (hu : u.category = 1) (kk : Z κ X (pc + 1) lv (v :: u :: v :: u :: st)) : Z κ X pc lv (v :: u :: st) := by
  obtain ⟨p, l, e, R, s, m, args, below, meth, c, Q, A, θ', n⟩ := κ
  obtain ⟨rfl, rfl, rfl, hR, hx, hb, hml, hown, hts, hK, hN, hA⟩ := C
  subst hR
  intro H locs ls hP hD hS hl
  exact lv_dup2_11 hx hb hd hv hu (kk H locs ls hP hD hS hl)
theorem z_if_eq (C : zC κ l0 cc n0 own Ts kf θ) {x : Int32} {off : Int} (tgt : Nat) (hd : decode cc pc = .ok (.ifCond .eq off, 3)) (ht : (pc : Int) + off = (tgt : Int)) (kt : x = 0 → Z κ X tgt lv st) (kn : ¬ x = 0 → Z κ X (pc + 3) lv st) : Z κ X pc lv (.int x :: st) := by
  obtain ⟨p, l, e, R, s, m, args, below, meth, c, Q, A, θ', n⟩ := κ
  obtain ⟨rfl, rfl, rfl, hR, hx, hb, hml, hown, hts, hK, hN, hA⟩ := C
  subst hR
  intro H locs ls hP hD hS hl
  exact lv_if_eq hx hb hd ht (fun h => kt h H locs ls hP hD hS hl) (fun h => kn h H locs ls hP hD hS hl)
theorem z_icmp_eq (C : zC κ l0 cc n0 own Ts kf θ) {x y : Int32} {off : Int} (tgt : Nat) (hd : decode cc pc = .ok (.if_icmp .eq off, 3)) (ht : (pc : Int) + off = (tgt : Int)) (kt : x = y → Z κ X tgt lv st) (kn : ¬ x = y → Z κ X (pc + 3) lv st) : Z κ X pc lv (.int y :: .int x :: st) := by
  obtain ⟨p, l, e, R, s, m, args, below, meth, c, Q, A, θ', n⟩ := κ
  obtain ⟨rfl, rfl, rfl, hR, hx, hb, hml, hown, hts, hK, hN, hA⟩ := C
  subst hR
  intro H locs ls hP hD hS hl
  exact lv_icmp_eq hx hb hd ht (fun h => kt h H locs ls hP hD hS hl) (fun h => kn h H locs ls hP hD hS hl)
theorem z_if_ne (C : zC κ l0 cc n0 own Ts kf θ) {x : Int32} {off : Int} (tgt : Nat) (hd : decode cc pc = .ok (.ifCond .ne off, 3)) (ht : (pc : Int) + off = (tgt : Int)) (kt : ¬ x = 0 → Z κ X tgt lv st) (kn : x = 0 → Z κ X (pc + 3) lv st) : Z κ X pc lv (.int x :: st) := by
  obtain ⟨p, l, e, R, s, m, args, below, meth, c, Q, A, θ', n⟩ := κ
  obtain ⟨rfl, rfl, rfl, hR, hx, hb, hml, hown, hts, hK, hN, hA⟩ := C
  subst hR
  intro H locs ls hP hD hS hl
  exact lv_if_ne hx hb hd ht (fun h => kt h H locs ls hP hD hS hl) (fun h => kn h H locs ls hP hD hS hl)
theorem z_icmp_ne (C : zC κ l0 cc n0 own Ts kf θ) {x y : Int32} {off : Int} (tgt : Nat) (hd : decode cc pc = .ok (.if_icmp .ne off, 3)) (ht : (pc : Int) + off = (tgt : Int)) (kt : ¬ x = y → Z κ X tgt lv st) (kn : x = y → Z κ X (pc + 3) lv st) : Z κ X pc lv (.int y :: .int x :: st) := by
  obtain ⟨p, l, e, R, s, m, args, below, meth, c, Q, A, θ', n⟩ := κ
  obtain ⟨rfl, rfl, rfl, hR, hx, hb, hml, hown, hts, hK, hN, hA⟩ := C
  subst hR
  intro H locs ls hP hD hS hl
  exact lv_icmp_ne hx hb hd ht (fun h => kt h H locs ls hP hD hS hl) (fun h => kn h H locs ls hP hD hS hl)
theorem z_if_lt (C : zC κ l0 cc n0 own Ts kf θ) {x : Int32} {off : Int} (tgt : Nat) (hd : decode cc pc = .ok (.ifCond .lt off, 3)) (ht : (pc : Int) + off = (tgt : Int)) (kt : x < 0 → Z κ X tgt lv st) (kn : ¬ x < 0 → Z κ X (pc + 3) lv st) : Z κ X pc lv (.int x :: st) := by
  obtain ⟨p, l, e, R, s, m, args, below, meth, c, Q, A, θ', n⟩ := κ
  obtain ⟨rfl, rfl, rfl, hR, hx, hb, hml, hown, hts, hK, hN, hA⟩ := C
  subst hR
  intro H locs ls hP hD hS hl
  exact lv_if_lt hx hb hd ht (fun h => kt h H locs ls hP hD hS hl) (fun h => kn h H locs ls hP hD hS hl)
theorem z_icmp_lt (C : zC κ l0 cc n0 own Ts kf θ) {x y : Int32} {off : Int} (tgt : Nat) (hd : decode cc pc = .ok (.if_icmp .lt off, 3)) (ht : (pc : Int) + off = (tgt : Int)) (kt : x < y → Z κ X tgt lv st) (kn : ¬ x < y → Z κ X (pc + 3) lv st) : Z κ X pc lv (.int y :: .int x :: st) := by
  obtain ⟨p, l, e, R, s, m, args, below, meth, c, Q, A, θ', n⟩ := κ
  obtain ⟨rfl, rfl, rfl, hR, hx, hb, hml, hown, hts, hK, hN, hA⟩ := C
  subst hR
  intro H locs ls hP hD hS hl
  exact lv_icmp_lt hx hb hd ht (fun h => kt h H locs ls hP hD hS hl) (fun h => kn h H locs ls hP hD hS hl)
theorem z_if_ge (C : zC κ l0 cc n0 own Ts kf θ) {x : Int32} {off : Int} (tgt : Nat) (hd : decode cc pc = .ok (.ifCond .ge off, 3)) (ht : (pc : Int) + off = (tgt : Int)) (kt : 0 ≤ x → Z κ X tgt lv st) (kn : ¬ 0 ≤ x → Z κ X (pc + 3) lv st) : Z κ X pc lv (.int x :: st) := by
  obtain ⟨p, l, e, R, s, m, args, below, meth, c, Q, A, θ', n⟩ := κ
  obtain ⟨rfl, rfl, rfl, hR, hx, hb, hml, hown, hts, hK, hN, hA⟩ := C
  subst hR
  intro H locs ls hP hD hS hl
  exact lv_if_ge hx hb hd ht (fun h => kt h H locs ls hP hD hS hl) (fun h => kn h H locs ls hP hD hS hl)
theorem z_icmp_ge (C : zC κ l0 cc n0 own Ts kf θ) {x y : Int32} {off : Int} (tgt : Nat) (hd : decode cc pc = .ok (.if_icmp .ge off, 3)) (ht : (pc : Int) + off = (tgt : Int)) (kt : y ≤ x → Z κ X tgt lv st) (kn : ¬ y ≤ x → Z κ X (pc + 3) lv st) : Z κ X pc lv (.int y :: .int x :: st) := by
  obtain ⟨p, l, e, R, s, m, args, below, meth, c, Q, A, θ', n⟩ := κ
  obtain ⟨rfl, rfl, rfl, hR, hx, hb, hml, hown, hts, hK, hN, hA⟩ := C
  subst hR
  intro H locs ls hP hD hS hl
  exact lv_icmp_ge hx hb hd ht (fun h => kt h H locs ls hP hD hS hl) (fun h => kn h H locs ls hP hD hS hl)
theorem z_if_gt (C : zC κ l0 cc n0 own Ts kf θ) {x : Int32} {off : Int} (tgt : Nat) (hd : decode cc pc = .ok (.ifCond .gt off, 3)) (ht : (pc : Int) + off = (tgt : Int)) (kt : 0 < x → Z κ X tgt lv st) (kn : ¬ 0 < x → Z κ X (pc + 3) lv st) : Z κ X pc lv (.int x :: st) := by
  obtain ⟨p, l, e, R, s, m, args, below, meth, c, Q, A, θ', n⟩ := κ
  obtain ⟨rfl, rfl, rfl, hR, hx, hb, hml, hown, hts, hK, hN, hA⟩ := C
  subst hR
  intro H locs ls hP hD hS hl
  exact lv_if_gt hx hb hd ht (fun h => kt h H locs ls hP hD hS hl) (fun h => kn h H locs ls hP hD hS hl)
theorem z_icmp_gt (C : zC κ l0 cc n0 own Ts kf θ) {x y : Int32} {off : Int} (tgt : Nat) (hd : decode cc pc = .ok (.if_icmp .gt off, 3)) (ht : (pc : Int) + off = (tgt : Int)) (kt : y < x → Z κ X tgt lv st) (kn : ¬ y < x → Z κ X (pc + 3) lv st) : Z κ X pc lv (.int y :: .int x :: st) := by
  obtain ⟨p, l, e, R, s, m, args, below, meth, c, Q, A, θ', n⟩ := κ
  obtain ⟨rfl, rfl, rfl, hR, hx, hb, hml, hown, hts, hK, hN, hA⟩ := C
  subst hR
  intro H locs ls hP hD hS hl
  exact lv_icmp_gt hx hb hd ht (fun h => kt h H locs ls hP hD hS hl) (fun h => kn h H locs ls hP hD hS hl)
theorem z_if_le (C : zC κ l0 cc n0 own Ts kf θ) {x : Int32} {off : Int} (tgt : Nat) (hd : decode cc pc = .ok (.ifCond .le off, 3)) (ht : (pc : Int) + off = (tgt : Int)) (kt : x ≤ 0 → Z κ X tgt lv st) (kn : ¬ x ≤ 0 → Z κ X (pc + 3) lv st) : Z κ X pc lv (.int x :: st) := by
  obtain ⟨p, l, e, R, s, m, args, below, meth, c, Q, A, θ', n⟩ := κ
  obtain ⟨rfl, rfl, rfl, hR, hx, hb, hml, hown, hts, hK, hN, hA⟩ := C
  subst hR
  intro H locs ls hP hD hS hl
  exact lv_if_le hx hb hd ht (fun h => kt h H locs ls hP hD hS hl) (fun h => kn h H locs ls hP hD hS hl)
theorem z_icmp_le (C : zC κ l0 cc n0 own Ts kf θ) {x y : Int32} {off : Int} (tgt : Nat) (hd : decode cc pc = .ok (.if_icmp .le off, 3)) (ht : (pc : Int) + off = (tgt : Int)) (kt : x ≤ y → Z κ X tgt lv st) (kn : ¬ x ≤ y → Z κ X (pc + 3) lv st) : Z κ X pc lv (.int y :: .int x :: st) := by
  obtain ⟨p, l, e, R, s, m, args, below, meth, c, Q, A, θ', n⟩ := κ
  obtain ⟨rfl, rfl, rfl, hR, hx, hb, hml, hown, hts, hK, hN, hA⟩ := C
  subst hR
  intro H locs ls hP hD hS hl
  exact lv_icmp_le hx hb hd ht (fun h => kt h H locs ls hP hD hS hl) (fun h => kn h H locs ls hP hD hS hl)
theorem z_goto (C : zC κ l0 cc n0 own Ts kf θ) {off : Int} (tgt : Nat) (hd : decode cc pc = .ok (.goto off, 3)) (ht : (pc : Int) + off = (tgt : Int)) (kk : Z κ X tgt lv st) : Z κ X pc lv st := by
  obtain ⟨p, l, e, R, s, m, args, below, meth, c, Q, A, θ', n⟩ := κ
  obtain ⟨rfl, rfl, rfl, hR, hx, hb, hml, hown, hts, hK, hN, hA⟩ := C
  subst hR
  intro H locs ls hP hD hS hl
  exact lv_goto hx hb hd ht (kk H locs ls hP hD hS hl)
theorem z_tableOut (C : zC κ l0 cc n0 own Ts kf θ) {dflt lo hi : Int} {offs : Array Int} {len : Nat} {x : Int32} (tgt : Nat) (hd : decode cc pc = .ok (.tableswitch dflt lo hi offs, len)) (h : x.toInt < lo ∨ hi < x.toInt) (ht : (pc : Int) + dflt = (tgt : Int)) (kk : Z κ X tgt lv st) : Z κ X pc lv (.int x :: st) := by
  obtain ⟨p, l, e, R, s, m, args, below, meth, c, Q, A, θ', n⟩ := κ
  obtain ⟨rfl, rfl, rfl, hR, hx, hb, hml, hown, hts, hK, hN, hA⟩ := C
  subst hR
  intro H locs ls hP hD hS hl
  exact lv_tableOut hx hb hd h ht (kk H locs ls hP hD hS hl)
theorem z_tableIn (C : zC κ l0 cc n0 own Ts kf θ) {dflt lo hi : Int} {offs : Array Int} {len : Nat} {x : Int32} {off : Int} (tgt : Nat) (hd : decode cc pc = .ok (.tableswitch dflt lo hi offs, len)) (h1 : ¬ x.toInt < lo) (h2 : ¬ hi < x.toInt) (ho : offs[(x.toInt - lo).toNat]? = some off) (ht : (pc : Int) + off = (tgt : Int)) (kk : Z κ X tgt lv st) : Z κ X pc lv (.int x :: st) := by
  obtain ⟨p, l, e, R, s, m, args, below, meth, c, Q, A, θ', n⟩ := κ
  obtain ⟨rfl, rfl, rfl, hR, hx, hb, hml, hown, hts, hK, hN, hA⟩ := C
  subst hR
  intro H locs ls hP hD hS hl
  exact lv_tableIn hx hb hd h1 h2 ho ht (kk H locs ls hP hD hS hl)
theorem z_get (C : zC κ l0 cc n0 own Ts kf θ) {a N ci index : Nat} {Cn : String} {T : u_T} {fs : List Value} {v : Value} (hin : ∀ w ∈ u_ws Cn T N, w ∈ Ts) (q0 : Nat) (he : X[q0]? = some (a, .inr (ci, fs))) (hc : vwCl[ci]? = some (Cn, T, N)) (j : Nat) (hj : j < N) (hm : Cond.fieldLink own index (T j).1 (T j).2.1 (T j).2.2.1 ∈ Ts) (hv : fs[j]? = some v) (hd : decode cc pc = .ok (.getfield index, 3)) (kk : Z κ X (pc + 3) lv (v :: st)) : Z κ X pc lv (.ref a :: st) := by
  obtain ⟨p, l, e, R, s, m, args, below, meth, c, Q, A, θ', n⟩ := κ
  obtain ⟨rfl, rfl, rfl, hR, hx, hb, hml, hown, hts, hK, hN, hA⟩ := C
  subst hR
  intro H locs ls hP hD hS hl
  exact va_get hx hb hts hin hown hK hP q0 he hc j hj (hts _ hm) (fun _ h9 => h9) hv hd (kk H locs ls hP hD hS hl)
theorem z_getN (C : zC κ l0 cc n0 own Ts kf θ) {a N ci index : Nat} {Cn host : String} {T : u_T} {fs : List Value} {v : Value} (hin : ∀ w ∈ u_ws Cn T N, w ∈ Ts) (q0 : Nat) (he : X[q0]? = some (a, .inr (ci, fs))) (hc : vwCl[ci]? = some (Cn, T, N)) (j : Nat) (hj : j < N) (hm : (own, index, (T j).1, (T j).2.1, (T j).2.2.1, host) ∈ zNF) (hv : fs[j]? = some v) (hd : decode cc pc = .ok (.getfield index, 3)) (kk : Z κ X (pc + 3) lv (v :: st)) : Z κ X pc lv (.ref a :: st) := by
  obtain ⟨p, l, e, R, s, m, args, below, meth, c, Q, A, θ', n⟩ := κ
  obtain ⟨rfl, rfl, rfl, hR, hx, hb, hml, hown, hts, hK, hN, hA⟩ := C
  subst hR
  intro H locs ls hP hD hS hl
  exact va_getN hx hb hts hin hown hK hP q0 he hc j hj (va_Nw.use rfl (hN.1 _ hm)) (fun _ h9 => h9) hv hd (kk H locs ls hP hD hS hl)
theorem z_put (C : zC κ l0 cc n0 own Ts kf θ) {a N ci index : Nat} {Cn : String} {T : u_T} {fs : List Value} {v : Value} {ty : FieldType} (hin : ∀ w ∈ u_ws Cn T N, w ∈ Ts) (ty0 : Nat → FieldType) (hty : ∀ k, k < N → parseFieldDescriptor (T k).2.2.1 = some (ty0 k)) (hnm : ∀ a, a < N → ∀ b, b < N → a ≠ b → (T a).2.1 ≠ (T b).2.1) (q0 : Nat) (he : X[q0]? = some (a, .inr (ci, fs))) (hc : vwCl[ci]? = some (Cn, T, N)) (j : Nat) (hj : j < N) (hm : Cond.fieldLink own index (T j).1 (T j).2.1 (T j).2.2.1 ∈ Ts) (hfin : (T j).2.2.2 = false) (hty1 : ty0 j = ty) (hn : narrow ty v = v) (hfit : fits ty v = true) (hl : j < fs.length) (Y : va_W) (hY : X.set q0 (a, .inr (ci, fs.set j v)) = Y) (hd : decode cc pc = .ok (.putfield index, 3)) (kk : Z κ Y (pc + 3) lv st) : Z κ X pc lv (v :: .ref a :: st) := by
  obtain ⟨p, l, e, R, s, m, args, below, meth, c, Q, A, θ', n⟩ := κ
  obtain ⟨rfl, rfl, rfl, hR, hx, hb, hml, hown, hts, hK, hN, hA⟩ := C
  subst hR
  intro H locs ls hP hD hS hl
  rename_i hl0
  subst hY
  exact va_put hx hb hts hin ty0 hty hnm hown hK hP hD hS q0 he hc j hj (hts _ hm) (fun _ h9 => h9) hfin (hty1 ▸ hty j hj) hn hfit hl0 hd (fun H locs hP hD hS => kk H locs ls hP hD hS hl)
theorem z_putN (C : zC κ l0 cc n0 own Ts kf θ) {a N ci index : Nat} {Cn host : String} {T : u_T} {fs : List Value} {v : Value} {ty : FieldType} (hin : ∀ w ∈ u_ws Cn T N, w ∈ Ts) (ty0 : Nat → FieldType) (hty : ∀ k, k < N → parseFieldDescriptor (T k).2.2.1 = some (ty0 k)) (hnm : ∀ a, a < N → ∀ b, b < N → a ≠ b → (T a).2.1 ≠ (T b).2.1) (q0 : Nat) (he : X[q0]? = some (a, .inr (ci, fs))) (hc : vwCl[ci]? = some (Cn, T, N)) (j : Nat) (hj : j < N) (hm : (own, index, (T j).1, (T j).2.1, (T j).2.2.1, host) ∈ zNF) (hfin : (T j).2.2.2 = false) (hty1 : ty0 j = ty) (hn : narrow ty v = v) (hfit : fits ty v = true) (hl : j < fs.length) (Y : va_W) (hY : X.set q0 (a, .inr (ci, fs.set j v)) = Y) (hd : decode cc pc = .ok (.putfield index, 3)) (kk : Z κ Y (pc + 3) lv st) : Z κ X pc lv (v :: .ref a :: st) := by
  obtain ⟨p, l, e, R, s, m, args, below, meth, c, Q, A, θ', n⟩ := κ
  obtain ⟨rfl, rfl, rfl, hR, hx, hb, hml, hown, hts, hK, hN, hA⟩ := C
  subst hR
  intro H locs ls hP hD hS hl
  rename_i hl0
  subst hY
  exact va_putN hx hb hts hin ty0 hty hnm hown hK hP hD hS q0 he hc j hj (va_Nw.use rfl (hN.1 _ hm)) (fun _ h9 => h9) hfin (hty1 ▸ hty j hj) hn hfit hl0 hd (fun H locs hP hD hS => kk H locs ls hP hD hS hl)
theorem z_iald (C : zC κ l0 cc n0 own Ts kf θ) {a n : Nat} {f : Nat → Int32} {i : Int32} (q0 : Nat) (he : X[q0]? = some (a, .inl (θ.2.1, n, .inl f))) (j : Nat) (hi : i = nI j) (hj : j < n) (hn : n < 2 ^ 31) (hd : decode cc pc = .ok (.iaload, 1)) (kk : Z κ X (pc + 1) lv (.int (f j) :: st)) : Z κ X pc lv (.int i :: .ref a :: st) := by
  obtain ⟨p, l, e, R, s, m, args, below, meth, c, Q, A, θ', n⟩ := κ
  obtain ⟨rfl, rfl, rfl, hR, hx, hb, hml, hown, hts, hK, hN, hA⟩ := C
  subst hR
  intro H locs ls hP hD hS hl
  subst hi
  refine va_iald hx hb hK hP q0 0 he rfl (vp_in_nI hj hn) hd ?_
  rw [nI_clamp (Nat.lt_trans hj hn)]
  exact kk H locs ls hP hD hS hl
theorem z_zald (C : zC κ l0 cc n0 own Ts kf θ) {a n : Nat} {f : Nat → Int32} {i : Int32} (q0 : Nat) (he : X[q0]? = some (a, .inl (θ.2.2.1, n, .inl f))) (j : Nat) (hi : i = nI j) (hj : j < n) (hn : n < 2 ^ 31) (hd : decode cc pc = .ok (.baload, 1)) (kk : Z κ X (pc + 1) lv (.int (f j) :: st)) : Z κ X pc lv (.int i :: .ref a :: st) := by
  obtain ⟨p, l, e, R, s, m, args, below, meth, c, Q, A, θ', n⟩ := κ
  obtain ⟨rfl, rfl, rfl, hR, hx, hb, hml, hown, hts, hK, hN, hA⟩ := C
  subst hR
  intro H locs ls hP hD hS hl
  subst hi
  refine va_zald hx hb hK hP q0 1 he rfl (vp_in_nI hj hn) hd ?_
  rw [nI_clamp (Nat.lt_trans hj hn)]
  exact kk H locs ls hP hD hS hl
theorem z_iast (C : zC κ l0 cc n0 own Ts kf θ) {a n : Nat} {f : Nat → Int32} {i v : Int32} (q0 : Nat) (he : X[q0]? = some (a, .inl (θ.2.1, n, .inl f))) (j : Nat) (hi : i = nI j) (hj : j < n) (hn : n < 2 ^ 31) (Y : va_W) (hY : X.set q0 (a, .inl (θ.2.1, n, .inl (upd f j v))) = Y) (hd : decode cc pc = .ok (.iastore, 1)) (kk : Z κ Y (pc + 1) lv st) : Z κ X pc lv (.int v :: .int i :: .ref a :: st) := by
  obtain ⟨p, l, e, R, s, m, args, below, meth, c, Q, A, θ', n⟩ := κ
  obtain ⟨rfl, rfl, rfl, hR, hx, hb, hml, hown, hts, hK, hN, hA⟩ := C
  subst hR
  intro H locs ls hP hD hS hl
  subst hi
  subst hY
  refine va_iast hx hb hK hP hD hS q0 0 he rfl (vp_in_nI hj hn) hd ?_
  rw [nI_clamp (Nat.lt_trans hj hn)]
  exact fun H locs hP hD hS => kk H locs ls hP hD hS hl
end ZR
