/-! THE CLAIM OUT OF ONE WALK OF THE LAW'S BODY. Your part is whole_start (and what it stands on); all else here is the same for every law, but numbers. -/
def R_law : String := "GnatPortraitsLaw"
def lw_P (b : Addr) (xs : List Int32) (args : Array Value) (s : State) : Prop := args = #[.ref b] ∧ s.IntsAt b xs ∧ xs.length ≤ 256 ∧ (Jvm.Cond.and given_1 narrow_1).before args s = true
def lw_Q (_ : Array Value) (s : State) (o : Outcome) (t : State) : Prop := o = .returned (some (.int 1)) ∧ Framed s o t [] 600000 7302250
def lw_Z (below : List Frame) (a : Array Value) (s : State) : State → Prop := fun t => ∃ o, t.status = .running ∧ Ended t below o ∧ lw_Q a s o t
/-- the law's own end, with 1 on the stack, nothing written that was there before, its room as the claim has it -/
theorem lw_ret {p : Program} {l : Launch} {e : Env} {s : State} {m : MethodId} {below : List Frame} {meth : Method} {c : Code} {b : Nat} (hx : p.tables.exec = Jvm.exec) (hb : c.code = code) (hr : meth.sig.returnType = ret) (hlocks : meth.locks = false) {pc : Nat} {H : Heap} {ls : Array Slot} (hdg : decode code pc = .ok (.ireturn, 1)) : W p l e room_1 s m #[Value.ref b] below meth c H [] 600000 7302250 (lw_Z below #[Value.ref b] s) (F0 m pc ls [.int 1]) := by
  intro T hT X
  obtain ⟨fs, hret, hrun, hended, hW, hframe⟩ := X.leave (v := some (.int 1)) (hlocks := hlocks) (fun h => by rw [hr] at h; cases h)
  have hmeth' : T.vm.method? m = some meth := X.method'
  refine ⟨T.setFrames fs, ?_, .returned (some (.int 1)), hrun, hended, rfl, ⟨_, rfl⟩, hW, hframe⟩
  jvm_step X.here [X.here.top, hx, hb, hdg, hmeth', hr, ret, narrow_b1]
  (try refine ⟨rfl, ?_⟩); (try refine ⟨rfl, ?_⟩)
  first | (intro acts; rw [hret _ acts rfl rfl rfl]) | rw [hret _ _ rfl rfl rfl]
  exact Steps.refl _
/-- what holds at the law's entry: the machine, the code, the tables' words (any of lw_tbl by 'hts w (by decide +kernel)'), the script of L ints xs at the cell b, what the Statement gives of the start (any of its parts by flat_of_before) -/
def lw_At (p : Program) (s : State) (m : MethodId) (meth : Method) (c : Code) (b L : Nat) (xs : Nat → Int32) : Prop :=
  p.tables.exec = Jvm.exec ∧ c.code = code ∧ meth.sig.returnType = ret ∧ c.maxLocals = 4 ∧ s.vm.findClass R_law = some m.cls ∧ (∀ w ∈ lw_tbl, w.before #[Value.ref b] s = true) ∧ va_X b L xs s s.heap ∧ b < s.heap.size ∧ meth.locks = false ∧ (Jvm.Cond.and given_1 narrow_1).before #[Value.ref b] s = true
/-- the classes and rows' classes, at the law's entry -/
theorem l_K {args : Array Value} {s : State} (hts : ∀ w ∈ lw_tbl, w.before args s = true) : ∃ θ : zH, va_K θ.1 vwCl (zty θ) s := by
  obtain ⟨cX0, iX0, kX0⟩ := u_known (C := RX0) (T := TX0) (N := 8) (n := 8) hts inX0 (hts (.instantiable RX0 8) (by decide +kernel))
  obtain ⟨cX1, iX1, kX1⟩ := u_known (C := RX1) (T := TX1) (N := 14) (n := 14) hts inX1 (hts (.instantiable RX1 14) (by decide +kernel))
  obtain ⟨cX2, iX2, kX2⟩ := u_known (C := RX2) (T := TX2) (N := 3) (n := 3) hts inX2 (hts (.instantiable RX2 3) (by decide +kernel))
  obtain ⟨cX3, iX3, kX3⟩ := u_known (C := RX3) (T := TX3) (N := 6) (n := 6) hts inX3 (hts (.instantiable RX3 6) (by decide +kernel))
  obtain ⟨cX4, iX4, kX4⟩ := u_known (C := RX4) (T := TX4) (N := 6) (n := 6) hts inX4 (hts (.instantiable RX4 6) (by decide +kernel))
  obtain ⟨cX5, iX5, kX5⟩ := u_known (C := RX5) (T := TX5) (N := 13) (n := 13) hts inX5 (hts (.instantiable RX5 13) (by decide +kernel))
  obtain ⟨cX6, iX6, kX6⟩ := u_known (C := RX6) (T := TX6) (N := 33) (n := 33) hts inX6 (hts (.instantiable RX6 33) (by decide +kernel))
  obtain ⟨cI1, kI1, pI1, a1, a2, a3⟩ := Cond.arrayClass_spec (hts (.arrayClass .int) (by decide +kernel))
  obtain ⟨cZ1, kZ1, pZ1, b1, b2, b3⟩ := Cond.arrayClass_spec (hts (.arrayClass .boolean) (by decide +kernel))
  obtain ⟨pE1, cE1, kE1, d1, d2, d3, d4, d5⟩ := Cond.arrayOver_spec (hts (.arrayOver (.object "GnatPortraits$Evening")) (by decide +kernel))
  refine ⟨((fun k => match k with | 0 => cX0 | 1 => cX1 | 2 => cX2 | 3 => cX3 | 4 => cX4 | 5 => cX5 | _ => cX6, fun k => match k with | 0 => iX0 | 1 => iX1 | 2 => iX2 | 3 => iX3 | 4 => iX4 | 5 => iX5 | _ => iX6), cI1, cZ1, cE1), fun k q hq => ?_, fun k q hq => ?_⟩
  · match k, hq with
    | 0, hq => cases hq; exact kX0
    | 1, hq => cases hq; exact kX1
    | 2, hq => cases hq; exact kX2
    | 3, hq => cases hq; exact kX3
    | 4, hq => cases hq; exact kX4
    | 5, hq => cases hq; exact kX5
    | 6, hq => cases hq; exact kX6
    | k + 7, hq => simp [vwCl] at hq
  · match k, hq with
    | 0, hq => cases hq; exact ⟨fun n z => ⟨fun k h => (by cases h), kI1, a2, pI1, a3⟩, a1⟩
    | 1, hq => cases hq; exact ⟨fun n z => ⟨fun k h => (by cases h), kZ1, b2, pZ1, b3⟩, b1⟩
    | 2, hq => cases hq; exact ⟨fun n z => ⟨fun k h => (by cases h), kE1, d3, pE1, d4⟩, kE1, pE1, d3, d4, d1, d5⟩
    | k + 3, hq => simp [zty] at hq
set_option maxHeartbeats 4000000 in
/-- THE LAW, from its entry -/
theorem whole_start {p : Program} {e : Env} {s : State} {m : MethodId} {below : List Frame} {meth : Method} {c : Code} (l : Launch) {b L : Nat} {xs : Nat → Int32} (hL : L ≤ 256) (C0 : lw_At p s m meth c b L xs) : W p l e room_1 s m #[Value.ref b] below meth c s.heap [] 0 0 (lw_Z below #[Value.ref b] s) (entryFrame m ([Value.ref b] : List Value).toArray 4) := by
  obtain ⟨hx, hb, hr, hml, hown, hts, hX, hbl, hlocks, hgv⟩ := id C0
  obtain ⟨θ, hK⟩ := l_K hts
  have hN : zN s := zN_of hts
  have hO : va_AO "GnatPortraits$Evening" s := va_AO.of (hts (.arrayOver (.object "GnatPortraits$Evening")) (by decide +kernel))
  obtain ⟨κ, eκ⟩ : ∃ κ : zX, κ = (p, l, e, room_1, s, m, #[Value.ref b], below, meth, c, lw_Z below #[Value.ref b] s, (fun q : Nat => s.heap.size ≤ q), θ, 4) := ⟨_, rfl⟩
  have C : yC κ l cL_law 4 RL wsL_law room_1 θ := by
    subst eκ
    exact ⟨rfl, rfl, rfl, rfl, hx, hb, hml, hown, fun w hw => hts w (wsL_law_in w hw), hK, hN, hO, fun q h => h⟩
  have hXS : yS κ b L xs := by
    subst eκ
    exact ⟨hX, hbl, Nat.not_le.mpr hbl⟩
  have E : ∀ (X : va_W) (lv : List (Nat × Value)), yJ κ X 172 4010 1204 lv [] := fun X lv => by
    refine y_iconst C (v := 1) dL_law_1204 (by decide) ?_
    subst eκ
    intro H locs ls hP hD hS hl
    refine va_forget (fun q hq => hS.2.2 q hq) ?_
    refine W.widen (k := 600000) (n := 7302250) (by decide) (by decide) ?_
    exact lw_ret hx hb hr hlocks dL_law_1205
  have go : yJ κ [] 0 0 0 [(0, .ref b)] [] := by
    refine y_new C (ci := 5) [.null, .null, .null, .null, .null, .null, .null, .null, .null, .int 0, .int 0, .int 0, .int 0] inlX5 tyX5 tyX5_ok (by decide +kernel) (by decide +kernel) (by decide +kernel) rfl dfX5 (Nat.le_of_ble_eq_true rfl) (Nat.le_of_ble_eq_true rfl) dL_law_0 (fun q => ?_)
    refine y_dup C dL_law_3 rfl ?_
    refine y_ctorI C (F := []) (rest := [.ref q]) (c_X5_init l θ q) gL_law_X5_init rfl (by decide +kernel) (by decide +kernel) (by decide +kernel) rfl (by decide +kernel) ⟨Nat.le_of_ble_eq_true rfl, Nat.le_of_ble_eq_true rfl⟩ ⟨Nat.le_of_ble_eq_true rfl, Nat.le_of_ble_eq_true rfl⟩ (Nat.le_of_ble_eq_true rfl) dL_law_4 (fun Y hY => ?_)
    obtain ⟨ea, ad, n, g, bb, r, V, rfl, h0, rfl⟩ := hY
    refine y_astore_n C [(1, .ref (ad 0)), (0, .ref b)] dL_law_7 rfl (by decide) rfl ?_
    refine y_new C (ci := 6) [.int 0, .int 0, .null, .int 0, .null, .int 0, .null, .null, .int 0, .null, .int 0, .int 0, .int 0, .int 0, .int 0, .int 0, .int 0, .null, .int 0, .null, .int 0, .null, .int 0, .null, .null, .null, .null, .int 0, .null, .null, .null, .null, .null] inlX6 tyX6 tyX6_ok (by decide +kernel) (by decide +kernel) (by decide +kernel) rfl dfX6 (Nat.le_of_ble_eq_true rfl) (Nat.le_of_ble_eq_true rfl) dL_law_8 (fun q => ?_)
    refine y_dup C dL_law_11 rfl ?_
    refine y_ctorI C (F := [] ++ CW θ ea ad n g bb r V) (rest := [.ref q]) (c_X6_init l θ q) gL_law_X6_init rfl (by decide +kernel) (by decide +kernel) (by decide +kernel) rfl (by decide +kernel) ⟨Nat.le_of_ble_eq_true rfl, Nat.le_of_ble_eq_true rfl⟩ ⟨Nat.le_of_ble_eq_true rfl, Nat.le_of_ble_eq_true rfl⟩ (Nat.le_of_ble_eq_true rfl) dL_law_12 (fun Y hY => ?_)
    obtain ⟨ad', r', rfl, h9, h7, h32, rfl⟩ := hY
    refine y_astore_n C [(2, .ref (ad' 0)), (1, .ref (ad 0)), (0, .ref b)] dL_law_15 rfl (by decide) rfl ?_
    refine y_iconst C (v := nI 0) dL_law_16 (by decide) ?_
    refine y_istore_n C [(3, .int (nI 0)), (2, .ref (ad' 0)), (1, .ref (ad 0)), (0, .ref b)] dL_law_17 rfl (by decide) rfl ?_
    rw [List.nil_append]
    refine y_perm List.perm_append_comm ?_
    exact l_loop C hXS hL E L 0 (by decide) (by omega) n g bb r V (fun _ => 0) (-1) r' (RR_0 h0 h9 h7 h32)
  subst eκ
  have hl := lv_entry ([.ref b]) (n := 4) (Nat.le_of_ble_eq_true rfl)
  rw [lg_entry_eq]
  exact go s.heap [] _ (fun k q h => by simp at h) ⟨fun i j p q h => by simp at h, fun k q h => by simp at h⟩ va_S.rf hl
set_option maxHeartbeats 4000000 in
theorem lw_walk (l : Launch) (b : Addr) (xs : List Int32) : MetFree l x (headSpec (Jvm.Cond.code x code maxLocals ret :: tables_1) room_1) (lw_P b xs) (fun _ _ _ _ _ => True) lw_Q := by
  refine MetFree.of_bodyS (code := code) (maxLocals := maxLocals) (ret := ret) (by decide) ?_ ?_
  · intro args s m h hn
    obtain ⟨meth, c, h1, h2, h3, h4, h5, h6, -, -⟩ := Cond.code_spec hn (atoms_spec (ws := Jvm.Cond.code x code maxLocals ret :: tables_1) h _ List.mem_cons_self)
    exact ⟨meth, c, h1, h2, h3, h4, h5, h6⟩
  · intro p e s m args below meth c s₁ B hml0 hP _
    obtain ⟨rfl, hx, hbd, hgv⟩ := hP
    obtain ⟨scr, harrAt, hlist, hof, hsmall⟩ := hx
    obtain ⟨hcb, hkn, -, -⟩ := State.arrayAt?_spec harrAt
    have hown : s.vm.findClass R_law = some m.cls := findClass_of_methodNamed B.named
    have hts0 : ∀ c ∈ (Jvm.Cond.code x code maxLocals ret :: tables_1), c.before #[Value.ref b] s = true := atoms_spec (ws := Jvm.Cond.code x code maxLocals ret :: tables_1) B.pre
    have hts : ∀ w ∈ lw_tbl, w.before #[Value.ref b] s = true := k2_hts_sels lw_privs (fun w hw => hts0 w (List.mem_cons_of_mem _ hw)) lw_privs_ok
    have hml : c.maxLocals = 4 := B.maxLocals_eq (hts0 _ List.mem_cons_self)
    have X₀ : Stand p l e room_1 s m #[Value.ref b] below meth c s₁ [] 0 0 := Stand.of_body B
    have hh0 : s₁.heap = s.heap := by rw [B.state]; rfl
    have hsz : scr.slots.size = xs.length := by rw [← Array.length_toList, hlist, List.length_map]
    have hval : ∀ j : Nat, j < xs.length → scr.slots[j]? = some (.int (xs.getD j 0)) := fun j hj => by
      rw [← Array.getElem?_toList, hlist]
      simp [hj]
    have hbl : b < s.heap.size := (Array.getElem?_eq_some_iff.mp hcb).1
    have hX : va_X b xs.length (fun j => xs.getD j 0) s s.heap := ⟨scr, hcb, hof, hkn, hsz, hval⟩
    have K : W p l e room_1 s m #[Value.ref b] below meth c s₁.heap [] 0 0 (lw_Z below #[Value.ref b] s) (entryFrame m ([Value.ref b] : List Value).toArray 4) := by
      rw [hh0]
      exact whole_start l hbd ⟨B.exec, B.bytes, B.returns, hml, hown, hts, hX, hbl, B.notSynchronized, hgv⟩
    obtain ⟨t, a1, o, b1, b2, b3⟩ := K s₁ rfl X₀
    exact ⟨t, o, a1, b1, b2, b3⟩
theorem lw_pre_spec {args : Array Value} {s : State} (h : (Jvm.Cond.and given_1 narrow_1).before args s = true) (hr : rest_1_c.before args s = true) : ∃ (b : Addr) (xs : List Int32), lw_P b xs args s := by
  have hs := flat_of_before _ h
  have hq := flat_of_before _ hr
  have hc : (Cond.count 1).before args s = true := hs _ (by decide +kernel)
  have harr : (Cond.arrayOf (.arg 0) .int).before args s = true := hs _ (by decide +kernel)
  have hle : (Cond.le (.length (.arg 0)) (.int 256)).before args s = true := hs _ (by decide +kernel)
  have hlen : (Cond.isInt (.length (.arg 0))).before args s = true := hq _ (by decide +kernel)
  have hall : (Cond.all (.arg 0) (.isInt (.elem (.arg 0) (.index 0)))).before args s = true := hq _ (by decide +kernel)
  obtain ⟨b, xs, hb, hx⟩ := State.ints_of_pre rfl harr hlen hall
  have hsm : xs.length < 2 ^ 31 := hx.choose_spec.2.2.2
  have hev : (Term.length (.arg 0)).eval args s none [] s = some (.int xs.length.toInt32) := hx.length_eval hb
  have hv := Cond.le_ints hev (show (Term.int 256).eval args s none [] s = some (.int 256) from rfl)
  have hd : xs.length.toInt32 ≤ 256 := by
    simpa [Cond.before, Cond.holds, hv] using hle
  have hN : xs.length ≤ 256 := (Int32.ofNat_le_ofNat hsm (by decide)).mp (show Int32.ofNat xs.length ≤ Int32.ofNat 256 from hd)
  exact ⟨b, xs, Cond.one_arg hc (show args[0]? = some (.ref b) from hb), hx, hN, h⟩
theorem lw_comes (l : Launch) : Comes l x (Jvm.Cond.code x code maxLocals ret :: tables_1) room_1 (fun tb e args s => Calls_1 tb e args s ∧ rest_1 tb e args s ∧ Pre_1 tb e args s)
    (fun _ _ args s o t => lw_Q args s o t) := by
  intro p e ha hc hk s m args below hf hfit hheap happ hpre
  obtain ⟨b, xs, hP⟩ := lw_pre_spec hpre.2.2 hpre.2.1
  obtain ⟨k, o, h1, h2, h3, hQ⟩ := lw_walk l b xs p e ha hc hk s m args below hf ((Spec.applies_iff_loose hf).mp happ).1 hP trivial
  exact ⟨k, o, h1, h2, h3, hQ⟩
theorem lw_frame {s t : State} {o : Outcome} {args : Array Value} (h : Framed s o t [] 600000 7302250) :
    Framed s o t (fieldLocs frame_1_writes args s ++ arrayLocs frame_1_arrays args s ++ staticLocs frame_1_statics s) 600000 7302250 := h
theorem lw_limb (L : Cond) (hL : ∀ (args : Array Value) (s t : State), L.after args s (.returned (some (.int 1))) t = true) :
    ArmFor flags0 classFile x code maxLocals ret World_1 tables_1 room_1 Calls_1 rest_1 Pre_1
      (fun tb e a s o t => postC L tb e a s o t ∧ Framed s o t (fieldLocs frame_1_writes a s ++ arrayLocs frame_1_arrays a s ++ staticLocs frame_1_statics s) 600000 7302250) := by
  intro l _ _ _ p e ha hc hk s m args below hf hfit hheap happ hpre
  obtain ⟨k, o, h1, h2, h3, rfl, hF⟩ := lw_comes l p e ha hc hk s m args below hf hfit hheap happ hpre
  exact ⟨k, _, h1, h2, h3, hL args s _, lw_frame hF⟩
theorem i_vc : Claimed_1_1 ∧ Claimed_1_2 := ⟨lw_limb limb_1_1 (fun args s t => by simp [limb_1_1, Cond.after, Cond.holds, Cond.value]), lw_limb limb_1_2 (fun args s t => Cond.after_iff.mpr (by
  first | (rw [show limb_1_2 = Cond.eq .result (.int 1) from rfl, Cond.eq_ints (x := 1) (y := 1) rfl rfl]; simp; done) | (simp [limb_1_2, Cond.value, Term.eval]; done)))⟩
