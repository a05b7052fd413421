section ZQ
variable {κ : zX} {l0 : Launch} {cc : ByteArray} {n0 : Nat} {own : String} {Ts : List Cond} {kf : Nat} {θ : zH} {X : va_W} {pc : Nat} {lv : List (Nat × Value)} {st : List Value}
variable {y : MethodName} {wl ws' : List Cond} {bytes : ByteArray} {maxL k' index b ci : Nat} {ret : Option FieldType} {Cn host : String} {fs As rest : List Value} {q : vw_C}
theorem z_room {maxL k' kf : Nat} (hk : k' < kf) (hmx : maxL ≤ 21) : (zr k').frames + 1 ≤ (zr kf).frames ∧ 8 + (maxL + 11) + (zr k').locals ≤ (zr kf).locals := by
  unfold zr
  dsimp only
  omega

set_option maxHeartbeats 1000000 in
theorem z_callVi (C : zC κ l0 cc n0 own Ts kf θ) {post : Int32 → va_W → Prop} (hM : cI l0 y wl k' θ (.ref b :: As) X post) (hG : GoodIn Ts (wsV own index Cn y wl)) (hw : wl = Cond.code y bytes maxL ret :: ws') (nA : Nat) (hd0 : y.cls = Cn ∧ y.cls ≠ "java/lang/invoke/MethodHandle" ∧ y.cls ≠ "java/lang/invoke/VarHandle" ∧ (parseMethodDescriptor y.desc).map (fun d => d.parameters.length) = some nA) (hk : k' < kf) (hmx : maxL ≤ 21) (q0 : Nat) (he : X[q0]? = some (b, .inr (ci, fs))) (hc : vwCl[ci]? = some q) (hq : q.1 = Cn) (hn : As.length = nA) (hst : st = As.reverse ++ .ref b :: rest) (hr : (rest.map fun v => v.category).sum ≤ 8) (hd : decode cc pc = .ok (.invokevirtual index, 3)) (kk : ∀ (r : Int32) (Y : va_W), post r Y → Z κ Y (pc + 3) lv (.int r :: rest)) : Z κ X pc lv st := by
  obtain ⟨p, l, e, R, s, m, args, below, meth, c, Q, A, θ', n⟩ := κ
  obtain ⟨rfl, rfl, rfl, hR, hx, hb, hml, hown, hts, hK, hN, hA⟩ := C
  subst hR
  intro H locs ls hP hD hS hl
  have hFc : ∀ z : Nat, va_A X H.size z → A z := fun z h => by
    rcases h with ⟨i, e', h⟩ | h
    · exact hD.2 i _ h
    · exact hA z (Nat.le_trans hS.1 h)
  subst hq
  subst hst
  exact va_calli (va_runV (As := As) (rest := rest) ⟨hx, hb, hml, hown, hts⟩ (hM H.size) (cwV nA hts hG hw rfl rfl hd0 (z_room hk hmx)) ⟨zPc_blind, va_recv hK hP hc he, fun U hU hW => ⟨rfl, by rw [hU], by rw [hU]; exact hP, va_K.moved hW.alike hK, zN.warm hW hN, hD.weaken (fun _ _ _ _ => trivial)⟩⟩ rfl hn hl.1 rfl (lv_room hr) hd ⟨Nat.le_refl _, Nat.le_refl _⟩) hS (fun z _ h => hFc z h) hFc (fun r Y t H1 locs1 ht hvm hp hB hz1 hk1 hS1 => kk r Y hp H1 locs1 ls (ht ▸ hB.1) (hB.2.weaken (fun k z _ h => hFc z.1 h)) hS1 hl)
set_option maxHeartbeats 1000000 in
theorem z_callSi (C : zC κ l0 cc n0 own Ts kf θ) {post : Int32 → va_W → Prop} (hM : cI l0 y wl k' θ As X post) (hG : GoodIn Ts (va_wsS own index y wl)) (hw : wl = Cond.code y bytes maxL ret :: ws') (nA : Nat) (hd0 : y.cls ≠ "java/lang/invoke/MethodHandle" ∧ y.cls ≠ "java/lang/invoke/VarHandle" ∧ (parseMethodDescriptor y.desc).map (fun d => d.parameters.length) = some nA) (hk : k' < kf) (hmx : maxL ≤ 21) (hn : As.length = nA) (hst : st = As.reverse ++ rest) (hr : (rest.map fun v => v.category).sum ≤ 8) (hd : decode cc pc = .ok (.invokestatic index, 3)) (kk : ∀ (r : Int32) (Y : va_W), post r Y → Z κ Y (pc + 3) lv (.int r :: rest)) : Z κ X pc lv st := by
  obtain ⟨p, l, e, R, s, m, args, below, meth, c, Q, A, θ', n⟩ := κ
  obtain ⟨rfl, rfl, rfl, hR, hx, hb, hml, hown, hts, hK, hN, hA⟩ := C
  subst hR
  intro H locs ls hP hD hS hl
  have hFc : ∀ z : Nat, va_A X H.size z → A z := fun z h => by
    rcases h with ⟨i, e', h⟩ | h
    · exact hD.2 i _ h
    · exact hA z (Nat.le_trans hS.1 h)
  subst hst
  exact va_calli (va_runS (As := As) (rest := rest) ⟨hx, hb, hml, hown, hts⟩ (hM H.size) (va_cwS nA hts hG hw rfl rfl hd0 (z_room hk hmx)) ⟨zPc_blind, fun U hU hW => ⟨rfl, by rw [hU], by rw [hU]; exact hP, va_K.moved hW.alike hK, zN.warm hW hN, hD.weaken (fun _ _ _ _ => trivial)⟩⟩ rfl hn hl.1 rfl (lv_room hr) hd ⟨Nat.le_refl _, Nat.le_refl _⟩) hS (fun z _ h => hFc z h) hFc (fun r Y t H1 locs1 ht hvm hp hB hz1 hk1 hS1 => kk r Y hp H1 locs1 ls (ht ▸ hB.1) (hB.2.weaken (fun k z _ h => hFc z.1 h)) hS1 hl)
set_option maxHeartbeats 1000000 in
theorem z_callNi (C : zC κ l0 cc n0 own Ts kf θ) {post : Int32 → va_W → Prop} (hM : cI l0 y wl k' θ (.ref b :: As) X post) (hG : GoodIn Ts wl) (hw : wl = Cond.code y bytes maxL ret :: ws') (nA : Nat) (hd0 : y.cls ≠ "java/lang/invoke/MethodHandle" ∧ y.cls ≠ "java/lang/invoke/VarHandle" ∧ (parseMethodDescriptor y.desc).map (fun d => d.parameters.length) = some nA) (hm : (own, index, y, host) ∈ zNM) (hi : Cond.initialized y.cls ∈ Ts) (hi2 : Cond.instanceMethod y ∈ Ts) (hi3 : Cond.selects Cn y y ∈ Ts) (hk : k' < kf) (hmx : maxL ≤ 21) (q0 : Nat) (he : X[q0]? = some (b, .inr (ci, fs))) (hc : vwCl[ci]? = some q) (hq : q.1 = Cn) (hn : As.length = nA) (hst : st = As.reverse ++ .ref b :: rest) (hr : (rest.map fun v => v.category).sum ≤ 8) (hd : decode cc pc = .ok (.invokevirtual index, 3)) (kk : ∀ (r : Int32) (Y : va_W), post r Y → Z κ Y (pc + 3) lv (.int r :: rest)) : Z κ X pc lv st := by
  obtain ⟨p, l, e, R, s, m, args, below, meth, c, Q, A, θ', n⟩ := κ
  obtain ⟨rfl, rfl, rfl, hR, hx, hb, hml, hown, hts, hK, hN, hA⟩ := C
  subst hR
  intro H locs ls hP hD hS hl
  have hFc : ∀ z : Nat, va_A X H.size z → A z := fun z h => by
    rcases h with ⟨i, e', h⟩ | h
    · exact hD.2 i _ h
    · exact hA z (Nat.le_trans hS.1 h)
  subst hq
  subst hst
  exact va_calli (va_runVN (As := As) (rest := rest) ⟨hx, hb, hml, hown, hts⟩ (hM H.size) ⟨va_cnB nA hts hG hw rfl rfl (hN.2 _ hm) (hts _ hi) hd0 (z_room hk hmx), hts _ hi2, hts _ hi3⟩ ⟨zPc_blind, va_recv hK hP hc he, fun U hU hW => ⟨rfl, by rw [hU], by rw [hU]; exact hP, va_K.moved hW.alike hK, zN.warm hW hN, hD.weaken (fun _ _ _ _ => trivial)⟩⟩ rfl hn hl.1 rfl (lv_room hr) hd ⟨Nat.le_refl _, Nat.le_refl _⟩) hS (fun z _ h => hFc z h) hFc (fun r Y t H1 locs1 ht hvm hp hB hz1 hk1 hS1 => kk r Y hp H1 locs1 ls (ht ▸ hB.1) (hB.2.weaken (fun k z _ h => hFc z.1 h)) hS1 hl)
set_option maxHeartbeats 1000000 in
theorem z_callTi (C : zC κ l0 cc n0 own Ts kf θ) {post : Int32 → va_W → Prop} (hM : cI l0 y wl k' θ As X post) (hG : GoodIn Ts wl) (hw : wl = Cond.code y bytes maxL ret :: ws') (nA : Nat) (hd0 : y.cls ≠ "java/lang/invoke/MethodHandle" ∧ y.cls ≠ "java/lang/invoke/VarHandle" ∧ (parseMethodDescriptor y.desc).map (fun d => d.parameters.length) = some nA) (hm : (own, index, y, host) ∈ zNM) (hi : Cond.initialized y.cls ∈ Ts) (hi2 : Cond.static y ∈ Ts) (hk : k' < kf) (hmx : maxL ≤ 21) (hn : As.length = nA) (hst : st = As.reverse ++ rest) (hr : (rest.map fun v => v.category).sum ≤ 8) (hd : decode cc pc = .ok (.invokestatic index, 3)) (kk : ∀ (r : Int32) (Y : va_W), post r Y → Z κ Y (pc + 3) lv (.int r :: rest)) : Z κ X pc lv st := by
  obtain ⟨p, l, e, R, s, m, args, below, meth, c, Q, A, θ', n⟩ := κ
  obtain ⟨rfl, rfl, rfl, hR, hx, hb, hml, hown, hts, hK, hN, hA⟩ := C
  subst hR
  intro H locs ls hP hD hS hl
  have hFc : ∀ z : Nat, va_A X H.size z → A z := fun z h => by
    rcases h with ⟨i, e', h⟩ | h
    · exact hD.2 i _ h
    · exact hA z (Nat.le_trans hS.1 h)
  subst hst
  exact va_calli (va_runSN (As := As) (rest := rest) ⟨hx, hb, hml, hown, hts⟩ (hM H.size) ⟨va_cnB nA hts hG hw rfl rfl (hN.2 _ hm) (hts _ hi) hd0 (z_room hk hmx), hts _ hi2, trivial⟩ ⟨zPc_blind, fun U hU hW => ⟨rfl, by rw [hU], by rw [hU]; exact hP, va_K.moved hW.alike hK, zN.warm hW hN, hD.weaken (fun _ _ _ _ => trivial)⟩⟩ rfl hn hl.1 rfl (lv_room hr) hd ⟨Nat.le_refl _, Nat.le_refl _⟩) hS (fun z _ h => hFc z h) hFc (fun r Y t H1 locs1 ht hvm hp hB hz1 hk1 hS1 => kk r Y hp H1 locs1 ls (ht ▸ hB.1) (hB.2.weaken (fun k z _ h => hFc z.1 h)) hS1 hl)
set_option maxHeartbeats 1000000 in
theorem z_callVv (C : zC κ l0 cc n0 own Ts kf θ) {post : va_W → Prop} (hM : cV l0 y wl k' θ (.ref b :: As) X post) (hG : GoodIn Ts (wsV own index Cn y wl)) (hw : wl = Cond.code y bytes maxL ret :: ws') (nA : Nat) (hd0 : y.cls = Cn ∧ y.cls ≠ "java/lang/invoke/MethodHandle" ∧ y.cls ≠ "java/lang/invoke/VarHandle" ∧ (parseMethodDescriptor y.desc).map (fun d => d.parameters.length) = some nA) (hk : k' < kf) (hmx : maxL ≤ 21) (q0 : Nat) (he : X[q0]? = some (b, .inr (ci, fs))) (hc : vwCl[ci]? = some q) (hq : q.1 = Cn) (hn : As.length = nA) (hst : st = As.reverse ++ .ref b :: rest) (hr : (rest.map fun v => v.category).sum ≤ 8) (hd : decode cc pc = .ok (.invokevirtual index, 3)) (kk : ∀ (Y : va_W), post Y → Z κ Y (pc + 3) lv rest) : Z κ X pc lv st := by
  obtain ⟨p, l, e, R, s, m, args, below, meth, c, Q, A, θ', n⟩ := κ
  obtain ⟨rfl, rfl, rfl, hR, hx, hb, hml, hown, hts, hK, hN, hA⟩ := C
  subst hR
  intro H locs ls hP hD hS hl
  have hFc : ∀ z : Nat, va_A X H.size z → A z := fun z h => by
    rcases h with ⟨i, e', h⟩ | h
    · exact hD.2 i _ h
    · exact hA z (Nat.le_trans hS.1 h)
  subst hq
  subst hst
  exact va_callv (va_runV (As := As) (rest := rest) ⟨hx, hb, hml, hown, hts⟩ (hM H.size) (cwV nA hts hG hw rfl rfl hd0 (z_room hk hmx)) ⟨zPc_blind, va_recv hK hP hc he, fun U hU hW => ⟨rfl, by rw [hU], by rw [hU]; exact hP, va_K.moved hW.alike hK, zN.warm hW hN, hD.weaken (fun _ _ _ _ => trivial)⟩⟩ rfl hn hl.1 rfl (lv_room hr) hd ⟨Nat.le_refl _, Nat.le_refl _⟩) hS (fun z _ h => hFc z h) hFc (fun Y t H1 locs1 ht hvm hp hB hz1 hk1 hS1 => kk Y hp H1 locs1 ls (ht ▸ hB.1) (hB.2.weaken (fun k z _ h => hFc z.1 h)) hS1 hl)
set_option maxHeartbeats 1000000 in
theorem z_callSv (C : zC κ l0 cc n0 own Ts kf θ) {post : va_W → Prop} (hM : cV l0 y wl k' θ As X post) (hG : GoodIn Ts (va_wsS own index y wl)) (hw : wl = Cond.code y bytes maxL ret :: ws') (nA : Nat) (hd0 : y.cls ≠ "java/lang/invoke/MethodHandle" ∧ y.cls ≠ "java/lang/invoke/VarHandle" ∧ (parseMethodDescriptor y.desc).map (fun d => d.parameters.length) = some nA) (hk : k' < kf) (hmx : maxL ≤ 21) (hn : As.length = nA) (hst : st = As.reverse ++ rest) (hr : (rest.map fun v => v.category).sum ≤ 8) (hd : decode cc pc = .ok (.invokestatic index, 3)) (kk : ∀ (Y : va_W), post Y → Z κ Y (pc + 3) lv rest) : Z κ X pc lv st := by
  obtain ⟨p, l, e, R, s, m, args, below, meth, c, Q, A, θ', n⟩ := κ
  obtain ⟨rfl, rfl, rfl, hR, hx, hb, hml, hown, hts, hK, hN, hA⟩ := C
  subst hR
  intro H locs ls hP hD hS hl
  have hFc : ∀ z : Nat, va_A X H.size z → A z := fun z h => by
    rcases h with ⟨i, e', h⟩ | h
    · exact hD.2 i _ h
    · exact hA z (Nat.le_trans hS.1 h)
  subst hst
  exact va_callv (va_runS (As := As) (rest := rest) ⟨hx, hb, hml, hown, hts⟩ (hM H.size) (va_cwS nA hts hG hw rfl rfl hd0 (z_room hk hmx)) ⟨zPc_blind, fun U hU hW => ⟨rfl, by rw [hU], by rw [hU]; exact hP, va_K.moved hW.alike hK, zN.warm hW hN, hD.weaken (fun _ _ _ _ => trivial)⟩⟩ rfl hn hl.1 rfl (lv_room hr) hd ⟨Nat.le_refl _, Nat.le_refl _⟩) hS (fun z _ h => hFc z h) hFc (fun Y t H1 locs1 ht hvm hp hB hz1 hk1 hS1 => kk Y hp H1 locs1 ls (ht ▸ hB.1) (hB.2.weaken (fun k z _ h => hFc z.1 h)) hS1 hl)
set_option maxHeartbeats 1000000 in
theorem z_callNv (C : zC κ l0 cc n0 own Ts kf θ) {post : va_W → Prop} (hM : cV l0 y wl k' θ (.ref b :: As) X post) (hG : GoodIn Ts wl) (hw : wl = Cond.code y bytes maxL ret :: ws') (nA : Nat) (hd0 : y.cls ≠ "java/lang/invoke/MethodHandle" ∧ y.cls ≠ "java/lang/invoke/VarHandle" ∧ (parseMethodDescriptor y.desc).map (fun d => d.parameters.length) = some nA) (hm : (own, index, y, host) ∈ zNM) (hi : Cond.initialized y.cls ∈ Ts) (hi2 : Cond.instanceMethod y ∈ Ts) (hi3 : Cond.selects Cn y y ∈ Ts) (hk : k' < kf) (hmx : maxL ≤ 21) (q0 : Nat) (he : X[q0]? = some (b, .inr (ci, fs))) (hc : vwCl[ci]? = some q) (hq : q.1 = Cn) (hn : As.length = nA) (hst : st = As.reverse ++ .ref b :: rest) (hr : (rest.map fun v => v.category).sum ≤ 8) (hd : decode cc pc = .ok (.invokevirtual index, 3)) (kk : ∀ (Y : va_W), post Y → Z κ Y (pc + 3) lv rest) : Z κ X pc lv st := by
  obtain ⟨p, l, e, R, s, m, args, below, meth, c, Q, A, θ', n⟩ := κ
  obtain ⟨rfl, rfl, rfl, hR, hx, hb, hml, hown, hts, hK, hN, hA⟩ := C
  subst hR
  intro H locs ls hP hD hS hl
  have hFc : ∀ z : Nat, va_A X H.size z → A z := fun z h => by
    rcases h with ⟨i, e', h⟩ | h
    · exact hD.2 i _ h
    · exact hA z (Nat.le_trans hS.1 h)
  subst hq
  subst hst
  exact va_callv (va_runVN (As := As) (rest := rest) ⟨hx, hb, hml, hown, hts⟩ (hM H.size) ⟨va_cnB nA hts hG hw rfl rfl (hN.2 _ hm) (hts _ hi) hd0 (z_room hk hmx), hts _ hi2, hts _ hi3⟩ ⟨zPc_blind, va_recv hK hP hc he, fun U hU hW => ⟨rfl, by rw [hU], by rw [hU]; exact hP, va_K.moved hW.alike hK, zN.warm hW hN, hD.weaken (fun _ _ _ _ => trivial)⟩⟩ rfl hn hl.1 rfl (lv_room hr) hd ⟨Nat.le_refl _, Nat.le_refl _⟩) hS (fun z _ h => hFc z h) hFc (fun Y t H1 locs1 ht hvm hp hB hz1 hk1 hS1 => kk Y hp H1 locs1 ls (ht ▸ hB.1) (hB.2.weaken (fun k z _ h => hFc z.1 h)) hS1 hl)
set_option maxHeartbeats 1000000 in
theorem z_callTv (C : zC κ l0 cc n0 own Ts kf θ) {post : va_W → Prop} (hM : cV l0 y wl k' θ As X post) (hG : GoodIn Ts wl) (hw : wl = Cond.code y bytes maxL ret :: ws') (nA : Nat) (hd0 : y.cls ≠ "java/lang/invoke/MethodHandle" ∧ y.cls ≠ "java/lang/invoke/VarHandle" ∧ (parseMethodDescriptor y.desc).map (fun d => d.parameters.length) = some nA) (hm : (own, index, y, host) ∈ zNM) (hi : Cond.initialized y.cls ∈ Ts) (hi2 : Cond.static y ∈ Ts) (hk : k' < kf) (hmx : maxL ≤ 21) (hn : As.length = nA) (hst : st = As.reverse ++ rest) (hr : (rest.map fun v => v.category).sum ≤ 8) (hd : decode cc pc = .ok (.invokestatic index, 3)) (kk : ∀ (Y : va_W), post Y → Z κ Y (pc + 3) lv rest) : Z κ X pc lv st := by
  obtain ⟨p, l, e, R, s, m, args, below, meth, c, Q, A, θ', n⟩ := κ
  obtain ⟨rfl, rfl, rfl, hR, hx, hb, hml, hown, hts, hK, hN, hA⟩ := C
  subst hR
  intro H locs ls hP hD hS hl
  have hFc : ∀ z : Nat, va_A X H.size z → A z := fun z h => by
    rcases h with ⟨i, e', h⟩ | h
    · exact hD.2 i _ h
    · exact hA z (Nat.le_trans hS.1 h)
  subst hst
  exact va_callv (va_runSN (As := As) (rest := rest) ⟨hx, hb, hml, hown, hts⟩ (hM H.size) ⟨va_cnB nA hts hG hw rfl rfl (hN.2 _ hm) (hts _ hi) hd0 (z_room hk hmx), hts _ hi2, trivial⟩ ⟨zPc_blind, fun U hU hW => ⟨rfl, by rw [hU], by rw [hU]; exact hP, va_K.moved hW.alike hK, zN.warm hW hN, hD.weaken (fun _ _ _ _ => trivial)⟩⟩ rfl hn hl.1 rfl (lv_room hr) hd ⟨Nat.le_refl _, Nat.le_refl _⟩) hS (fun z _ h => hFc z h) hFc (fun Y t H1 locs1 ht hvm hp hB hz1 hk1 hS1 => kk Y hp H1 locs1 ls (ht ▸ hB.1) (hB.2.weaken (fun k z _ h => hFc z.1 h)) hS1 hl)
theorem z_inc1 (a : Nat) : nI a + Int32.ofInt 1 = nI (a + 1) := nI_1 a
theorem z_top {v v' : Value} (h : v = v') (kk : Z κ X pc lv (v' :: st)) : Z κ X pc lv (v :: st) := h ▸ kk
theorem z_topI {v v' : Int32} (h : v = v') (kk : Z κ X pc lv (.int v' :: st)) : Z κ X pc lv (.int v :: st) := h ▸ kk
theorem z_to {X' : va_W} {lv' : List (Nat × Value)} (kk : Z κ X' pc lv' st) (hX : X = X') (h : lv'.map (fun q => zlk lv q.1) = lv'.map (fun q => some q.2)) : Z κ X pc lv st := z_X hX (z_lv h kk)
theorem z_iaddN (C : zC κ l0 cc n0 own Ts kf θ) {a b : Nat} (hd : decode cc pc = .ok (.iadd, 1)) (kk : Z κ X (pc + 1) lv (.int (nI (a + b)) :: st)) : Z κ X pc lv (.int (nI b) :: .int (nI a) :: st) := z_iadd C hd (by rw [nI_add]; exact kk)
theorem z_imulN (C : zC κ l0 cc n0 own Ts kf θ) {a b : Nat} (hd : decode cc pc = .ok (.imul, 1)) (kk : Z κ X (pc + 1) lv (.int (nI (a * b)) :: st)) : Z κ X pc lv (.int (nI b) :: .int (nI a) :: st) := z_imul C hd (by rw [pk_mul]; exact kk)
theorem z_isubN (C : zC κ l0 cc n0 own Ts kf θ) {a b : Nat} (hd : decode cc pc = .ok (.isub, 1)) (hle : b ≤ a) (kk : Z κ X (pc + 1) lv (.int (nI (a - b)) :: st)) : Z κ X pc lv (.int (nI b) :: .int (nI a) :: st) := z_isub C hd (by rw [pk_sub hle]; exact kk)
theorem z_idivN (C : zC κ l0 cc n0 own Ts kf θ) {a b : Nat} (hd : decode cc pc = .ok (.idiv, 1)) (ha : a < 2 ^ 31) (h0 : 0 < b) (hb : b < 2 ^ 31) (kk : Z κ X (pc + 1) lv (.int (nI (a / b)) :: st)) : Z κ X pc lv (.int (nI b) :: .int (nI a) :: st) := z_idiv C hd (nI_ne0 h0 hb) (by rw [pk_div ha h0 hb]; exact kk)
theorem z_iremN (C : zC κ l0 cc n0 own Ts kf θ) {a b : Nat} (hd : decode cc pc = .ok (.irem, 1)) (ha : a < 2 ^ 31) (h0 : 0 < b) (hb : b < 2 ^ 31) (kk : Z κ X (pc + 1) lv (.int (nI (a % b)) :: st)) : Z κ X pc lv (.int (nI b) :: .int (nI a) :: st) := z_irem C hd (nI_ne0 h0 hb) (by rw [pk_rem ha h0 hb]; exact kk)
theorem z_iincN (C : zC κ l0 cc n0 own Ts kf θ) {i a : Nat} (lv' : List (Nat × Value)) (hd : decode cc pc = .ok (.iinc i 1, 3)) (hk : zlk lv i = some (.int (nI a))) (hn : i < n0) (h : (i, Value.int (nI (a + 1))) :: lv.filter (fun q => !(q.1 == i) && !(q.1 + 1 == i && q.2.category == 2)) = lv') (kk : Z κ X (pc + 3) lv' st) : Z κ X pc lv st := z_iinc C lv' hd hk (z_inc1 a) hn h kk

theorem z_icmp_eqN (C : zC κ l0 cc n0 own Ts kf θ) {a b : Nat} {off : Int} (tgt : Nat) (hd : decode cc pc = .ok (.if_icmp .eq off, 3)) (ht : (pc : Int) + off = (tgt : Int)) (ha : a < 2 ^ 31) (hb : b < 2 ^ 31) (kt : a = b → Z κ X tgt lv st) (kn : ¬ a = b → Z κ X (pc + 3) lv st) : Z κ X pc lv (.int (nI b) :: .int (nI a) :: st) := z_icmp_eq C tgt hd ht (fun h => kt ((nI_eq ha hb).mp h)) (fun h => kn (fun z => h ((nI_eq ha hb).mpr z)))
theorem z_icmp_eqT (C : zC κ l0 cc n0 own Ts kf θ) {a b : Nat} {off : Int} (tgt : Nat) (hd : decode cc pc = .ok (.if_icmp .eq off, 3)) (ht : (pc : Int) + off = (tgt : Int)) (ha : a < 2 ^ 31) (hb : b < 2 ^ 31) (h0 : a = b) (kt : Z κ X tgt lv st) : Z κ X pc lv (.int (nI b) :: .int (nI a) :: st) := z_icmp_eqN C tgt hd ht ha hb (fun _ => kt) (fun h => absurd h0 (by omega))
theorem z_icmp_eqF (C : zC κ l0 cc n0 own Ts kf θ) {a b : Nat} {off : Int} (tgt : Nat) (hd : decode cc pc = .ok (.if_icmp .eq off, 3)) (ht : (pc : Int) + off = (tgt : Int)) (ha : a < 2 ^ 31) (hb : b < 2 ^ 31) (h0 : ¬ a = b) (kn : Z κ X (pc + 3) lv st) : Z κ X pc lv (.int (nI b) :: .int (nI a) :: st) := z_icmp_eqN C tgt hd ht ha hb (fun h => absurd h0 (by omega)) (fun _ => kn)
theorem z_icmp_neN (C : zC κ l0 cc n0 own Ts kf θ) {a b : Nat} {off : Int} (tgt : Nat) (hd : decode cc pc = .ok (.if_icmp .ne off, 3)) (ht : (pc : Int) + off = (tgt : Int)) (ha : a < 2 ^ 31) (hb : b < 2 ^ 31) (kt : a ≠ b → Z κ X tgt lv st) (kn : a = b → Z κ X (pc + 3) lv st) : Z κ X pc lv (.int (nI b) :: .int (nI a) :: st) := z_icmp_ne C tgt hd ht (fun h => kt ((not_congr (nI_eq ha hb)).mp h)) (fun h => kn ((nI_eq ha hb).mp h))
theorem z_icmp_neT (C : zC κ l0 cc n0 own Ts kf θ) {a b : Nat} {off : Int} (tgt : Nat) (hd : decode cc pc = .ok (.if_icmp .ne off, 3)) (ht : (pc : Int) + off = (tgt : Int)) (ha : a < 2 ^ 31) (hb : b < 2 ^ 31) (h0 : a ≠ b) (kt : Z κ X tgt lv st) : Z κ X pc lv (.int (nI b) :: .int (nI a) :: st) := z_icmp_neN C tgt hd ht ha hb (fun _ => kt) (fun h => absurd h0 (by omega))
theorem z_icmp_neF (C : zC κ l0 cc n0 own Ts kf θ) {a b : Nat} {off : Int} (tgt : Nat) (hd : decode cc pc = .ok (.if_icmp .ne off, 3)) (ht : (pc : Int) + off = (tgt : Int)) (ha : a < 2 ^ 31) (hb : b < 2 ^ 31) (h0 : a = b) (kn : Z κ X (pc + 3) lv st) : Z κ X pc lv (.int (nI b) :: .int (nI a) :: st) := z_icmp_neN C tgt hd ht ha hb (fun h => absurd h0 (by omega)) (fun _ => kn)
theorem z_icmp_ltN (C : zC κ l0 cc n0 own Ts kf θ) {a b : Nat} {off : Int} (tgt : Nat) (hd : decode cc pc = .ok (.if_icmp .lt off, 3)) (ht : (pc : Int) + off = (tgt : Int)) (ha : a < 2 ^ 31) (hb : b < 2 ^ 31) (kt : a < b → Z κ X tgt lv st) (kn : ¬ a < b → Z κ X (pc + 3) lv st) : Z κ X pc lv (.int (nI b) :: .int (nI a) :: st) := z_icmp_lt C tgt hd ht (fun h => kt ((nI_ltI ha hb).mp h)) (fun h => kn (fun z => h ((nI_ltI ha hb).mpr z)))
theorem z_icmp_ltT (C : zC κ l0 cc n0 own Ts kf θ) {a b : Nat} {off : Int} (tgt : Nat) (hd : decode cc pc = .ok (.if_icmp .lt off, 3)) (ht : (pc : Int) + off = (tgt : Int)) (ha : a < 2 ^ 31) (hb : b < 2 ^ 31) (h0 : a < b) (kt : Z κ X tgt lv st) : Z κ X pc lv (.int (nI b) :: .int (nI a) :: st) := z_icmp_ltN C tgt hd ht ha hb (fun _ => kt) (fun h => absurd h0 (by omega))
theorem z_icmp_ltF (C : zC κ l0 cc n0 own Ts kf θ) {a b : Nat} {off : Int} (tgt : Nat) (hd : decode cc pc = .ok (.if_icmp .lt off, 3)) (ht : (pc : Int) + off = (tgt : Int)) (ha : a < 2 ^ 31) (hb : b < 2 ^ 31) (h0 : ¬ a < b) (kn : Z κ X (pc + 3) lv st) : Z κ X pc lv (.int (nI b) :: .int (nI a) :: st) := z_icmp_ltN C tgt hd ht ha hb (fun h => absurd h0 (by omega)) (fun _ => kn)
theorem z_icmp_geN (C : zC κ l0 cc n0 own Ts kf θ) {a b : Nat} {off : Int} (tgt : Nat) (hd : decode cc pc = .ok (.if_icmp .ge off, 3)) (ht : (pc : Int) + off = (tgt : Int)) (ha : a < 2 ^ 31) (hb : b < 2 ^ 31) (kt : b ≤ a → Z κ X tgt lv st) (kn : ¬ b ≤ a → Z κ X (pc + 3) lv st) : Z κ X pc lv (.int (nI b) :: .int (nI a) :: st) := z_icmp_ge C tgt hd ht (fun h => kt ((nI_leI hb ha).mp h)) (fun h => kn (fun z => h ((nI_leI hb ha).mpr z)))
theorem z_icmp_geT (C : zC κ l0 cc n0 own Ts kf θ) {a b : Nat} {off : Int} (tgt : Nat) (hd : decode cc pc = .ok (.if_icmp .ge off, 3)) (ht : (pc : Int) + off = (tgt : Int)) (ha : a < 2 ^ 31) (hb : b < 2 ^ 31) (h0 : b ≤ a) (kt : Z κ X tgt lv st) : Z κ X pc lv (.int (nI b) :: .int (nI a) :: st) := z_icmp_geN C tgt hd ht ha hb (fun _ => kt) (fun h => absurd h0 (by omega))
theorem z_icmp_geF (C : zC κ l0 cc n0 own Ts kf θ) {a b : Nat} {off : Int} (tgt : Nat) (hd : decode cc pc = .ok (.if_icmp .ge off, 3)) (ht : (pc : Int) + off = (tgt : Int)) (ha : a < 2 ^ 31) (hb : b < 2 ^ 31) (h0 : ¬ b ≤ a) (kn : Z κ X (pc + 3) lv st) : Z κ X pc lv (.int (nI b) :: .int (nI a) :: st) := z_icmp_geN C tgt hd ht ha hb (fun h => absurd h0 (by omega)) (fun _ => kn)
theorem z_icmp_gtN (C : zC κ l0 cc n0 own Ts kf θ) {a b : Nat} {off : Int} (tgt : Nat) (hd : decode cc pc = .ok (.if_icmp .gt off, 3)) (ht : (pc : Int) + off = (tgt : Int)) (ha : a < 2 ^ 31) (hb : b < 2 ^ 31) (kt : b < a → Z κ X tgt lv st) (kn : ¬ b < a → Z κ X (pc + 3) lv st) : Z κ X pc lv (.int (nI b) :: .int (nI a) :: st) := z_icmp_gt C tgt hd ht (fun h => kt ((nI_ltI hb ha).mp h)) (fun h => kn (fun z => h ((nI_ltI hb ha).mpr z)))
theorem z_icmp_gtT (C : zC κ l0 cc n0 own Ts kf θ) {a b : Nat} {off : Int} (tgt : Nat) (hd : decode cc pc = .ok (.if_icmp .gt off, 3)) (ht : (pc : Int) + off = (tgt : Int)) (ha : a < 2 ^ 31) (hb : b < 2 ^ 31) (h0 : b < a) (kt : Z κ X tgt lv st) : Z κ X pc lv (.int (nI b) :: .int (nI a) :: st) := z_icmp_gtN C tgt hd ht ha hb (fun _ => kt) (fun h => absurd h0 (by omega))
theorem z_icmp_gtF (C : zC κ l0 cc n0 own Ts kf θ) {a b : Nat} {off : Int} (tgt : Nat) (hd : decode cc pc = .ok (.if_icmp .gt off, 3)) (ht : (pc : Int) + off = (tgt : Int)) (ha : a < 2 ^ 31) (hb : b < 2 ^ 31) (h0 : ¬ b < a) (kn : Z κ X (pc + 3) lv st) : Z κ X pc lv (.int (nI b) :: .int (nI a) :: st) := z_icmp_gtN C tgt hd ht ha hb (fun h => absurd h0 (by omega)) (fun _ => kn)
theorem z_icmp_leN (C : zC κ l0 cc n0 own Ts kf θ) {a b : Nat} {off : Int} (tgt : Nat) (hd : decode cc pc = .ok (.if_icmp .le off, 3)) (ht : (pc : Int) + off = (tgt : Int)) (ha : a < 2 ^ 31) (hb : b < 2 ^ 31) (kt : a ≤ b → Z κ X tgt lv st) (kn : ¬ a ≤ b → Z κ X (pc + 3) lv st) : Z κ X pc lv (.int (nI b) :: .int (nI a) :: st) := z_icmp_le C tgt hd ht (fun h => kt ((nI_leI ha hb).mp h)) (fun h => kn (fun z => h ((nI_leI ha hb).mpr z)))
theorem z_icmp_leT (C : zC κ l0 cc n0 own Ts kf θ) {a b : Nat} {off : Int} (tgt : Nat) (hd : decode cc pc = .ok (.if_icmp .le off, 3)) (ht : (pc : Int) + off = (tgt : Int)) (ha : a < 2 ^ 31) (hb : b < 2 ^ 31) (h0 : a ≤ b) (kt : Z κ X tgt lv st) : Z κ X pc lv (.int (nI b) :: .int (nI a) :: st) := z_icmp_leN C tgt hd ht ha hb (fun _ => kt) (fun h => absurd h0 (by omega))
theorem z_icmp_leF (C : zC κ l0 cc n0 own Ts kf θ) {a b : Nat} {off : Int} (tgt : Nat) (hd : decode cc pc = .ok (.if_icmp .le off, 3)) (ht : (pc : Int) + off = (tgt : Int)) (ha : a < 2 ^ 31) (hb : b < 2 ^ 31) (h0 : ¬ a ≤ b) (kn : Z κ X (pc + 3) lv st) : Z κ X pc lv (.int (nI b) :: .int (nI a) :: st) := z_icmp_leN C tgt hd ht ha hb (fun h => absurd h0 (by omega)) (fun _ => kn)
theorem z_if_eqN (C : zC κ l0 cc n0 own Ts kf θ) {a : Nat} {off : Int} (tgt : Nat) (hd : decode cc pc = .ok (.ifCond .eq off, 3)) (ht : (pc : Int) + off = (tgt : Int)) (ha : a < 2 ^ 31) (kt : a = 0 → Z κ X tgt lv st) (kn : ¬ a = 0 → Z κ X (pc + 3) lv st) : Z κ X pc lv (.int (nI a) :: st) := z_if_eq C tgt hd ht (fun h => kt ((nI_eq ha (by decide)).mp h)) (fun h => kn (fun z => h (by rw [z]; rfl)))
theorem z_if_neN (C : zC κ l0 cc n0 own Ts kf θ) {a : Nat} {off : Int} (tgt : Nat) (hd : decode cc pc = .ok (.ifCond .ne off, 3)) (ht : (pc : Int) + off = (tgt : Int)) (ha : a < 2 ^ 31) (kt : ¬ a = 0 → Z κ X tgt lv st) (kn : a = 0 → Z κ X (pc + 3) lv st) : Z κ X pc lv (.int (nI a) :: st) := z_if_ne C tgt hd ht (fun h => kt (fun z => h (by rw [z]; rfl))) (fun h => kn ((nI_eq ha (by decide)).mp h))
theorem z_if_gtN (C : zC κ l0 cc n0 own Ts kf θ) {a : Nat} {off : Int} (tgt : Nat) (hd : decode cc pc = .ok (.ifCond .gt off, 3)) (ht : (pc : Int) + off = (tgt : Int)) (ha : a < 2 ^ 31) (kt : 0 < a → Z κ X tgt lv st) (kn : ¬ 0 < a → Z κ X (pc + 3) lv st) : Z κ X pc lv (.int (nI a) :: st) := z_if_gt C tgt hd ht (fun h => kt ((nI_ltI (a := 0) (by decide) ha).mp h)) (fun h => kn (fun z => h ((nI_ltI (a := 0) (by decide) ha).mpr z)))
theorem z_if_leN (C : zC κ l0 cc n0 own Ts kf θ) {a : Nat} {off : Int} (tgt : Nat) (hd : decode cc pc = .ok (.ifCond .le off, 3)) (ht : (pc : Int) + off = (tgt : Int)) (ha : a < 2 ^ 31) (kt : a = 0 → Z κ X tgt lv st) (kn : ¬ a = 0 → Z κ X (pc + 3) lv st) : Z κ X pc lv (.int (nI a) :: st) := z_if_le C tgt hd ht (fun h => kt (by have := (nI_leI ha (b := 0) (by decide)).mp h; omega)) (fun h => kn (fun z => h ((nI_leI ha (b := 0) (by decide)).mpr (by omega))))
theorem z_if_ltN (C : zC κ l0 cc n0 own Ts kf θ) {a : Nat} {off : Int} (tgt : Nat) (hd : decode cc pc = .ok (.ifCond .lt off, 3)) (ht : (pc : Int) + off = (tgt : Int)) (ha : a < 2 ^ 31) (kn : Z κ X (pc + 3) lv st) : Z κ X pc lv (.int (nI a) :: st) := z_if_lt C tgt hd ht (fun h => absurd h (nI_pos ha)) (fun _ => kn)
theorem z_if_geN (C : zC κ l0 cc n0 own Ts kf θ) {a : Nat} {off : Int} (tgt : Nat) (hd : decode cc pc = .ok (.ifCond .ge off, 3)) (ht : (pc : Int) + off = (tgt : Int)) (ha : a < 2 ^ 31) (kt : Z κ X tgt lv st) : Z κ X pc lv (.int (nI a) :: st) := z_if_ge C tgt hd ht (fun _ => kt) (fun h => absurd (nI_pos' ha) h)
/-- the fields of the model: numbers n, the place of the fault g, arrays at ad -/
def mfs (ad : Nat → Nat) (n : Nat → Nat) (g : Int32) : List Value := [.int (nI (n 0)), .int (nI (n 1)), .ref (ad 2), .int (nI (n 3)), .ref (ad 4), .int (nI (n 5)), .ref (ad 6), .ref (ad 7), .int (nI (n 8)), .ref (ad 9), .int (nI (n 10)), .int g, .int (nI (n 12)), .int (nI (n 13)), .int (nI (n 14)), .int (nI (n 15)), .int (nI (n 16)), .ref (ad 17), .int (nI (n 18)), .ref (ad 19), .int (nI (n 20)), .ref (ad 21), .int (nI (n 22)), .ref (ad 23), .ref (ad 24), .ref (ad 25), .ref (ad 26), .int (nI (n 27)), .ref (ad 28), .ref (ad 29), .ref (ad 30), .ref (ad 31), .ref (ad 32)]
/-- the world of the model -/
def MW (θ : zH) (ad : Nat → Nat) (n : Nat → Nat) (g : Int32) (r : Nat → Nat → Int32) : va_W := [(ad 0, .inr (6, mfs ad n g)), (ad 2, .inl (θ.2.1, 6, .inl (r 2))), (ad 4, .inl (θ.2.1, 5, .inl (r 4))), (ad 6, .inl (θ.2.1, 6, .inl (r 6))), (ad 7, .inl (θ.2.1, 82, .inl (r 7))), (ad 9, .inl (θ.2.1, 240, .inl (r 9))), (ad 17, .inl (θ.2.1, 6, .inl (r 17))), (ad 19, .inl (θ.2.1, 5, .inl (r 19))), (ad 21, .inl (θ.2.1, 6, .inl (r 21))), (ad 23, .inl (θ.2.1, 1312, .inl (r 23))), (ad 24, .inl (θ.2.1, 6, .inl (r 24))), (ad 25, .inl (θ.2.1, 5, .inl (r 25))), (ad 26, .inl (θ.2.1, 30, .inl (r 26))), (ad 28, .inl (θ.2.1, 6, .inl (r 28))), (ad 29, .inl (θ.2.1, 6, .inl (r 29))), (ad 30, .inl (θ.2.1, 30, .inl (r 30))), (ad 31, .inl (θ.2.1, 166, .inl (r 31))), (ad 32, .inl (θ.2.2.1, 2, .inl (r 32)))]
variable {ad : Nat → Nat} {n : Nat → Nat} {g : Int32} {r : Nat → Nat → Int32}
theorem mf_0 : (mfs ad n g)[0]? = some (.int (nI (n 0))) := rfl
theorem mp_0 {x : Nat} : (MW θ ad n g r).set 0 (ad 0, .inr (6, (mfs ad n g).set 0 (.int (nI x)))) = MW θ ad (va_up n 0 x) g r := rfl
theorem mf_1 : (mfs ad n g)[1]? = some (.int (nI (n 1))) := rfl
theorem mp_1 {x : Nat} : (MW θ ad n g r).set 0 (ad 0, .inr (6, (mfs ad n g).set 1 (.int (nI x)))) = MW θ ad (va_up n 1 x) g r := rfl
theorem mf_3 : (mfs ad n g)[3]? = some (.int (nI (n 3))) := rfl
theorem mp_3 {x : Nat} : (MW θ ad n g r).set 0 (ad 0, .inr (6, (mfs ad n g).set 3 (.int (nI x)))) = MW θ ad (va_up n 3 x) g r := rfl
theorem mf_5 : (mfs ad n g)[5]? = some (.int (nI (n 5))) := rfl
theorem mp_5 {x : Nat} : (MW θ ad n g r).set 0 (ad 0, .inr (6, (mfs ad n g).set 5 (.int (nI x)))) = MW θ ad (va_up n 5 x) g r := rfl
theorem mf_8 : (mfs ad n g)[8]? = some (.int (nI (n 8))) := rfl
theorem mp_8 {x : Nat} : (MW θ ad n g r).set 0 (ad 0, .inr (6, (mfs ad n g).set 8 (.int (nI x)))) = MW θ ad (va_up n 8 x) g r := rfl
theorem mf_10 : (mfs ad n g)[10]? = some (.int (nI (n 10))) := rfl
theorem mp_10 {x : Nat} : (MW θ ad n g r).set 0 (ad 0, .inr (6, (mfs ad n g).set 10 (.int (nI x)))) = MW θ ad (va_up n 10 x) g r := rfl
theorem mf_12 : (mfs ad n g)[12]? = some (.int (nI (n 12))) := rfl
theorem mp_12 {x : Nat} : (MW θ ad n g r).set 0 (ad 0, .inr (6, (mfs ad n g).set 12 (.int (nI x)))) = MW θ ad (va_up n 12 x) g r := rfl
theorem mf_13 : (mfs ad n g)[13]? = some (.int (nI (n 13))) := rfl
theorem mp_13 {x : Nat} : (MW θ ad n g r).set 0 (ad 0, .inr (6, (mfs ad n g).set 13 (.int (nI x)))) = MW θ ad (va_up n 13 x) g r := rfl
theorem mf_14 : (mfs ad n g)[14]? = some (.int (nI (n 14))) := rfl
theorem mp_14 {x : Nat} : (MW θ ad n g r).set 0 (ad 0, .inr (6, (mfs ad n g).set 14 (.int (nI x)))) = MW θ ad (va_up n 14 x) g r := rfl
theorem mf_15 : (mfs ad n g)[15]? = some (.int (nI (n 15))) := rfl
theorem mp_15 {x : Nat} : (MW θ ad n g r).set 0 (ad 0, .inr (6, (mfs ad n g).set 15 (.int (nI x)))) = MW θ ad (va_up n 15 x) g r := rfl
theorem mf_16 : (mfs ad n g)[16]? = some (.int (nI (n 16))) := rfl
theorem mp_16 {x : Nat} : (MW θ ad n g r).set 0 (ad 0, .inr (6, (mfs ad n g).set 16 (.int (nI x)))) = MW θ ad (va_up n 16 x) g r := rfl
theorem mf_18 : (mfs ad n g)[18]? = some (.int (nI (n 18))) := rfl
theorem mp_18 {x : Nat} : (MW θ ad n g r).set 0 (ad 0, .inr (6, (mfs ad n g).set 18 (.int (nI x)))) = MW θ ad (va_up n 18 x) g r := rfl
theorem mf_20 : (mfs ad n g)[20]? = some (.int (nI (n 20))) := rfl
theorem mp_20 {x : Nat} : (MW θ ad n g r).set 0 (ad 0, .inr (6, (mfs ad n g).set 20 (.int (nI x)))) = MW θ ad (va_up n 20 x) g r := rfl
theorem mf_22 : (mfs ad n g)[22]? = some (.int (nI (n 22))) := rfl
theorem mp_22 {x : Nat} : (MW θ ad n g r).set 0 (ad 0, .inr (6, (mfs ad n g).set 22 (.int (nI x)))) = MW θ ad (va_up n 22 x) g r := rfl
theorem mf_27 : (mfs ad n g)[27]? = some (.int (nI (n 27))) := rfl
theorem mp_27 {x : Nat} : (MW θ ad n g r).set 0 (ad 0, .inr (6, (mfs ad n g).set 27 (.int (nI x)))) = MW θ ad (va_up n 27 x) g r := rfl
theorem mf_11 : (mfs ad n g)[11]? = some (.int g) := rfl
theorem mp_11 {x : Int32} : (MW θ ad n g r).set 0 (ad 0, .inr (6, (mfs ad n g).set 11 (.int x))) = MW θ ad n x r := rfl
theorem mf_2 : (mfs ad n g)[2]? = some (.ref (ad 2)) := rfl
theorem mr_2 : (MW θ ad n g r)[1]? = some (ad 2, .inl (θ.2.1, 6, .inl (r 2))) := rfl
theorem ms_2 {F : Nat → Int32} : (MW θ ad n g r).set 1 (ad 2, .inl (θ.2.1, 6, .inl F)) = MW θ ad n g (va_up r 2 F) := rfl
theorem mf_4 : (mfs ad n g)[4]? = some (.ref (ad 4)) := rfl
theorem mr_4 : (MW θ ad n g r)[2]? = some (ad 4, .inl (θ.2.1, 5, .inl (r 4))) := rfl
theorem ms_4 {F : Nat → Int32} : (MW θ ad n g r).set 2 (ad 4, .inl (θ.2.1, 5, .inl F)) = MW θ ad n g (va_up r 4 F) := rfl
theorem mf_6 : (mfs ad n g)[6]? = some (.ref (ad 6)) := rfl
theorem mr_6 : (MW θ ad n g r)[3]? = some (ad 6, .inl (θ.2.1, 6, .inl (r 6))) := rfl
theorem ms_6 {F : Nat → Int32} : (MW θ ad n g r).set 3 (ad 6, .inl (θ.2.1, 6, .inl F)) = MW θ ad n g (va_up r 6 F) := rfl
theorem mf_7 : (mfs ad n g)[7]? = some (.ref (ad 7)) := rfl
theorem mr_7 : (MW θ ad n g r)[4]? = some (ad 7, .inl (θ.2.1, 82, .inl (r 7))) := rfl
theorem ms_7 {F : Nat → Int32} : (MW θ ad n g r).set 4 (ad 7, .inl (θ.2.1, 82, .inl F)) = MW θ ad n g (va_up r 7 F) := rfl
theorem mf_9 : (mfs ad n g)[9]? = some (.ref (ad 9)) := rfl
theorem mr_9 : (MW θ ad n g r)[5]? = some (ad 9, .inl (θ.2.1, 240, .inl (r 9))) := rfl
theorem ms_9 {F : Nat → Int32} : (MW θ ad n g r).set 5 (ad 9, .inl (θ.2.1, 240, .inl F)) = MW θ ad n g (va_up r 9 F) := rfl
theorem mf_17 : (mfs ad n g)[17]? = some (.ref (ad 17)) := rfl
theorem mr_17 : (MW θ ad n g r)[6]? = some (ad 17, .inl (θ.2.1, 6, .inl (r 17))) := rfl
theorem ms_17 {F : Nat → Int32} : (MW θ ad n g r).set 6 (ad 17, .inl (θ.2.1, 6, .inl F)) = MW θ ad n g (va_up r 17 F) := rfl
theorem mf_19 : (mfs ad n g)[19]? = some (.ref (ad 19)) := rfl
theorem mr_19 : (MW θ ad n g r)[7]? = some (ad 19, .inl (θ.2.1, 5, .inl (r 19))) := rfl
theorem ms_19 {F : Nat → Int32} : (MW θ ad n g r).set 7 (ad 19, .inl (θ.2.1, 5, .inl F)) = MW θ ad n g (va_up r 19 F) := rfl
theorem mf_21 : (mfs ad n g)[21]? = some (.ref (ad 21)) := rfl
theorem mr_21 : (MW θ ad n g r)[8]? = some (ad 21, .inl (θ.2.1, 6, .inl (r 21))) := rfl
theorem ms_21 {F : Nat → Int32} : (MW θ ad n g r).set 8 (ad 21, .inl (θ.2.1, 6, .inl F)) = MW θ ad n g (va_up r 21 F) := rfl
theorem mf_23 : (mfs ad n g)[23]? = some (.ref (ad 23)) := rfl
theorem mr_23 : (MW θ ad n g r)[9]? = some (ad 23, .inl (θ.2.1, 1312, .inl (r 23))) := rfl
theorem ms_23 {F : Nat → Int32} : (MW θ ad n g r).set 9 (ad 23, .inl (θ.2.1, 1312, .inl F)) = MW θ ad n g (va_up r 23 F) := rfl
theorem mf_24 : (mfs ad n g)[24]? = some (.ref (ad 24)) := rfl
theorem mr_24 : (MW θ ad n g r)[10]? = some (ad 24, .inl (θ.2.1, 6, .inl (r 24))) := rfl
theorem ms_24 {F : Nat → Int32} : (MW θ ad n g r).set 10 (ad 24, .inl (θ.2.1, 6, .inl F)) = MW θ ad n g (va_up r 24 F) := rfl
theorem mf_25 : (mfs ad n g)[25]? = some (.ref (ad 25)) := rfl
theorem mr_25 : (MW θ ad n g r)[11]? = some (ad 25, .inl (θ.2.1, 5, .inl (r 25))) := rfl
theorem ms_25 {F : Nat → Int32} : (MW θ ad n g r).set 11 (ad 25, .inl (θ.2.1, 5, .inl F)) = MW θ ad n g (va_up r 25 F) := rfl
theorem mf_26 : (mfs ad n g)[26]? = some (.ref (ad 26)) := rfl
theorem mr_26 : (MW θ ad n g r)[12]? = some (ad 26, .inl (θ.2.1, 30, .inl (r 26))) := rfl
theorem ms_26 {F : Nat → Int32} : (MW θ ad n g r).set 12 (ad 26, .inl (θ.2.1, 30, .inl F)) = MW θ ad n g (va_up r 26 F) := rfl
theorem mf_28 : (mfs ad n g)[28]? = some (.ref (ad 28)) := rfl
theorem mr_28 : (MW θ ad n g r)[13]? = some (ad 28, .inl (θ.2.1, 6, .inl (r 28))) := rfl
theorem ms_28 {F : Nat → Int32} : (MW θ ad n g r).set 13 (ad 28, .inl (θ.2.1, 6, .inl F)) = MW θ ad n g (va_up r 28 F) := rfl
theorem mf_29 : (mfs ad n g)[29]? = some (.ref (ad 29)) := rfl
theorem mr_29 : (MW θ ad n g r)[14]? = some (ad 29, .inl (θ.2.1, 6, .inl (r 29))) := rfl
theorem ms_29 {F : Nat → Int32} : (MW θ ad n g r).set 14 (ad 29, .inl (θ.2.1, 6, .inl F)) = MW θ ad n g (va_up r 29 F) := rfl
theorem mf_30 : (mfs ad n g)[30]? = some (.ref (ad 30)) := rfl
theorem mr_30 : (MW θ ad n g r)[15]? = some (ad 30, .inl (θ.2.1, 30, .inl (r 30))) := rfl
theorem ms_30 {F : Nat → Int32} : (MW θ ad n g r).set 15 (ad 30, .inl (θ.2.1, 30, .inl F)) = MW θ ad n g (va_up r 30 F) := rfl
theorem mf_31 : (mfs ad n g)[31]? = some (.ref (ad 31)) := rfl
theorem mr_31 : (MW θ ad n g r)[16]? = some (ad 31, .inl (θ.2.1, 166, .inl (r 31))) := rfl
theorem ms_31 {F : Nat → Int32} : (MW θ ad n g r).set 16 (ad 31, .inl (θ.2.1, 166, .inl F)) = MW θ ad n g (va_up r 31 F) := rfl
theorem mf_32 : (mfs ad n g)[32]? = some (.ref (ad 32)) := rfl
theorem mr_32 : (MW θ ad n g r)[17]? = some (ad 32, .inl (θ.2.2.1, 2, .inl (r 32))) := rfl
theorem ms_32 {F : Nat → Int32} : (MW θ ad n g r).set 17 (ad 32, .inl (θ.2.2.1, 2, .inl F)) = MW θ ad n g (va_up r 32 F) := rfl
theorem z_mg (C : zC κ l0 cc n0 RX6 Ts kf θ) {v : Value} (hin : ∀ w ∈ wsX60, w ∈ Ts) (j : Nat) (hj : j < 33) (hm : Cond.fieldLink RX6 index (TX6 j).1 (TX6 j).2.1 (TX6 j).2.2.1 ∈ Ts) (hv : (mfs ad n g)[j]? = some v) (hd : decode cc pc = .ok (.getfield index, 3)) (kk : Z κ (MW θ ad n g r) (pc + 3) lv (v :: st)) : Z κ (MW θ ad n g r) pc lv (.ref (ad 0) :: st) := z_get C hin 0 rfl rfl j hj hm hv hd kk
theorem z_mp (C : zC κ l0 cc n0 RX6 Ts kf θ) {v : Int32} {Y : va_W} (hin : ∀ w ∈ wsX60, w ∈ Ts) (j : Nat) (hj : j < 33) (hm : Cond.fieldLink RX6 index (TX6 j).1 (TX6 j).2.1 (TX6 j).2.2.1 ∈ Ts) (hf : (TX6 j).2.2.2 = false) (ht : tyX6 j = .int) (hY : (MW θ ad n g r).set 0 (ad 0, .inr (6, (mfs ad n g).set j (.int v))) = Y) (hd : decode cc pc = .ok (.putfield index, 3)) (kk : Z κ Y (pc + 3) lv st) : Z κ (MW θ ad n g r) pc lv (.int v :: .ref (ad 0) :: st) := z_put C hin tyX6 tyX6_ok nmX6 0 rfl rfl j hj hm hf ht rfl rfl hj Y hY hd kk

end ZQ
