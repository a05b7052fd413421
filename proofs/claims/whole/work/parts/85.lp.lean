/-! the law: its rows -/
section LP
variable {κ : zX} {l0 : Launch} {cc : ByteArray} {n0 : Nat} {own : String} {Ts : List Cond} {R0 : Room} {θ : zH} {X : va_W} {kc ks : Nat} {pc : Nat} {lv : List (Nat × Value)} {st : List Value}
theorem y_nez (C : yC κ l0 cc n0 own Ts R0 θ) {x v : Int32} (t1 t2 : Nat) (hv : (x = 0 ∧ v = nI 0) ∨ (¬ x = 0 ∧ v = nI 1)) (d1 : decode cc pc = .ok (.ifCond .eq 7, 3)) (d2 : decode cc (pc + 3) = .ok (.iconst 1, 1)) (d3 : decode cc (pc + 3 + 1) = .ok (.goto 4, 3)) (e1 : pc + 7 = t1) (d4 : decode cc t1 = .ok (.iconst 0, 1)) (e2 : t1 + 1 = t2) (kk : yJ κ X kc ks t2 lv (.int v :: st)) : yJ κ X kc ks pc lv (.int x :: st) := by
  refine y_if_eq C t1 d1 (by omega) (fun h => ?_) (fun h => ?_)
  · have hv0 : v = nI 0 := by
      rcases hv with q | q
      · exact q.2
      · exact absurd h q.1
    refine y_iconst C (v := nI 0) d4 (by decide) ?_
    rw [e2, ← hv0]
    exact kk
  · have hv1 : v = nI 1 := by
      rcases hv with q | q
      · exact absurd q.1 h
      · exact q.2
    refine y_iconst C (v := nI 1) d2 (by decide) ?_
    refine y_goto C t2 d3 (by omega) ?_
    rw [← hv1]
    exact kk
end LP
/-- where a call of the law ends well -/
def lB (κ : zX) (θ : zH) (ea : Nat → Nat → Nat) (ad ad' : Nat → Nat) (pc : Nat) (lv : List (Nat × Value)) : Prop := ∀ (n : Nat → Nat) (g : Nat → Int32) (b : Nat → Bool) (r : Nat → Nat → Int32) (V : Nat → Ev) (n' : Nat → Nat) (g' : Int32) (r' : Nat → Nat → Int32), RR n g b r V n' g' r' → yJ κ (MW θ ad' n' g' r' ++ CW θ ea ad n g b r V) 172 4010 pc lv []
section LC
variable {κ : zX} {l : Launch} {θ : zH} {ea : Nat → Nat → Nat} {ad ad' : Nat → Nat} {n : Nat → Nat} {g : Nat → Int32} {b : Nat → Bool} {r : Nat → Nat → Int32} {V : Nat → Ev} {n' : Nat → Nat} {g' : Int32} {r' : Nat → Nat → Int32} {sb L i : Nat} {xs : Nat → Int32}
set_option maxHeartbeats 2000000 in
theorem lc_feed (C : yC κ l cL_law 4 RL wsL_law room_1 θ) (hX : yS κ sb L xs) (h : RR n g b r V n' g' r') (hi : i + 4 ≤ L) (hL : L ≤ 256) (ih : lB κ θ ea ad ad' 1198 [(3, .int (nI i)), (2, .ref (ad' 0)), (1, .ref (ad 0)), (0, .ref sb)]) : yJ κ (MW θ ad' n' g' r' ++ CW θ ea ad n g b r V) 172 4010 192 [(3, .int (nI i)), (2, .ref (ad' 0)), (1, .ref (ad 0)), (0, .ref sb)] [] := by
  obtain ⟨P, P', h1, h2, h3⟩ := st_feed (l := l) (θ := θ) (ea := ea) (ad := ad) (ad' := ad') h (xs (i + 1))
  refine y_aload_n C dL_law_192 rfl (show zlk _ 1 = some (.ref (ad 0)) from rfl) ?_
  refine y_aload_n C dL_law_193 rfl (show zlk _ 0 = some (.ref (sb)) from rfl) ?_
  refine y_iload_n C dL_law_194 rfl (show zlk _ 3 = some (.int (nI i)) from rfl) ?_
  refine y_iconst C (v := nI 1) dL_law_195 (by decide) ?_
  refine y_iadd C dL_law_196 ?_
  refine y_sld C hX (i + 1) (nI_add i 1) (by omega) (by omega) dL_law_197 ?_
  refine y_callVi C (As := [.int (xs (i + 1))]) (rest := []) h1 gL_law_X5_feed rfl 1 (by decide +kernel) ⟨Nat.le_of_ble_eq_true rfl, Nat.le_of_ble_eq_true rfl⟩ ⟨Nat.le_of_ble_eq_true rfl, Nat.le_of_ble_eq_true rfl⟩ 0 cc_0 rfl rfl rfl rfl (Nat.le_of_ble_eq_true rfl) dL_law_198 (fun x Y hY => ?_)
  refine y_aload_n C dL_law_201 rfl (show zlk _ 2 = some (.ref (ad' 0)) from rfl) ?_
  refine y_aload_n C dL_law_202 rfl (show zlk _ 0 = some (.ref (sb)) from rfl) ?_
  refine y_iload_n C dL_law_203 rfl (show zlk _ 3 = some (.int (nI i)) from rfl) ?_
  refine y_iconst C (v := nI 1) dL_law_204 (by decide) ?_
  refine y_iadd C dL_law_205 ?_
  refine y_sld C hX (i + 1) (nI_add i 1) (by omega) (by omega) dL_law_206 ?_
  refine y_perm List.perm_append_comm ?_
  refine y_callVi C (As := [.int (xs (i + 1))]) (rest := [.int x]) h2 gL_law_X6_feed rfl 1 (by decide +kernel) ⟨Nat.le_of_ble_eq_true rfl, Nat.le_of_ble_eq_true rfl⟩ ⟨Nat.le_of_ble_eq_true rfl, Nat.le_of_ble_eq_true rfl⟩ 0 (show (MW θ ad' n' g' r')[0]? = some (ad' 0, .inr (6, mfs ad' n' g')) from rfl) rfl rfl rfl rfl (Nat.le_of_ble_eq_true rfl) dL_law_207 (fun x' Y' hY' => ?_)
  obtain ⟨rfl, n1, g1, b1, r1, V1, n1', g1', r1', rfl, rfl, hR⟩ := h3 x Y x' Y' hY hY'
  refine y_perm List.perm_append_comm ?_
  refine y_icmp_eq C 1198 dL_law_210 (by decide) (fun _ => ?_) (fun c => absurd rfl c)
  exact ih _ _ _ _ _ _ _ _ hR
set_option maxHeartbeats 2000000 in
theorem lc_capital (C : yC κ l cL_law 4 RL wsL_law room_1 θ) (hX : yS κ sb L xs) (h : RR n g b r V n' g' r') (hi : i + 4 ≤ L) (hL : L ≤ 256) (ih : lB κ θ ea ad ad' 1198 [(3, .int (nI i)), (2, .ref (ad' 0)), (1, .ref (ad 0)), (0, .ref sb)]) : yJ κ (MW θ ad' n' g' r' ++ CW θ ea ad n g b r V) 172 4010 215 [(3, .int (nI i)), (2, .ref (ad' 0)), (1, .ref (ad 0)), (0, .ref sb)] [] := by
  obtain ⟨P, P', h1, h2, h3⟩ := st_capital (l := l) (θ := θ) (ea := ea) (ad := ad) (ad' := ad') h 
  refine y_aload_n C dL_law_215 rfl (show zlk _ 1 = some (.ref (ad 0)) from rfl) ?_
  refine y_callVi C (As := []) (rest := []) h1 gL_law_X5_capital rfl 0 (by decide +kernel) ⟨Nat.le_of_ble_eq_true rfl, Nat.le_of_ble_eq_true rfl⟩ ⟨Nat.le_of_ble_eq_true rfl, Nat.le_of_ble_eq_true rfl⟩ 0 cc_0 rfl rfl rfl rfl (Nat.le_of_ble_eq_true rfl) dL_law_216 (fun x Y hY => ?_)
  refine y_aload_n C dL_law_219 rfl (show zlk _ 2 = some (.ref (ad' 0)) from rfl) ?_
  refine y_perm List.perm_append_comm ?_
  refine y_callVi C (As := []) (rest := [.int x]) h2 gL_law_X6_capital rfl 0 (by decide +kernel) ⟨Nat.le_of_ble_eq_true rfl, Nat.le_of_ble_eq_true rfl⟩ ⟨Nat.le_of_ble_eq_true rfl, Nat.le_of_ble_eq_true rfl⟩ 0 (show (MW θ ad' n' g' r')[0]? = some (ad' 0, .inr (6, mfs ad' n' g')) from rfl) rfl rfl rfl rfl (Nat.le_of_ble_eq_true rfl) dL_law_220 (fun x' Y' hY' => ?_)
  obtain ⟨rfl, n1, g1, b1, r1, V1, n1', g1', r1', rfl, rfl, hR⟩ := h3 x Y x' Y' hY hY'
  refine y_perm List.perm_append_comm ?_
  refine y_icmp_eq C 1198 dL_law_223 (by decide) (fun _ => ?_) (fun c => absurd rfl c)
  exact ih _ _ _ _ _ _ _ _ hR
set_option maxHeartbeats 2000000 in
theorem lc_fault (C : yC κ l cL_law 4 RL wsL_law room_1 θ) (hX : yS κ sb L xs) (h : RR n g b r V n' g' r') (hi : i + 4 ≤ L) (hL : L ≤ 256) (ih : lB κ θ ea ad ad' 1198 [(3, .int (nI i)), (2, .ref (ad' 0)), (1, .ref (ad 0)), (0, .ref sb)]) : yJ κ (MW θ ad' n' g' r' ++ CW θ ea ad n g b r V) 172 4010 228 [(3, .int (nI i)), (2, .ref (ad' 0)), (1, .ref (ad 0)), (0, .ref sb)] [] := by
  obtain ⟨P, P', h1, h2, h3⟩ := st_fault (l := l) (θ := θ) (ea := ea) (ad := ad) (ad' := ad') h 
  refine y_aload_n C dL_law_228 rfl (show zlk _ 1 = some (.ref (ad 0)) from rfl) ?_
  refine y_callVi C (As := []) (rest := []) h1 gL_law_X5_fault rfl 0 (by decide +kernel) ⟨Nat.le_of_ble_eq_true rfl, Nat.le_of_ble_eq_true rfl⟩ ⟨Nat.le_of_ble_eq_true rfl, Nat.le_of_ble_eq_true rfl⟩ 0 cc_0 rfl rfl rfl rfl (Nat.le_of_ble_eq_true rfl) dL_law_229 (fun x Y hY => ?_)
  refine y_aload_n C dL_law_232 rfl (show zlk _ 2 = some (.ref (ad' 0)) from rfl) ?_
  refine y_perm List.perm_append_comm ?_
  refine y_callVi C (As := []) (rest := [.int x]) h2 gL_law_X6_fault rfl 0 (by decide +kernel) ⟨Nat.le_of_ble_eq_true rfl, Nat.le_of_ble_eq_true rfl⟩ ⟨Nat.le_of_ble_eq_true rfl, Nat.le_of_ble_eq_true rfl⟩ 0 (show (MW θ ad' n' g' r')[0]? = some (ad' 0, .inr (6, mfs ad' n' g')) from rfl) rfl rfl rfl rfl (Nat.le_of_ble_eq_true rfl) dL_law_233 (fun x' Y' hY' => ?_)
  obtain ⟨rfl, n1, g1, b1, r1, V1, n1', g1', r1', rfl, rfl, hR⟩ := h3 x Y x' Y' hY hY'
  refine y_perm List.perm_append_comm ?_
  refine y_icmp_eq C 1198 dL_law_236 (by decide) (fun _ => ?_) (fun c => absurd rfl c)
  exact ih _ _ _ _ _ _ _ _ hR
set_option maxHeartbeats 2000000 in
theorem lc_told (C : yC κ l cL_law 4 RL wsL_law room_1 θ) (hX : yS κ sb L xs) (h : RR n g b r V n' g' r') (hi : i + 4 ≤ L) (hL : L ≤ 256) (ih : lB κ θ ea ad ad' 1198 [(3, .int (nI i)), (2, .ref (ad' 0)), (1, .ref (ad 0)), (0, .ref sb)]) : yJ κ (MW θ ad' n' g' r' ++ CW θ ea ad n g b r V) 172 4010 241 [(3, .int (nI i)), (2, .ref (ad' 0)), (1, .ref (ad 0)), (0, .ref sb)] [] := by
  obtain ⟨P, P', h1, h2, h3⟩ := st_told (l := l) (θ := θ) (ea := ea) (ad := ad) (ad' := ad') h (xs (i + 1))
  refine y_aload_n C dL_law_241 rfl (show zlk _ 1 = some (.ref (ad 0)) from rfl) ?_
  refine y_aload_n C dL_law_242 rfl (show zlk _ 0 = some (.ref (sb)) from rfl) ?_
  refine y_iload_n C dL_law_243 rfl (show zlk _ 3 = some (.int (nI i)) from rfl) ?_
  refine y_iconst C (v := nI 1) dL_law_244 (by decide) ?_
  refine y_iadd C dL_law_245 ?_
  refine y_sld C hX (i + 1) (nI_add i 1) (by omega) (by omega) dL_law_246 ?_
  refine y_callVi C (As := [.int (xs (i + 1))]) (rest := []) h1 gL_law_X5_told rfl 1 (by decide +kernel) ⟨Nat.le_of_ble_eq_true rfl, Nat.le_of_ble_eq_true rfl⟩ ⟨Nat.le_of_ble_eq_true rfl, Nat.le_of_ble_eq_true rfl⟩ 0 cc_0 rfl rfl rfl rfl (Nat.le_of_ble_eq_true rfl) dL_law_247 (fun x Y hY => ?_)
  refine y_aload_n C dL_law_250 rfl (show zlk _ 2 = some (.ref (ad' 0)) from rfl) ?_
  refine y_aload_n C dL_law_251 rfl (show zlk _ 0 = some (.ref (sb)) from rfl) ?_
  refine y_iload_n C dL_law_252 rfl (show zlk _ 3 = some (.int (nI i)) from rfl) ?_
  refine y_iconst C (v := nI 1) dL_law_253 (by decide) ?_
  refine y_iadd C dL_law_254 ?_
  refine y_sld C hX (i + 1) (nI_add i 1) (by omega) (by omega) dL_law_255 ?_
  refine y_perm List.perm_append_comm ?_
  refine y_callVi C (As := [.int (xs (i + 1))]) (rest := [.int x]) h2 gL_law_X6_told rfl 1 (by decide +kernel) ⟨Nat.le_of_ble_eq_true rfl, Nat.le_of_ble_eq_true rfl⟩ ⟨Nat.le_of_ble_eq_true rfl, Nat.le_of_ble_eq_true rfl⟩ 0 (show (MW θ ad' n' g' r')[0]? = some (ad' 0, .inr (6, mfs ad' n' g')) from rfl) rfl rfl rfl rfl (Nat.le_of_ble_eq_true rfl) dL_law_256 (fun x' Y' hY' => ?_)
  obtain ⟨rfl, n1, g1, b1, r1, V1, n1', g1', r1', rfl, rfl, hR⟩ := h3 x Y x' Y' hY hY'
  refine y_perm List.perm_append_comm ?_
  refine y_icmp_eq C 1198 dL_law_259 (by decide) (fun _ => ?_) (fun c => absurd rfl c)
  exact ih _ _ _ _ _ _ _ _ hR
set_option maxHeartbeats 2000000 in
theorem lc_sitter (C : yC κ l cL_law 4 RL wsL_law room_1 θ) (hX : yS κ sb L xs) (h : RR n g b r V n' g' r') (hi : i + 4 ≤ L) (hL : L ≤ 256) (ih : lB κ θ ea ad ad' 1198 [(3, .int (nI i)), (2, .ref (ad' 0)), (1, .ref (ad 0)), (0, .ref sb)]) : yJ κ (MW θ ad' n' g' r' ++ CW θ ea ad n g b r V) 172 4010 264 [(3, .int (nI i)), (2, .ref (ad' 0)), (1, .ref (ad 0)), (0, .ref sb)] [] := by
  obtain ⟨P, P', h1, h2, h3⟩ := st_sitter (l := l) (θ := θ) (ea := ea) (ad := ad) (ad' := ad') h (xs (i + 1)) (xs (i + 2))
  refine y_aload_n C dL_law_264 rfl (show zlk _ 1 = some (.ref (ad 0)) from rfl) ?_
  refine y_aload_n C dL_law_265 rfl (show zlk _ 0 = some (.ref (sb)) from rfl) ?_
  refine y_iload_n C dL_law_266 rfl (show zlk _ 3 = some (.int (nI i)) from rfl) ?_
  refine y_iconst C (v := nI 1) dL_law_267 (by decide) ?_
  refine y_iadd C dL_law_268 ?_
  refine y_sld C hX (i + 1) (nI_add i 1) (by omega) (by omega) dL_law_269 ?_
  refine y_aload_n C dL_law_270 rfl (show zlk _ 0 = some (.ref (sb)) from rfl) ?_
  refine y_iload_n C dL_law_271 rfl (show zlk _ 3 = some (.int (nI i)) from rfl) ?_
  refine y_iconst C (v := nI 2) dL_law_272 (by decide) ?_
  refine y_iadd C dL_law_273 ?_
  refine y_sld C hX (i + 2) (nI_add i 2) (by omega) (by omega) dL_law_274 ?_
  refine y_callVi C (As := [.int (xs (i + 1)), .int (xs (i + 2))]) (rest := []) h1 gL_law_X5_sitter rfl 2 (by decide +kernel) ⟨Nat.le_of_ble_eq_true rfl, Nat.le_of_ble_eq_true rfl⟩ ⟨Nat.le_of_ble_eq_true rfl, Nat.le_of_ble_eq_true rfl⟩ 0 cc_0 rfl rfl rfl rfl (Nat.le_of_ble_eq_true rfl) dL_law_275 (fun x Y hY => ?_)
  refine y_aload_n C dL_law_278 rfl (show zlk _ 2 = some (.ref (ad' 0)) from rfl) ?_
  refine y_aload_n C dL_law_279 rfl (show zlk _ 0 = some (.ref (sb)) from rfl) ?_
  refine y_iload_n C dL_law_280 rfl (show zlk _ 3 = some (.int (nI i)) from rfl) ?_
  refine y_iconst C (v := nI 1) dL_law_281 (by decide) ?_
  refine y_iadd C dL_law_282 ?_
  refine y_sld C hX (i + 1) (nI_add i 1) (by omega) (by omega) dL_law_283 ?_
  refine y_aload_n C dL_law_284 rfl (show zlk _ 0 = some (.ref (sb)) from rfl) ?_
  refine y_iload_n C dL_law_285 rfl (show zlk _ 3 = some (.int (nI i)) from rfl) ?_
  refine y_iconst C (v := nI 2) dL_law_286 (by decide) ?_
  refine y_iadd C dL_law_287 ?_
  refine y_sld C hX (i + 2) (nI_add i 2) (by omega) (by omega) dL_law_288 ?_
  refine y_perm List.perm_append_comm ?_
  refine y_callVi C (As := [.int (xs (i + 1)), .int (xs (i + 2))]) (rest := [.int x]) h2 gL_law_X6_sitter rfl 2 (by decide +kernel) ⟨Nat.le_of_ble_eq_true rfl, Nat.le_of_ble_eq_true rfl⟩ ⟨Nat.le_of_ble_eq_true rfl, Nat.le_of_ble_eq_true rfl⟩ 0 (show (MW θ ad' n' g' r')[0]? = some (ad' 0, .inr (6, mfs ad' n' g')) from rfl) rfl rfl rfl rfl (Nat.le_of_ble_eq_true rfl) dL_law_289 (fun x' Y' hY' => ?_)
  obtain ⟨rfl, n1, g1, b1, r1, V1, n1', g1', r1', rfl, rfl, hR⟩ := h3 x Y x' Y' hY hY'
  refine y_perm List.perm_append_comm ?_
  refine y_icmp_eq C 1198 dL_law_292 (by decide) (fun _ => ?_) (fun c => absurd rfl c)
  exact ih _ _ _ _ _ _ _ _ hR
set_option maxHeartbeats 2000000 in
theorem lc_window (C : yC κ l cL_law 4 RL wsL_law room_1 θ) (hX : yS κ sb L xs) (h : RR n g b r V n' g' r') (hi : i + 4 ≤ L) (hL : L ≤ 256) (ih : lB κ θ ea ad ad' 1198 [(3, .int (nI i)), (2, .ref (ad' 0)), (1, .ref (ad 0)), (0, .ref sb)]) : yJ κ (MW θ ad' n' g' r' ++ CW θ ea ad n g b r V) 172 4010 297 [(3, .int (nI i)), (2, .ref (ad' 0)), (1, .ref (ad 0)), (0, .ref sb)] [] := by
  obtain ⟨P, P', h1, h2, h3⟩ := st_window (l := l) (θ := θ) (ea := ea) (ad := ad) (ad' := ad') h (xs (i + 1)) (xs (i + 2))
  refine y_aload_n C dL_law_297 rfl (show zlk _ 1 = some (.ref (ad 0)) from rfl) ?_
  refine y_aload_n C dL_law_298 rfl (show zlk _ 0 = some (.ref (sb)) from rfl) ?_
  refine y_iload_n C dL_law_299 rfl (show zlk _ 3 = some (.int (nI i)) from rfl) ?_
  refine y_iconst C (v := nI 1) dL_law_300 (by decide) ?_
  refine y_iadd C dL_law_301 ?_
  refine y_sld C hX (i + 1) (nI_add i 1) (by omega) (by omega) dL_law_302 ?_
  refine y_aload_n C dL_law_303 rfl (show zlk _ 0 = some (.ref (sb)) from rfl) ?_
  refine y_iload_n C dL_law_304 rfl (show zlk _ 3 = some (.int (nI i)) from rfl) ?_
  refine y_iconst C (v := nI 2) dL_law_305 (by decide) ?_
  refine y_iadd C dL_law_306 ?_
  refine y_sld C hX (i + 2) (nI_add i 2) (by omega) (by omega) dL_law_307 ?_
  refine y_callVi C (As := [.int (xs (i + 1)), .int (xs (i + 2))]) (rest := []) h1 gL_law_X5_window rfl 2 (by decide +kernel) ⟨Nat.le_of_ble_eq_true rfl, Nat.le_of_ble_eq_true rfl⟩ ⟨Nat.le_of_ble_eq_true rfl, Nat.le_of_ble_eq_true rfl⟩ 0 cc_0 rfl rfl rfl rfl (Nat.le_of_ble_eq_true rfl) dL_law_308 (fun x Y hY => ?_)
  refine y_aload_n C dL_law_311 rfl (show zlk _ 2 = some (.ref (ad' 0)) from rfl) ?_
  refine y_aload_n C dL_law_312 rfl (show zlk _ 0 = some (.ref (sb)) from rfl) ?_
  refine y_iload_n C dL_law_313 rfl (show zlk _ 3 = some (.int (nI i)) from rfl) ?_
  refine y_iconst C (v := nI 1) dL_law_314 (by decide) ?_
  refine y_iadd C dL_law_315 ?_
  refine y_sld C hX (i + 1) (nI_add i 1) (by omega) (by omega) dL_law_316 ?_
  refine y_aload_n C dL_law_317 rfl (show zlk _ 0 = some (.ref (sb)) from rfl) ?_
  refine y_iload_n C dL_law_318 rfl (show zlk _ 3 = some (.int (nI i)) from rfl) ?_
  refine y_iconst C (v := nI 2) dL_law_319 (by decide) ?_
  refine y_iadd C dL_law_320 ?_
  refine y_sld C hX (i + 2) (nI_add i 2) (by omega) (by omega) dL_law_321 ?_
  refine y_perm List.perm_append_comm ?_
  refine y_callVi C (As := [.int (xs (i + 1)), .int (xs (i + 2))]) (rest := [.int x]) h2 gL_law_X6_window rfl 2 (by decide +kernel) ⟨Nat.le_of_ble_eq_true rfl, Nat.le_of_ble_eq_true rfl⟩ ⟨Nat.le_of_ble_eq_true rfl, Nat.le_of_ble_eq_true rfl⟩ 0 (show (MW θ ad' n' g' r')[0]? = some (ad' 0, .inr (6, mfs ad' n' g')) from rfl) rfl rfl rfl rfl (Nat.le_of_ble_eq_true rfl) dL_law_322 (fun x' Y' hY' => ?_)
  obtain ⟨rfl, n1, g1, b1, r1, V1, n1', g1', r1', rfl, rfl, hR⟩ := h3 x Y x' Y' hY hY'
  refine y_perm List.perm_append_comm ?_
  refine y_icmp_eq C 1198 dL_law_325 (by decide) (fun _ => ?_) (fun c => absurd rfl c)
  exact ih _ _ _ _ _ _ _ _ hR
set_option maxHeartbeats 2000000 in
theorem lc_album (C : yC κ l cL_law 4 RL wsL_law room_1 θ) (hX : yS κ sb L xs) (h : RR n g b r V n' g' r') (hi : i + 4 ≤ L) (hL : L ≤ 256) (ih : lB κ θ ea ad ad' 1198 [(3, .int (nI i)), (2, .ref (ad' 0)), (1, .ref (ad 0)), (0, .ref sb)]) : yJ κ (MW θ ad' n' g' r' ++ CW θ ea ad n g b r V) 172 4010 330 [(3, .int (nI i)), (2, .ref (ad' 0)), (1, .ref (ad 0)), (0, .ref sb)] [] := by
  obtain ⟨P, P', h1, h2, h3⟩ := st_album (l := l) (θ := θ) (ea := ea) (ad := ad) (ad' := ad') h (xs (i + 1)) (xs (i + 2))
  refine y_aload_n C dL_law_330 rfl (show zlk _ 1 = some (.ref (ad 0)) from rfl) ?_
  refine y_aload_n C dL_law_331 rfl (show zlk _ 0 = some (.ref (sb)) from rfl) ?_
  refine y_iload_n C dL_law_332 rfl (show zlk _ 3 = some (.int (nI i)) from rfl) ?_
  refine y_iconst C (v := nI 1) dL_law_333 (by decide) ?_
  refine y_iadd C dL_law_334 ?_
  refine y_sld C hX (i + 1) (nI_add i 1) (by omega) (by omega) dL_law_335 ?_
  refine y_aload_n C dL_law_336 rfl (show zlk _ 0 = some (.ref (sb)) from rfl) ?_
  refine y_iload_n C dL_law_337 rfl (show zlk _ 3 = some (.int (nI i)) from rfl) ?_
  refine y_iconst C (v := nI 2) dL_law_338 (by decide) ?_
  refine y_iadd C dL_law_339 ?_
  refine y_sld C hX (i + 2) (nI_add i 2) (by omega) (by omega) dL_law_340 ?_
  refine y_callVi C (As := [.int (xs (i + 1)), .int (xs (i + 2))]) (rest := []) h1 gL_law_X5_album rfl 2 (by decide +kernel) ⟨Nat.le_of_ble_eq_true rfl, Nat.le_of_ble_eq_true rfl⟩ ⟨Nat.le_of_ble_eq_true rfl, Nat.le_of_ble_eq_true rfl⟩ 0 cc_0 rfl rfl rfl rfl (Nat.le_of_ble_eq_true rfl) dL_law_341 (fun x Y hY => ?_)
  refine y_aload_n C dL_law_344 rfl (show zlk _ 2 = some (.ref (ad' 0)) from rfl) ?_
  refine y_aload_n C dL_law_345 rfl (show zlk _ 0 = some (.ref (sb)) from rfl) ?_
  refine y_iload_n C dL_law_346 rfl (show zlk _ 3 = some (.int (nI i)) from rfl) ?_
  refine y_iconst C (v := nI 1) dL_law_347 (by decide) ?_
  refine y_iadd C dL_law_348 ?_
  refine y_sld C hX (i + 1) (nI_add i 1) (by omega) (by omega) dL_law_349 ?_
  refine y_aload_n C dL_law_350 rfl (show zlk _ 0 = some (.ref (sb)) from rfl) ?_
  refine y_iload_n C dL_law_351 rfl (show zlk _ 3 = some (.int (nI i)) from rfl) ?_
  refine y_iconst C (v := nI 2) dL_law_352 (by decide) ?_
  refine y_iadd C dL_law_353 ?_
  refine y_sld C hX (i + 2) (nI_add i 2) (by omega) (by omega) dL_law_354 ?_
  refine y_perm List.perm_append_comm ?_
  refine y_callVi C (As := [.int (xs (i + 1)), .int (xs (i + 2))]) (rest := [.int x]) h2 gL_law_X6_album rfl 2 (by decide +kernel) ⟨Nat.le_of_ble_eq_true rfl, Nat.le_of_ble_eq_true rfl⟩ ⟨Nat.le_of_ble_eq_true rfl, Nat.le_of_ble_eq_true rfl⟩ 0 (show (MW θ ad' n' g' r')[0]? = some (ad' 0, .inr (6, mfs ad' n' g')) from rfl) rfl rfl rfl rfl (Nat.le_of_ble_eq_true rfl) dL_law_355 (fun x' Y' hY' => ?_)
  obtain ⟨rfl, n1, g1, b1, r1, V1, n1', g1', r1', rfl, rfl, hR⟩ := h3 x Y x' Y' hY hY'
  refine y_perm List.perm_append_comm ?_
  refine y_icmp_eq C 1198 dL_law_358 (by decide) (fun _ => ?_) (fun c => absurd rfl c)
  exact ih _ _ _ _ _ _ _ _ hR
set_option maxHeartbeats 2000000 in
theorem lc_glass (C : yC κ l cL_law 4 RL wsL_law room_1 θ) (hX : yS κ sb L xs) (h : RR n g b r V n' g' r') (hi : i + 4 ≤ L) (hL : L ≤ 256) (ih : lB κ θ ea ad ad' 1198 [(3, .int (nI i)), (2, .ref (ad' 0)), (1, .ref (ad 0)), (0, .ref sb)]) : yJ κ (MW θ ad' n' g' r' ++ CW θ ea ad n g b r V) 172 4010 363 [(3, .int (nI i)), (2, .ref (ad' 0)), (1, .ref (ad 0)), (0, .ref sb)] [] := by
  obtain ⟨P, P', h1, h2, h3⟩ := st_glass (l := l) (θ := θ) (ea := ea) (ad := ad) (ad' := ad') h (xs (i + 1))
  refine y_aload_n C dL_law_363 rfl (show zlk _ 1 = some (.ref (ad 0)) from rfl) ?_
  refine y_aload_n C dL_law_364 rfl (show zlk _ 0 = some (.ref (sb)) from rfl) ?_
  refine y_iload_n C dL_law_365 rfl (show zlk _ 3 = some (.int (nI i)) from rfl) ?_
  refine y_iconst C (v := nI 1) dL_law_366 (by decide) ?_
  refine y_iadd C dL_law_367 ?_
  refine y_sld C hX (i + 1) (nI_add i 1) (by omega) (by omega) dL_law_368 ?_
  refine y_callVi C (As := [.int (xs (i + 1))]) (rest := []) h1 gL_law_X5_glass rfl 1 (by decide +kernel) ⟨Nat.le_of_ble_eq_true rfl, Nat.le_of_ble_eq_true rfl⟩ ⟨Nat.le_of_ble_eq_true rfl, Nat.le_of_ble_eq_true rfl⟩ 0 cc_0 rfl rfl rfl rfl (Nat.le_of_ble_eq_true rfl) dL_law_369 (fun x Y hY => ?_)
  refine y_aload_n C dL_law_372 rfl (show zlk _ 2 = some (.ref (ad' 0)) from rfl) ?_
  refine y_aload_n C dL_law_373 rfl (show zlk _ 0 = some (.ref (sb)) from rfl) ?_
  refine y_iload_n C dL_law_374 rfl (show zlk _ 3 = some (.int (nI i)) from rfl) ?_
  refine y_iconst C (v := nI 1) dL_law_375 (by decide) ?_
  refine y_iadd C dL_law_376 ?_
  refine y_sld C hX (i + 1) (nI_add i 1) (by omega) (by omega) dL_law_377 ?_
  refine y_perm List.perm_append_comm ?_
  refine y_callVi C (As := [.int (xs (i + 1))]) (rest := [.int x]) h2 gL_law_X6_glass rfl 1 (by decide +kernel) ⟨Nat.le_of_ble_eq_true rfl, Nat.le_of_ble_eq_true rfl⟩ ⟨Nat.le_of_ble_eq_true rfl, Nat.le_of_ble_eq_true rfl⟩ 0 (show (MW θ ad' n' g' r')[0]? = some (ad' 0, .inr (6, mfs ad' n' g')) from rfl) rfl rfl rfl rfl (Nat.le_of_ble_eq_true rfl) dL_law_378 (fun x' Y' hY' => ?_)
  obtain ⟨rfl, n1, g1, b1, r1, V1, n1', g1', r1', rfl, rfl, hR⟩ := h3 x Y x' Y' hY hY'
  refine y_perm List.perm_append_comm ?_
  refine y_icmp_eq C 1198 dL_law_381 (by decide) (fun _ => ?_) (fun c => absurd rfl c)
  exact ih _ _ _ _ _ _ _ _ hR
set_option maxHeartbeats 2000000 in
theorem lc_stand (C : yC κ l cL_law 4 RL wsL_law room_1 θ) (hX : yS κ sb L xs) (h : RR n g b r V n' g' r') (hi : i + 4 ≤ L) (hL : L ≤ 256) (ih : lB κ θ ea ad ad' 1198 [(3, .int (nI i)), (2, .ref (ad' 0)), (1, .ref (ad 0)), (0, .ref sb)]) : yJ κ (MW θ ad' n' g' r' ++ CW θ ea ad n g b r V) 172 4010 386 [(3, .int (nI i)), (2, .ref (ad' 0)), (1, .ref (ad 0)), (0, .ref sb)] [] := by
  obtain ⟨P, P', h1, h2, h3⟩ := st_stand (l := l) (θ := θ) (ea := ea) (ad := ad) (ad' := ad') h (xs (i + 1)) (xs (i + 2))
  refine y_aload_n C dL_law_386 rfl (show zlk _ 1 = some (.ref (ad 0)) from rfl) ?_
  refine y_aload_n C dL_law_387 rfl (show zlk _ 0 = some (.ref (sb)) from rfl) ?_
  refine y_iload_n C dL_law_388 rfl (show zlk _ 3 = some (.int (nI i)) from rfl) ?_
  refine y_iconst C (v := nI 1) dL_law_389 (by decide) ?_
  refine y_iadd C dL_law_390 ?_
  refine y_sld C hX (i + 1) (nI_add i 1) (by omega) (by omega) dL_law_391 ?_
  refine y_aload_n C dL_law_392 rfl (show zlk _ 0 = some (.ref (sb)) from rfl) ?_
  refine y_iload_n C dL_law_393 rfl (show zlk _ 3 = some (.int (nI i)) from rfl) ?_
  refine y_iconst C (v := nI 2) dL_law_394 (by decide) ?_
  refine y_iadd C dL_law_395 ?_
  refine y_sld C hX (i + 2) (nI_add i 2) (by omega) (by omega) dL_law_396 ?_
  refine y_callVi C (As := [.int (xs (i + 1)), .int (xs (i + 2))]) (rest := []) h1 gL_law_X5_stand rfl 2 (by decide +kernel) ⟨Nat.le_of_ble_eq_true rfl, Nat.le_of_ble_eq_true rfl⟩ ⟨Nat.le_of_ble_eq_true rfl, Nat.le_of_ble_eq_true rfl⟩ 0 cc_0 rfl rfl rfl rfl (Nat.le_of_ble_eq_true rfl) dL_law_397 (fun x Y hY => ?_)
  refine y_aload_n C dL_law_400 rfl (show zlk _ 2 = some (.ref (ad' 0)) from rfl) ?_
  refine y_aload_n C dL_law_401 rfl (show zlk _ 0 = some (.ref (sb)) from rfl) ?_
  refine y_iload_n C dL_law_402 rfl (show zlk _ 3 = some (.int (nI i)) from rfl) ?_
  refine y_iconst C (v := nI 1) dL_law_403 (by decide) ?_
  refine y_iadd C dL_law_404 ?_
  refine y_sld C hX (i + 1) (nI_add i 1) (by omega) (by omega) dL_law_405 ?_
  refine y_aload_n C dL_law_406 rfl (show zlk _ 0 = some (.ref (sb)) from rfl) ?_
  refine y_iload_n C dL_law_407 rfl (show zlk _ 3 = some (.int (nI i)) from rfl) ?_
  refine y_iconst C (v := nI 2) dL_law_408 (by decide) ?_
  refine y_iadd C dL_law_409 ?_
  refine y_sld C hX (i + 2) (nI_add i 2) (by omega) (by omega) dL_law_410 ?_
  refine y_perm List.perm_append_comm ?_
  refine y_callVi C (As := [.int (xs (i + 1)), .int (xs (i + 2))]) (rest := [.int x]) h2 gL_law_X6_stand rfl 2 (by decide +kernel) ⟨Nat.le_of_ble_eq_true rfl, Nat.le_of_ble_eq_true rfl⟩ ⟨Nat.le_of_ble_eq_true rfl, Nat.le_of_ble_eq_true rfl⟩ 0 (show (MW θ ad' n' g' r')[0]? = some (ad' 0, .inr (6, mfs ad' n' g')) from rfl) rfl rfl rfl rfl (Nat.le_of_ble_eq_true rfl) dL_law_411 (fun x' Y' hY' => ?_)
  obtain ⟨rfl, n1, g1, b1, r1, V1, n1', g1', r1', rfl, rfl, hR⟩ := h3 x Y x' Y' hY hY'
  refine y_perm List.perm_append_comm ?_
  refine y_icmp_eq C 1198 dL_law_414 (by decide) (fun _ => ?_) (fun c => absurd rfl c)
  exact ih _ _ _ _ _ _ _ _ hR
set_option maxHeartbeats 2000000 in
theorem lc_go (C : yC κ l cL_law 4 RL wsL_law room_1 θ) (hX : yS κ sb L xs) (h : RR n g b r V n' g' r') (hi : i + 4 ≤ L) (hL : L ≤ 256) (ih : lB κ θ ea ad ad' 1198 [(3, .int (nI i)), (2, .ref (ad' 0)), (1, .ref (ad 0)), (0, .ref sb)]) : yJ κ (MW θ ad' n' g' r' ++ CW θ ea ad n g b r V) 172 4010 419 [(3, .int (nI i)), (2, .ref (ad' 0)), (1, .ref (ad 0)), (0, .ref sb)] [] := by
  obtain ⟨P, P', h1, h2, h3⟩ := st_go (l := l) (θ := θ) (ea := ea) (ad := ad) (ad' := ad') h (xs (i + 1))
  refine y_aload_n C dL_law_419 rfl (show zlk _ 1 = some (.ref (ad 0)) from rfl) ?_
  refine y_aload_n C dL_law_420 rfl (show zlk _ 0 = some (.ref (sb)) from rfl) ?_
  refine y_iload_n C dL_law_421 rfl (show zlk _ 3 = some (.int (nI i)) from rfl) ?_
  refine y_iconst C (v := nI 1) dL_law_422 (by decide) ?_
  refine y_iadd C dL_law_423 ?_
  refine y_sld C hX (i + 1) (nI_add i 1) (by omega) (by omega) dL_law_424 ?_
  refine y_callVi C (As := [.int (xs (i + 1))]) (rest := []) h1 gL_law_X5_go rfl 1 (by decide +kernel) ⟨Nat.le_of_ble_eq_true rfl, Nat.le_of_ble_eq_true rfl⟩ ⟨Nat.le_of_ble_eq_true rfl, Nat.le_of_ble_eq_true rfl⟩ 0 cc_0 rfl rfl rfl rfl (Nat.le_of_ble_eq_true rfl) dL_law_425 (fun x Y hY => ?_)
  refine y_aload_n C dL_law_428 rfl (show zlk _ 2 = some (.ref (ad' 0)) from rfl) ?_
  refine y_aload_n C dL_law_429 rfl (show zlk _ 0 = some (.ref (sb)) from rfl) ?_
  refine y_iload_n C dL_law_430 rfl (show zlk _ 3 = some (.int (nI i)) from rfl) ?_
  refine y_iconst C (v := nI 1) dL_law_431 (by decide) ?_
  refine y_iadd C dL_law_432 ?_
  refine y_sld C hX (i + 1) (nI_add i 1) (by omega) (by omega) dL_law_433 ?_
  refine y_perm List.perm_append_comm ?_
  refine y_callVi C (As := [.int (xs (i + 1))]) (rest := [.int x]) h2 gL_law_X6_go rfl 1 (by decide +kernel) ⟨Nat.le_of_ble_eq_true rfl, Nat.le_of_ble_eq_true rfl⟩ ⟨Nat.le_of_ble_eq_true rfl, Nat.le_of_ble_eq_true rfl⟩ 0 (show (MW θ ad' n' g' r')[0]? = some (ad' 0, .inr (6, mfs ad' n' g')) from rfl) rfl rfl rfl rfl (Nat.le_of_ble_eq_true rfl) dL_law_434 (fun x' Y' hY' => ?_)
  obtain ⟨rfl, n1, g1, b1, r1, V1, n1', g1', r1', rfl, rfl, hR⟩ := h3 x Y x' Y' hY hY'
  refine y_perm List.perm_append_comm ?_
  refine y_icmp_eq C 1198 dL_law_437 (by decide) (fun _ => ?_) (fun c => absurd rfl c)
  exact ih _ _ _ _ _ _ _ _ hR
set_option maxHeartbeats 2000000 in
theorem lc_lamp (C : yC κ l cL_law 4 RL wsL_law room_1 θ) (hX : yS κ sb L xs) (h : RR n g b r V n' g' r') (hi : i + 4 ≤ L) (hL : L ≤ 256) (ih : lB κ θ ea ad ad' 1198 [(3, .int (nI i)), (2, .ref (ad' 0)), (1, .ref (ad 0)), (0, .ref sb)]) : yJ κ (MW θ ad' n' g' r' ++ CW θ ea ad n g b r V) 172 4010 442 [(3, .int (nI i)), (2, .ref (ad' 0)), (1, .ref (ad 0)), (0, .ref sb)] [] := by
  obtain ⟨P, P', h1, h2, h3⟩ := st_lamp (l := l) (θ := θ) (ea := ea) (ad := ad) (ad' := ad') h (xs (i + 1)) (xs (i + 2))
  refine y_aload_n C dL_law_442 rfl (show zlk _ 1 = some (.ref (ad 0)) from rfl) ?_
  refine y_aload_n C dL_law_443 rfl (show zlk _ 0 = some (.ref (sb)) from rfl) ?_
  refine y_iload_n C dL_law_444 rfl (show zlk _ 3 = some (.int (nI i)) from rfl) ?_
  refine y_iconst C (v := nI 1) dL_law_445 (by decide) ?_
  refine y_iadd C dL_law_446 ?_
  refine y_sld C hX (i + 1) (nI_add i 1) (by omega) (by omega) dL_law_447 ?_
  refine y_aload_n C dL_law_448 rfl (show zlk _ 0 = some (.ref (sb)) from rfl) ?_
  refine y_iload_n C dL_law_449 rfl (show zlk _ 3 = some (.int (nI i)) from rfl) ?_
  refine y_iconst C (v := nI 2) dL_law_450 (by decide) ?_
  refine y_iadd C dL_law_451 ?_
  refine y_sld C hX (i + 2) (nI_add i 2) (by omega) (by omega) dL_law_452 ?_
  refine y_callVi C (As := [.int (xs (i + 1)), .int (xs (i + 2))]) (rest := []) h1 gL_law_X5_lamp rfl 2 (by decide +kernel) ⟨Nat.le_of_ble_eq_true rfl, Nat.le_of_ble_eq_true rfl⟩ ⟨Nat.le_of_ble_eq_true rfl, Nat.le_of_ble_eq_true rfl⟩ 0 cc_0 rfl rfl rfl rfl (Nat.le_of_ble_eq_true rfl) dL_law_453 (fun x Y hY => ?_)
  refine y_aload_n C dL_law_456 rfl (show zlk _ 2 = some (.ref (ad' 0)) from rfl) ?_
  refine y_aload_n C dL_law_457 rfl (show zlk _ 0 = some (.ref (sb)) from rfl) ?_
  refine y_iload_n C dL_law_458 rfl (show zlk _ 3 = some (.int (nI i)) from rfl) ?_
  refine y_iconst C (v := nI 1) dL_law_459 (by decide) ?_
  refine y_iadd C dL_law_460 ?_
  refine y_sld C hX (i + 1) (nI_add i 1) (by omega) (by omega) dL_law_461 ?_
  refine y_aload_n C dL_law_462 rfl (show zlk _ 0 = some (.ref (sb)) from rfl) ?_
  refine y_iload_n C dL_law_463 rfl (show zlk _ 3 = some (.int (nI i)) from rfl) ?_
  refine y_iconst C (v := nI 2) dL_law_464 (by decide) ?_
  refine y_iadd C dL_law_465 ?_
  refine y_sld C hX (i + 2) (nI_add i 2) (by omega) (by omega) dL_law_466 ?_
  refine y_perm List.perm_append_comm ?_
  refine y_callVi C (As := [.int (xs (i + 1)), .int (xs (i + 2))]) (rest := [.int x]) h2 gL_law_X6_lamp rfl 2 (by decide +kernel) ⟨Nat.le_of_ble_eq_true rfl, Nat.le_of_ble_eq_true rfl⟩ ⟨Nat.le_of_ble_eq_true rfl, Nat.le_of_ble_eq_true rfl⟩ 0 (show (MW θ ad' n' g' r')[0]? = some (ad' 0, .inr (6, mfs ad' n' g')) from rfl) rfl rfl rfl rfl (Nat.le_of_ble_eq_true rfl) dL_law_467 (fun x' Y' hY' => ?_)
  obtain ⟨rfl, n1, g1, b1, r1, V1, n1', g1', r1', rfl, rfl, hR⟩ := h3 x Y x' Y' hY hY'
  refine y_perm List.perm_append_comm ?_
  refine y_icmp_eq C 1198 dL_law_470 (by decide) (fun _ => ?_) (fun c => absurd rfl c)
  exact ih _ _ _ _ _ _ _ _ hR
set_option maxHeartbeats 2000000 in
theorem lc_wind (C : yC κ l cL_law 4 RL wsL_law room_1 θ) (hX : yS κ sb L xs) (h : RR n g b r V n' g' r') (hi : i + 4 ≤ L) (hL : L ≤ 256) (ih : lB κ θ ea ad ad' 1198 [(3, .int (nI i)), (2, .ref (ad' 0)), (1, .ref (ad 0)), (0, .ref sb)]) : yJ κ (MW θ ad' n' g' r' ++ CW θ ea ad n g b r V) 172 4010 475 [(3, .int (nI i)), (2, .ref (ad' 0)), (1, .ref (ad 0)), (0, .ref sb)] [] := by
  obtain ⟨P, P', h1, h2, h3⟩ := st_wind (l := l) (θ := θ) (ea := ea) (ad := ad) (ad' := ad') h (xs (i + 1))
  refine y_aload_n C dL_law_475 rfl (show zlk _ 1 = some (.ref (ad 0)) from rfl) ?_
  refine y_aload_n C dL_law_476 rfl (show zlk _ 0 = some (.ref (sb)) from rfl) ?_
  refine y_iload_n C dL_law_477 rfl (show zlk _ 3 = some (.int (nI i)) from rfl) ?_
  refine y_iconst C (v := nI 1) dL_law_478 (by decide) ?_
  refine y_iadd C dL_law_479 ?_
  refine y_sld C hX (i + 1) (nI_add i 1) (by omega) (by omega) dL_law_480 ?_
  refine y_callVi C (As := [.int (xs (i + 1))]) (rest := []) h1 gL_law_X5_wind rfl 1 (by decide +kernel) ⟨Nat.le_of_ble_eq_true rfl, Nat.le_of_ble_eq_true rfl⟩ ⟨Nat.le_of_ble_eq_true rfl, Nat.le_of_ble_eq_true rfl⟩ 0 cc_0 rfl rfl rfl rfl (Nat.le_of_ble_eq_true rfl) dL_law_481 (fun x Y hY => ?_)
  refine y_aload_n C dL_law_484 rfl (show zlk _ 2 = some (.ref (ad' 0)) from rfl) ?_
  refine y_aload_n C dL_law_485 rfl (show zlk _ 0 = some (.ref (sb)) from rfl) ?_
  refine y_iload_n C dL_law_486 rfl (show zlk _ 3 = some (.int (nI i)) from rfl) ?_
  refine y_iconst C (v := nI 1) dL_law_487 (by decide) ?_
  refine y_iadd C dL_law_488 ?_
  refine y_sld C hX (i + 1) (nI_add i 1) (by omega) (by omega) dL_law_489 ?_
  refine y_perm List.perm_append_comm ?_
  refine y_callVi C (As := [.int (xs (i + 1))]) (rest := [.int x]) h2 gL_law_X6_wind rfl 1 (by decide +kernel) ⟨Nat.le_of_ble_eq_true rfl, Nat.le_of_ble_eq_true rfl⟩ ⟨Nat.le_of_ble_eq_true rfl, Nat.le_of_ble_eq_true rfl⟩ 0 (show (MW θ ad' n' g' r')[0]? = some (ad' 0, .inr (6, mfs ad' n' g')) from rfl) rfl rfl rfl rfl (Nat.le_of_ble_eq_true rfl) dL_law_490 (fun x' Y' hY' => ?_)
  obtain ⟨rfl, n1, g1, b1, r1, V1, n1', g1', r1', rfl, rfl, hR⟩ := h3 x Y x' Y' hY hY'
  refine y_perm List.perm_append_comm ?_
  refine y_icmp_eq C 1198 dL_law_493 (by decide) (fun _ => ?_) (fun c => absurd rfl c)
  exact ih _ _ _ _ _ _ _ _ hR
set_option maxHeartbeats 2000000 in
theorem lc_bats (C : yC κ l cL_law 4 RL wsL_law room_1 θ) (hX : yS κ sb L xs) (h : RR n g b r V n' g' r') (hi : i + 4 ≤ L) (hL : L ≤ 256) (ih : lB κ θ ea ad ad' 1198 [(3, .int (nI i)), (2, .ref (ad' 0)), (1, .ref (ad 0)), (0, .ref sb)]) : yJ κ (MW θ ad' n' g' r' ++ CW θ ea ad n g b r V) 172 4010 498 [(3, .int (nI i)), (2, .ref (ad' 0)), (1, .ref (ad 0)), (0, .ref sb)] [] := by
  obtain ⟨P, P', h1, h2, h3⟩ := st_bats (l := l) (θ := θ) (ea := ea) (ad := ad) (ad' := ad') h (xs (i + 1))
  refine y_aload_n C dL_law_498 rfl (show zlk _ 1 = some (.ref (ad 0)) from rfl) ?_
  refine y_aload_n C dL_law_499 rfl (show zlk _ 0 = some (.ref (sb)) from rfl) ?_
  refine y_iload_n C dL_law_500 rfl (show zlk _ 3 = some (.int (nI i)) from rfl) ?_
  refine y_iconst C (v := nI 1) dL_law_501 (by decide) ?_
  refine y_iadd C dL_law_502 ?_
  refine y_sld C hX (i + 1) (nI_add i 1) (by omega) (by omega) dL_law_503 ?_
  refine y_callVi C (As := [.int (xs (i + 1))]) (rest := []) h1 gL_law_X5_bats rfl 1 (by decide +kernel) ⟨Nat.le_of_ble_eq_true rfl, Nat.le_of_ble_eq_true rfl⟩ ⟨Nat.le_of_ble_eq_true rfl, Nat.le_of_ble_eq_true rfl⟩ 0 cc_0 rfl rfl rfl rfl (Nat.le_of_ble_eq_true rfl) dL_law_504 (fun x Y hY => ?_)
  refine y_aload_n C dL_law_507 rfl (show zlk _ 2 = some (.ref (ad' 0)) from rfl) ?_
  refine y_aload_n C dL_law_508 rfl (show zlk _ 0 = some (.ref (sb)) from rfl) ?_
  refine y_iload_n C dL_law_509 rfl (show zlk _ 3 = some (.int (nI i)) from rfl) ?_
  refine y_iconst C (v := nI 1) dL_law_510 (by decide) ?_
  refine y_iadd C dL_law_511 ?_
  refine y_sld C hX (i + 1) (nI_add i 1) (by omega) (by omega) dL_law_512 ?_
  refine y_perm List.perm_append_comm ?_
  refine y_callVi C (As := [.int (xs (i + 1))]) (rest := [.int x]) h2 gL_law_X6_bats rfl 1 (by decide +kernel) ⟨Nat.le_of_ble_eq_true rfl, Nat.le_of_ble_eq_true rfl⟩ ⟨Nat.le_of_ble_eq_true rfl, Nat.le_of_ble_eq_true rfl⟩ 0 (show (MW θ ad' n' g' r')[0]? = some (ad' 0, .inr (6, mfs ad' n' g')) from rfl) rfl rfl rfl rfl (Nat.le_of_ble_eq_true rfl) dL_law_513 (fun x' Y' hY' => ?_)
  obtain ⟨rfl, n1, g1, b1, r1, V1, n1', g1', r1', rfl, rfl, hR⟩ := h3 x Y x' Y' hY hY'
  refine y_perm List.perm_append_comm ?_
  refine y_icmp_eq C 1198 dL_law_516 (by decide) (fun _ => ?_) (fun c => absurd rfl c)
  exact ih _ _ _ _ _ _ _ _ hR
set_option maxHeartbeats 2000000 in
theorem lc_eye (C : yC κ l cL_law 4 RL wsL_law room_1 θ) (hX : yS κ sb L xs) (h : RR n g b r V n' g' r') (hi : i + 4 ≤ L) (hL : L ≤ 256) (ih : lB κ θ ea ad ad' 1198 [(3, .int (nI i)), (2, .ref (ad' 0)), (1, .ref (ad 0)), (0, .ref sb)]) : yJ κ (MW θ ad' n' g' r' ++ CW θ ea ad n g b r V) 172 4010 521 [(3, .int (nI i)), (2, .ref (ad' 0)), (1, .ref (ad 0)), (0, .ref sb)] [] := by
  obtain ⟨P, P', h1, h2, h3⟩ := st_eye (l := l) (θ := θ) (ea := ea) (ad := ad) (ad' := ad') h (xs (i + 1))
  refine y_aload_n C dL_law_521 rfl (show zlk _ 1 = some (.ref (ad 0)) from rfl) ?_
  refine y_aload_n C dL_law_522 rfl (show zlk _ 0 = some (.ref (sb)) from rfl) ?_
  refine y_iload_n C dL_law_523 rfl (show zlk _ 3 = some (.int (nI i)) from rfl) ?_
  refine y_iconst C (v := nI 1) dL_law_524 (by decide) ?_
  refine y_iadd C dL_law_525 ?_
  refine y_sld C hX (i + 1) (nI_add i 1) (by omega) (by omega) dL_law_526 ?_
  refine y_callVi C (As := [.int (xs (i + 1))]) (rest := []) h1 gL_law_X5_eye rfl 1 (by decide +kernel) ⟨Nat.le_of_ble_eq_true rfl, Nat.le_of_ble_eq_true rfl⟩ ⟨Nat.le_of_ble_eq_true rfl, Nat.le_of_ble_eq_true rfl⟩ 0 cc_0 rfl rfl rfl rfl (Nat.le_of_ble_eq_true rfl) dL_law_527 (fun x Y hY => ?_)
  refine y_aload_n C dL_law_530 rfl (show zlk _ 2 = some (.ref (ad' 0)) from rfl) ?_
  refine y_aload_n C dL_law_531 rfl (show zlk _ 0 = some (.ref (sb)) from rfl) ?_
  refine y_iload_n C dL_law_532 rfl (show zlk _ 3 = some (.int (nI i)) from rfl) ?_
  refine y_iconst C (v := nI 1) dL_law_533 (by decide) ?_
  refine y_iadd C dL_law_534 ?_
  refine y_sld C hX (i + 1) (nI_add i 1) (by omega) (by omega) dL_law_535 ?_
  refine y_perm List.perm_append_comm ?_
  refine y_callVi C (As := [.int (xs (i + 1))]) (rest := [.int x]) h2 gL_law_X6_eye rfl 1 (by decide +kernel) ⟨Nat.le_of_ble_eq_true rfl, Nat.le_of_ble_eq_true rfl⟩ ⟨Nat.le_of_ble_eq_true rfl, Nat.le_of_ble_eq_true rfl⟩ 0 (show (MW θ ad' n' g' r')[0]? = some (ad' 0, .inr (6, mfs ad' n' g')) from rfl) rfl rfl rfl rfl (Nat.le_of_ble_eq_true rfl) dL_law_536 (fun x' Y' hY' => ?_)
  obtain ⟨rfl, n1, g1, b1, r1, V1, n1', g1', r1', rfl, rfl, hR⟩ := h3 x Y x' Y' hY hY'
  refine y_perm List.perm_append_comm ?_
  refine y_icmp_eq C 1198 dL_law_539 (by decide) (fun _ => ?_) (fun c => absurd rfl c)
  exact ih _ _ _ _ _ _ _ _ hR
set_option maxHeartbeats 2000000 in
theorem lc_rain (C : yC κ l cL_law 4 RL wsL_law room_1 θ) (hX : yS κ sb L xs) (h : RR n g b r V n' g' r') (hi : i + 4 ≤ L) (hL : L ≤ 256) (ih : lB κ θ ea ad ad' 1198 [(3, .int (nI i)), (2, .ref (ad' 0)), (1, .ref (ad 0)), (0, .ref sb)]) : yJ κ (MW θ ad' n' g' r' ++ CW θ ea ad n g b r V) 172 4010 544 [(3, .int (nI i)), (2, .ref (ad' 0)), (1, .ref (ad 0)), (0, .ref sb)] [] := by
  obtain ⟨v, hv, P, P', h1, h2, h3⟩ : ∃ v : Int32, ((xs (i + 1) = 0 ∧ v = nI 0) ∨ (¬ xs (i + 1) = 0 ∧ v = nI 1)) ∧ pS l θ ea ad ad' yX5_rain wsX5_rain 3 yX6_rain wsX6_rain 2 n g b r V n' g' r' [.int (v)] := by
    by_cases hz : xs (i + 1) = 0
    · exact ⟨nI 0, Or.inl ⟨hz, rfl⟩, st_rain_0 (l := l) (θ := θ) (ea := ea) (ad := ad) (ad' := ad') h ⟩
    · exact ⟨nI 1, Or.inr ⟨hz, rfl⟩, st_rain_1 (l := l) (θ := θ) (ea := ea) (ad := ad) (ad' := ad') h ⟩
  refine y_aload_n C dL_law_544 rfl (show zlk _ 1 = some (.ref (ad 0)) from rfl) ?_
  refine y_aload_n C dL_law_545 rfl (show zlk _ 0 = some (.ref (sb)) from rfl) ?_
  refine y_iload_n C dL_law_546 rfl (show zlk _ 3 = some (.int (nI i)) from rfl) ?_
  refine y_iconst C (v := nI 1) dL_law_547 (by decide) ?_
  refine y_iadd C dL_law_548 ?_
  refine y_sld C hX (i + 1) (nI_add i 1) (by omega) (by omega) dL_law_549 ?_
  refine y_nez C 557 558 hv dL_law_550 dL_law_553 dL_law_554 rfl dL_law_557 rfl ?_
  refine y_callVi C (As := [.int (v)]) (rest := []) h1 gL_law_X5_rain rfl 1 (by decide +kernel) ⟨Nat.le_of_ble_eq_true rfl, Nat.le_of_ble_eq_true rfl⟩ ⟨Nat.le_of_ble_eq_true rfl, Nat.le_of_ble_eq_true rfl⟩ 0 cc_0 rfl rfl rfl rfl (Nat.le_of_ble_eq_true rfl) dL_law_558 (fun x Y hY => ?_)
  refine y_aload_n C dL_law_561 rfl (show zlk _ 2 = some (.ref (ad' 0)) from rfl) ?_
  refine y_aload_n C dL_law_562 rfl (show zlk _ 0 = some (.ref (sb)) from rfl) ?_
  refine y_iload_n C dL_law_563 rfl (show zlk _ 3 = some (.int (nI i)) from rfl) ?_
  refine y_iconst C (v := nI 1) dL_law_564 (by decide) ?_
  refine y_iadd C dL_law_565 ?_
  refine y_sld C hX (i + 1) (nI_add i 1) (by omega) (by omega) dL_law_566 ?_
  refine y_nez C 574 575 hv dL_law_567 dL_law_570 dL_law_571 rfl dL_law_574 rfl ?_
  refine y_perm List.perm_append_comm ?_
  refine y_callVi C (As := [.int (v)]) (rest := [.int x]) h2 gL_law_X6_rain rfl 1 (by decide +kernel) ⟨Nat.le_of_ble_eq_true rfl, Nat.le_of_ble_eq_true rfl⟩ ⟨Nat.le_of_ble_eq_true rfl, Nat.le_of_ble_eq_true rfl⟩ 0 (show (MW θ ad' n' g' r')[0]? = some (ad' 0, .inr (6, mfs ad' n' g')) from rfl) rfl rfl rfl rfl (Nat.le_of_ble_eq_true rfl) dL_law_575 (fun x' Y' hY' => ?_)
  obtain ⟨rfl, n1, g1, b1, r1, V1, n1', g1', r1', rfl, rfl, hR⟩ := h3 x Y x' Y' hY hY'
  refine y_perm List.perm_append_comm ?_
  refine y_icmp_eq C 1198 dL_law_578 (by decide) (fun _ => ?_) (fun c => absurd rfl c)
  exact ih _ _ _ _ _ _ _ _ hR
set_option maxHeartbeats 2000000 in
theorem lc_smoke (C : yC κ l cL_law 4 RL wsL_law room_1 θ) (hX : yS κ sb L xs) (h : RR n g b r V n' g' r') (hi : i + 4 ≤ L) (hL : L ≤ 256) (ih : lB κ θ ea ad ad' 1198 [(3, .int (nI i)), (2, .ref (ad' 0)), (1, .ref (ad 0)), (0, .ref sb)]) : yJ κ (MW θ ad' n' g' r' ++ CW θ ea ad n g b r V) 172 4010 583 [(3, .int (nI i)), (2, .ref (ad' 0)), (1, .ref (ad 0)), (0, .ref sb)] [] := by
  obtain ⟨v, hv, P, P', h1, h2, h3⟩ : ∃ v : Int32, ((xs (i + 2) = 0 ∧ v = nI 0) ∨ (¬ xs (i + 2) = 0 ∧ v = nI 1)) ∧ pS l θ ea ad ad' yX5_smoke wsX5_smoke 3 yX6_smoke wsX6_smoke 2 n g b r V n' g' r' [.int (xs (i + 1)), .int (v)] := by
    by_cases hz : xs (i + 2) = 0
    · exact ⟨nI 0, Or.inl ⟨hz, rfl⟩, st_smoke_0 (l := l) (θ := θ) (ea := ea) (ad := ad) (ad' := ad') h (xs (i + 1))⟩
    · exact ⟨nI 1, Or.inr ⟨hz, rfl⟩, st_smoke_1 (l := l) (θ := θ) (ea := ea) (ad := ad) (ad' := ad') h (xs (i + 1))⟩
  refine y_aload_n C dL_law_583 rfl (show zlk _ 1 = some (.ref (ad 0)) from rfl) ?_
  refine y_aload_n C dL_law_584 rfl (show zlk _ 0 = some (.ref (sb)) from rfl) ?_
  refine y_iload_n C dL_law_585 rfl (show zlk _ 3 = some (.int (nI i)) from rfl) ?_
  refine y_iconst C (v := nI 1) dL_law_586 (by decide) ?_
  refine y_iadd C dL_law_587 ?_
  refine y_sld C hX (i + 1) (nI_add i 1) (by omega) (by omega) dL_law_588 ?_
  refine y_aload_n C dL_law_589 rfl (show zlk _ 0 = some (.ref (sb)) from rfl) ?_
  refine y_iload_n C dL_law_590 rfl (show zlk _ 3 = some (.int (nI i)) from rfl) ?_
  refine y_iconst C (v := nI 2) dL_law_591 (by decide) ?_
  refine y_iadd C dL_law_592 ?_
  refine y_sld C hX (i + 2) (nI_add i 2) (by omega) (by omega) dL_law_593 ?_
  refine y_nez C 601 602 hv dL_law_594 dL_law_597 dL_law_598 rfl dL_law_601 rfl ?_
  refine y_callVi C (As := [.int (xs (i + 1)), .int (v)]) (rest := []) h1 gL_law_X5_smoke rfl 2 (by decide +kernel) ⟨Nat.le_of_ble_eq_true rfl, Nat.le_of_ble_eq_true rfl⟩ ⟨Nat.le_of_ble_eq_true rfl, Nat.le_of_ble_eq_true rfl⟩ 0 cc_0 rfl rfl rfl rfl (Nat.le_of_ble_eq_true rfl) dL_law_602 (fun x Y hY => ?_)
  refine y_aload_n C dL_law_605 rfl (show zlk _ 2 = some (.ref (ad' 0)) from rfl) ?_
  refine y_aload_n C dL_law_606 rfl (show zlk _ 0 = some (.ref (sb)) from rfl) ?_
  refine y_iload_n C dL_law_607 rfl (show zlk _ 3 = some (.int (nI i)) from rfl) ?_
  refine y_iconst C (v := nI 1) dL_law_608 (by decide) ?_
  refine y_iadd C dL_law_609 ?_
  refine y_sld C hX (i + 1) (nI_add i 1) (by omega) (by omega) dL_law_610 ?_
  refine y_aload_n C dL_law_611 rfl (show zlk _ 0 = some (.ref (sb)) from rfl) ?_
  refine y_iload_n C dL_law_612 rfl (show zlk _ 3 = some (.int (nI i)) from rfl) ?_
  refine y_iconst C (v := nI 2) dL_law_613 (by decide) ?_
  refine y_iadd C dL_law_614 ?_
  refine y_sld C hX (i + 2) (nI_add i 2) (by omega) (by omega) dL_law_615 ?_
  refine y_nez C 623 624 hv dL_law_616 dL_law_619 dL_law_620 rfl dL_law_623 rfl ?_
  refine y_perm List.perm_append_comm ?_
  refine y_callVi C (As := [.int (xs (i + 1)), .int (v)]) (rest := [.int x]) h2 gL_law_X6_smoke rfl 2 (by decide +kernel) ⟨Nat.le_of_ble_eq_true rfl, Nat.le_of_ble_eq_true rfl⟩ ⟨Nat.le_of_ble_eq_true rfl, Nat.le_of_ble_eq_true rfl⟩ 0 (show (MW θ ad' n' g' r')[0]? = some (ad' 0, .inr (6, mfs ad' n' g')) from rfl) rfl rfl rfl rfl (Nat.le_of_ble_eq_true rfl) dL_law_624 (fun x' Y' hY' => ?_)
  obtain ⟨rfl, n1, g1, b1, r1, V1, n1', g1', r1', rfl, rfl, hR⟩ := h3 x Y x' Y' hY hY'
  refine y_perm List.perm_append_comm ?_
  refine y_icmp_eq C 1198 dL_law_627 (by decide) (fun _ => ?_) (fun c => absurd rfl c)
  exact ih _ _ _ _ _ _ _ _ hR
set_option maxHeartbeats 2000000 in
theorem lc_press (C : yC κ l cL_law 4 RL wsL_law room_1 θ) (hX : yS κ sb L xs) (h : RR n g b r V n' g' r') (hi : i + 4 ≤ L) (hL : L ≤ 256) (ih : lB κ θ ea ad ad' 1198 [(3, .int (nI i)), (2, .ref (ad' 0)), (1, .ref (ad 0)), (0, .ref sb)]) : yJ κ (MW θ ad' n' g' r' ++ CW θ ea ad n g b r V) 172 4010 632 [(3, .int (nI i)), (2, .ref (ad' 0)), (1, .ref (ad 0)), (0, .ref sb)] [] := by
  obtain ⟨P, P', h1, h2, h3⟩ := st_press (l := l) (θ := θ) (ea := ea) (ad := ad) (ad' := ad') h (xs (i + 1)) (xs (i + 2))
  refine y_aload_n C dL_law_632 rfl (show zlk _ 1 = some (.ref (ad 0)) from rfl) ?_
  refine y_aload_n C dL_law_633 rfl (show zlk _ 0 = some (.ref (sb)) from rfl) ?_
  refine y_iload_n C dL_law_634 rfl (show zlk _ 3 = some (.int (nI i)) from rfl) ?_
  refine y_iconst C (v := nI 1) dL_law_635 (by decide) ?_
  refine y_iadd C dL_law_636 ?_
  refine y_sld C hX (i + 1) (nI_add i 1) (by omega) (by omega) dL_law_637 ?_
  refine y_aload_n C dL_law_638 rfl (show zlk _ 0 = some (.ref (sb)) from rfl) ?_
  refine y_iload_n C dL_law_639 rfl (show zlk _ 3 = some (.int (nI i)) from rfl) ?_
  refine y_iconst C (v := nI 2) dL_law_640 (by decide) ?_
  refine y_iadd C dL_law_641 ?_
  refine y_sld C hX (i + 2) (nI_add i 2) (by omega) (by omega) dL_law_642 ?_
  refine y_callVi C (As := [.int (xs (i + 1)), .int (xs (i + 2))]) (rest := []) h1 gL_law_X5_press rfl 2 (by decide +kernel) ⟨Nat.le_of_ble_eq_true rfl, Nat.le_of_ble_eq_true rfl⟩ ⟨Nat.le_of_ble_eq_true rfl, Nat.le_of_ble_eq_true rfl⟩ 0 cc_0 rfl rfl rfl rfl (Nat.le_of_ble_eq_true rfl) dL_law_643 (fun x Y hY => ?_)
  refine y_aload_n C dL_law_646 rfl (show zlk _ 2 = some (.ref (ad' 0)) from rfl) ?_
  refine y_aload_n C dL_law_647 rfl (show zlk _ 0 = some (.ref (sb)) from rfl) ?_
  refine y_iload_n C dL_law_648 rfl (show zlk _ 3 = some (.int (nI i)) from rfl) ?_
  refine y_iconst C (v := nI 1) dL_law_649 (by decide) ?_
  refine y_iadd C dL_law_650 ?_
  refine y_sld C hX (i + 1) (nI_add i 1) (by omega) (by omega) dL_law_651 ?_
  refine y_aload_n C dL_law_652 rfl (show zlk _ 0 = some (.ref (sb)) from rfl) ?_
  refine y_iload_n C dL_law_653 rfl (show zlk _ 3 = some (.int (nI i)) from rfl) ?_
  refine y_iconst C (v := nI 2) dL_law_654 (by decide) ?_
  refine y_iadd C dL_law_655 ?_
  refine y_sld C hX (i + 2) (nI_add i 2) (by omega) (by omega) dL_law_656 ?_
  refine y_perm List.perm_append_comm ?_
  refine y_callVi C (As := [.int (xs (i + 1)), .int (xs (i + 2))]) (rest := [.int x]) h2 gL_law_X6_press rfl 2 (by decide +kernel) ⟨Nat.le_of_ble_eq_true rfl, Nat.le_of_ble_eq_true rfl⟩ ⟨Nat.le_of_ble_eq_true rfl, Nat.le_of_ble_eq_true rfl⟩ 0 (show (MW θ ad' n' g' r')[0]? = some (ad' 0, .inr (6, mfs ad' n' g')) from rfl) rfl rfl rfl rfl (Nat.le_of_ble_eq_true rfl) dL_law_657 (fun x' Y' hY' => ?_)
  obtain ⟨rfl, n1, g1, b1, r1, V1, n1', g1', r1', rfl, rfl, hR⟩ := h3 x Y x' Y' hY hY'
  refine y_perm List.perm_append_comm ?_
  refine y_icmp_eq C 1198 dL_law_660 (by decide) (fun _ => ?_) (fun c => absurd rfl c)
  exact ih _ _ _ _ _ _ _ _ hR
set_option maxHeartbeats 2000000 in
theorem lc_dusk (C : yC κ l cL_law 4 RL wsL_law room_1 θ) (hX : yS κ sb L xs) (h : RR n g b r V n' g' r') (hi : i + 4 ≤ L) (hL : L ≤ 256) (ih : lB κ θ ea ad ad' 1198 [(3, .int (nI i)), (2, .ref (ad' 0)), (1, .ref (ad 0)), (0, .ref sb)]) : yJ κ (MW θ ad' n' g' r' ++ CW θ ea ad n g b r V) 172 4010 665 [(3, .int (nI i)), (2, .ref (ad' 0)), (1, .ref (ad 0)), (0, .ref sb)] [] := by
  obtain ⟨P, P', h1, h2, h3⟩ := st_dusk (l := l) (θ := θ) (ea := ea) (ad := ad) (ad' := ad') h (xs (i + 1))
  refine y_aload_n C dL_law_665 rfl (show zlk _ 1 = some (.ref (ad 0)) from rfl) ?_
  refine y_aload_n C dL_law_666 rfl (show zlk _ 0 = some (.ref (sb)) from rfl) ?_
  refine y_iload_n C dL_law_667 rfl (show zlk _ 3 = some (.int (nI i)) from rfl) ?_
  refine y_iconst C (v := nI 1) dL_law_668 (by decide) ?_
  refine y_iadd C dL_law_669 ?_
  refine y_sld C hX (i + 1) (nI_add i 1) (by omega) (by omega) dL_law_670 ?_
  refine y_callVi C (As := [.int (xs (i + 1))]) (rest := []) h1 gL_law_X5_dusk rfl 1 (by decide +kernel) ⟨Nat.le_of_ble_eq_true rfl, Nat.le_of_ble_eq_true rfl⟩ ⟨Nat.le_of_ble_eq_true rfl, Nat.le_of_ble_eq_true rfl⟩ 0 cc_0 rfl rfl rfl rfl (Nat.le_of_ble_eq_true rfl) dL_law_671 (fun x Y hY => ?_)
  refine y_aload_n C dL_law_674 rfl (show zlk _ 2 = some (.ref (ad' 0)) from rfl) ?_
  refine y_aload_n C dL_law_675 rfl (show zlk _ 0 = some (.ref (sb)) from rfl) ?_
  refine y_iload_n C dL_law_676 rfl (show zlk _ 3 = some (.int (nI i)) from rfl) ?_
  refine y_iconst C (v := nI 1) dL_law_677 (by decide) ?_
  refine y_iadd C dL_law_678 ?_
  refine y_sld C hX (i + 1) (nI_add i 1) (by omega) (by omega) dL_law_679 ?_
  refine y_perm List.perm_append_comm ?_
  refine y_callVi C (As := [.int (xs (i + 1))]) (rest := [.int x]) h2 gL_law_X6_dusk rfl 1 (by decide +kernel) ⟨Nat.le_of_ble_eq_true rfl, Nat.le_of_ble_eq_true rfl⟩ ⟨Nat.le_of_ble_eq_true rfl, Nat.le_of_ble_eq_true rfl⟩ 0 (show (MW θ ad' n' g' r')[0]? = some (ad' 0, .inr (6, mfs ad' n' g')) from rfl) rfl rfl rfl rfl (Nat.le_of_ble_eq_true rfl) dL_law_680 (fun x' Y' hY' => ?_)
  obtain ⟨rfl, n1, g1, b1, r1, V1, n1', g1', r1', rfl, rfl, hR⟩ := h3 x Y x' Y' hY hY'
  refine y_perm List.perm_append_comm ?_
  refine y_icmp_eq C 1198 dL_law_683 (by decide) (fun _ => ?_) (fun c => absurd rfl c)
  exact ih _ _ _ _ _ _ _ _ hR
end LC
