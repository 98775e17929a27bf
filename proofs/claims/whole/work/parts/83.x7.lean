/-! THE LAW'S CALLS, ONE BY ONE -/
def l_ctx (M : kT) (b L : Nat) (xs : Nat → Int32) : Prop := kK M cL_law 4 RL 10 390 ∧ va_X b L xs (k_s M) (k_s M).heap ∧ b < (k_s M).heap.size ∧ ¬ k_W M b
theorem q_sld {M : kT} {pc b L j : Nat} {xs : Nat → Int32} {lv : List (Nat × Value)} {st : List Value} {ws : va_W} (C : l_ctx M b L xs) (hj : j < L) (hL : L ≤ 3072) (hdg : decode cL_law pc = .ok (.iaload, 1)) (kk : kJ M 4 (pc + 1) lv (.int (xs j) :: st) ws) : kJ M 4 pc lv (.int (nI j) :: .ref b :: st) ws := fun H locs ls hP hD hS hl => by
  obtain ⟨⟨hx, hb, -⟩, hX, hbl, hbA⟩ := C
  refine va_sld hx hb hX hbl hbA hS (vp_in_nI (n := j) (N := L) hj (by omega)) hdg ?_
  rw [nI_clamp (n := j) (by omega)]
  exact kk H locs ls hP hD hS hl
theorem q_slen {M : kT} {pc b L : Nat} {xs : Nat → Int32} {lv : List (Nat × Value)} {st : List Value} {ws : va_W} (C : l_ctx M b L xs) (hdg : decode cL_law pc = .ok (.arraylength, 1)) (kk : kJ M 4 (pc + 1) lv (.int (nI L) :: st) ws) : kJ M 4 pc lv (.ref b :: st) ws := fun H locs ls hP hD hS hl => by
  obtain ⟨⟨hx, hb, -⟩, hX, hbl, hbA⟩ := C
  exact va_slen hx hb hX hbl hbA hS hdg (kk H locs ls hP hD hS hl)
theorem lg_cmp_self (x : Int64) : lg_cmp x x = 0 := by
  simp [lg_cmp]
set_option maxHeartbeats 4000000 in
set_option maxRecDepth 100000 in
theorem law_beasts {M : kT} {b L : Nat} {xs : Nat → Int32} (C : l_ctx M b L xs) {A : Nat → Nat → Nat} {B : Nat → Nat} {X Y : AS} {T : FS} {J : TJ} {D : DJ} {i : Nat} (hi : i + 6 ≤ L) (hL : L ≤ 3072) (h : a_inv X) (hr : a_rel X Y) (nx : ∀ (X2 Y2 : AS) (T2 : FS) (J2 : TJ) (D2 : DJ), a_inv X2 → a_rel X2 Y2 → kJ M 4 1637 [(3, .int (nI i)), (2, .ref (B 0)), (1, .ref ((A 0) 0)), (0, .ref b)] [] (w_C (k_Z M) A X2 T2 J2 ++ w_M (k_Z M) B Y2 D2)) : kJ M 4 224 [(3, .int (nI i)), (2, .ref (B 0)), (1, .ref ((A 0) 0)), (0, .ref b)] [] (w_C (k_Z M) A X T J ++ w_M (k_Z M) B Y D) := by
  have K := C.1
  have hY := rel_inv h hr
  obtain ⟨⟨m, hm, hm2, -⟩, -⟩ := id h.1
  refine q_aload_n K 2 dL_law_224 rfl ?_
  refine q_aload_n K 3 dL_law_225 rfl ?_
  refine q_iload_n K 0 dL_law_226 rfl ?_
  refine q_iconst 1 K dL_law_227 rfl ?_
  refine q_iadd K dL_law_228 ?_
  refine q_eqi (nI (i + 1)) (kn_add i 1) ?_
  refine q_sld (j := i + 1) C (by omega) hL dL_law_229 ?_
  refine q_aload_n K 3 dL_law_230 rfl ?_
  refine q_iload_n K 0 dL_law_231 rfl ?_
  refine q_iconst 2 K dL_law_232 rfl ?_
  refine q_iadd K dL_law_233 ?_
  refine q_eqi (nI (i + 2)) (kn_add i 2) ?_
  refine q_sld (j := i + 2) C (by omega) hL dL_law_234 ?_
  refine q_cvI (q0 := 0) (As := [.int (xs (i + 1)), .int (xs (i + 2))]) (rest := []) K kv_X3_beasts (c_X3_beasts (k_l M) (k_Z M) A X T J m hm hm2 (xs (i + 1)) (xs (i + 2))) [] (w_M (k_Z M) B Y D) rfl rfl rfl ml_L_13 rfl rfl (Nat.le_of_ble_eq_true rfl) ⟨Nat.le_of_ble_eq_true rfl, Nat.le_of_ble_eq_true rfl⟩ dL_law_235 (fun r1 w1 h1 => ?_)
  obtain ⟨T2, J2, e1, rfl⟩ := h1
  refine q_ws (ws' := w_C (k_Z M) A ((o_beasts X (xs (i + 1)) (xs (i + 2))).2) T2 J2 ++ w_M (k_Z M) B Y D) rfl ?_
  refine q_aload_n K 1 dL_law_238 rfl ?_
  refine q_aload_n K 3 dL_law_239 rfl ?_
  refine q_iload_n K 0 dL_law_240 rfl ?_
  refine q_iconst 1 K dL_law_241 rfl ?_
  refine q_iadd K dL_law_242 ?_
  refine q_eqi (nI (i + 1)) (kn_add i 1) ?_
  refine q_sld (j := i + 1) C (by omega) hL dL_law_243 ?_
  refine q_aload_n K 3 dL_law_244 rfl ?_
  refine q_iload_n K 0 dL_law_245 rfl ?_
  refine q_iconst 2 K dL_law_246 rfl ?_
  refine q_iadd K dL_law_247 ?_
  refine q_eqi (nI (i + 2)) (kn_add i 2) ?_
  refine q_sld (j := i + 2) C (by omega) hL dL_law_248 ?_
  obtain ⟨⟨m, hm, hm2, hhd⟩, hok, hkd, hh⟩ := id hY.1
  refine q_cvI (q0 := 0) (As := [.int (xs (i + 1)), .int (xs (i + 2))]) (rest := [.int r1]) K kv_X4_beasts (c_X4_beasts (k_l M) (k_Z M) B Y D m hm hm2 hok (xs (i + 1)) (xs (i + 2))) (w_C (k_Z M) A (o_beasts X (xs (i + 1)) (xs (i + 2))).2 T2 J2) [] (by rw [List.append_nil]) rfl rfl ml_L_17 rfl rfl (Nat.le_of_ble_eq_true rfl) ⟨Nat.le_of_ble_eq_true rfl, Nat.le_of_ble_eq_true rfl⟩ dL_law_249 (fun r2 w2 h2 => ?_)
  obtain ⟨D2, e2, rfl⟩ := h2
  refine q_ws (ws' := w_C (k_Z M) A ((o_beasts X (xs (i + 1)) (xs (i + 2))).2) T2 J2 ++ w_M (k_Z M) B ((o_beasts Y (xs (i + 1)) (xs (i + 2))).2) D2) (by rw [List.append_nil]) ?_
  obtain ⟨z1, z2, z3⟩ := lw_beasts h hr (xs (i + 1)) (xs (i + 2))
  refine q_icmp_eq 1637 K dL_law_252 (by decide) (fun c => ?_) (fun c => ?_)
  · exact nx _ _ T2 J2 D2 z2 z3
  · exact absurd (e1.trans (z1.trans e2.symm)) c
set_option maxHeartbeats 4000000 in
set_option maxRecDepth 100000 in
theorem law_field {M : kT} {b L : Nat} {xs : Nat → Int32} (C : l_ctx M b L xs) {A : Nat → Nat → Nat} {B : Nat → Nat} {X Y : AS} {T : FS} {J : TJ} {D : DJ} {i : Nat} (hi : i + 6 ≤ L) (hL : L ≤ 3072) (h : a_inv X) (hr : a_rel X Y) (nx : ∀ (X2 Y2 : AS) (T2 : FS) (J2 : TJ) (D2 : DJ), a_inv X2 → a_rel X2 Y2 → kJ M 4 1637 [(3, .int (nI i)), (2, .ref (B 0)), (1, .ref ((A 0) 0)), (0, .ref b)] [] (w_C (k_Z M) A X2 T2 J2 ++ w_M (k_Z M) B Y2 D2)) : kJ M 4 257 [(3, .int (nI i)), (2, .ref (B 0)), (1, .ref ((A 0) 0)), (0, .ref b)] [] (w_C (k_Z M) A X T J ++ w_M (k_Z M) B Y D) := by
  have K := C.1
  have hY := rel_inv h hr
  obtain ⟨⟨m, hm, hm2, -⟩, -⟩ := id h.1
  refine q_aload_n K 2 dL_law_257 rfl ?_
  refine q_aload_n K 3 dL_law_258 rfl ?_
  refine q_iload_n K 0 dL_law_259 rfl ?_
  refine q_iconst 1 K dL_law_260 rfl ?_
  refine q_iadd K dL_law_261 ?_
  refine q_eqi (nI (i + 1)) (kn_add i 1) ?_
  refine q_sld (j := i + 1) C (by omega) hL dL_law_262 ?_
  refine q_aload_n K 3 dL_law_263 rfl ?_
  refine q_iload_n K 0 dL_law_264 rfl ?_
  refine q_iconst 2 K dL_law_265 rfl ?_
  refine q_iadd K dL_law_266 ?_
  refine q_eqi (nI (i + 2)) (kn_add i 2) ?_
  refine q_sld (j := i + 2) C (by omega) hL dL_law_267 ?_
  refine q_cvI (q0 := 0) (As := [.int (xs (i + 1)), .int (xs (i + 2))]) (rest := []) K kv_X3_field (c_X3_field (k_l M) (k_Z M) A X T J m hm hm2 (xs (i + 1)) (xs (i + 2))) [] (w_M (k_Z M) B Y D) rfl rfl rfl ml_L_18 rfl rfl (Nat.le_of_ble_eq_true rfl) ⟨Nat.le_of_ble_eq_true rfl, Nat.le_of_ble_eq_true rfl⟩ dL_law_268 (fun r1 w1 h1 => ?_)
  obtain ⟨T2, J2, e1, rfl⟩ := h1
  refine q_ws (ws' := w_C (k_Z M) A ((o_field X (xs (i + 1)) (xs (i + 2))).2) T2 J2 ++ w_M (k_Z M) B Y D) rfl ?_
  refine q_aload_n K 1 dL_law_271 rfl ?_
  refine q_aload_n K 3 dL_law_272 rfl ?_
  refine q_iload_n K 0 dL_law_273 rfl ?_
  refine q_iconst 1 K dL_law_274 rfl ?_
  refine q_iadd K dL_law_275 ?_
  refine q_eqi (nI (i + 1)) (kn_add i 1) ?_
  refine q_sld (j := i + 1) C (by omega) hL dL_law_276 ?_
  refine q_aload_n K 3 dL_law_277 rfl ?_
  refine q_iload_n K 0 dL_law_278 rfl ?_
  refine q_iconst 2 K dL_law_279 rfl ?_
  refine q_iadd K dL_law_280 ?_
  refine q_eqi (nI (i + 2)) (kn_add i 2) ?_
  refine q_sld (j := i + 2) C (by omega) hL dL_law_281 ?_
  obtain ⟨⟨m, hm, hm2, hhd⟩, hok, hkd, hh⟩ := id hY.1
  refine q_cvI (q0 := 0) (As := [.int (xs (i + 1)), .int (xs (i + 2))]) (rest := [.int r1]) K kv_X4_field (c_X4_field (k_l M) (k_Z M) B Y D m hm hm2 hok (xs (i + 1)) (xs (i + 2))) (w_C (k_Z M) A (o_field X (xs (i + 1)) (xs (i + 2))).2 T2 J2) [] (by rw [List.append_nil]) rfl rfl ml_L_21 rfl rfl (Nat.le_of_ble_eq_true rfl) ⟨Nat.le_of_ble_eq_true rfl, Nat.le_of_ble_eq_true rfl⟩ dL_law_282 (fun r2 w2 h2 => ?_)
  obtain ⟨D2, e2, rfl⟩ := h2
  refine q_ws (ws' := w_C (k_Z M) A ((o_field X (xs (i + 1)) (xs (i + 2))).2) T2 J2 ++ w_M (k_Z M) B ((o_field Y (xs (i + 1)) (xs (i + 2))).2) D2) (by rw [List.append_nil]) ?_
  obtain ⟨z1, z2, z3⟩ := lw_field h hr (xs (i + 1)) (xs (i + 2))
  refine q_icmp_eq 1637 K dL_law_285 (by decide) (fun c => ?_) (fun c => ?_)
  · exact nx _ _ T2 J2 D2 z2 z3
  · exact absurd (e1.trans (z1.trans e2.symm)) c
set_option maxHeartbeats 4000000 in
set_option maxRecDepth 100000 in
theorem law_gate {M : kT} {b L : Nat} {xs : Nat → Int32} (C : l_ctx M b L xs) {A : Nat → Nat → Nat} {B : Nat → Nat} {X Y : AS} {T : FS} {J : TJ} {D : DJ} {i : Nat} (hi : i + 6 ≤ L) (hL : L ≤ 3072) (h : a_inv X) (hr : a_rel X Y) (nx : ∀ (X2 Y2 : AS) (T2 : FS) (J2 : TJ) (D2 : DJ), a_inv X2 → a_rel X2 Y2 → kJ M 4 1637 [(3, .int (nI i)), (2, .ref (B 0)), (1, .ref ((A 0) 0)), (0, .ref b)] [] (w_C (k_Z M) A X2 T2 J2 ++ w_M (k_Z M) B Y2 D2)) : kJ M 4 290 [(3, .int (nI i)), (2, .ref (B 0)), (1, .ref ((A 0) 0)), (0, .ref b)] [] (w_C (k_Z M) A X T J ++ w_M (k_Z M) B Y D) := by
  have K := C.1
  have hY := rel_inv h hr
  obtain ⟨⟨m, hm, hm2, -⟩, -⟩ := id h.1
  refine q_aload_n K 2 dL_law_290 rfl ?_
  refine q_aload_n K 3 dL_law_291 rfl ?_
  refine q_iload_n K 0 dL_law_292 rfl ?_
  refine q_iconst 1 K dL_law_293 rfl ?_
  refine q_iadd K dL_law_294 ?_
  refine q_eqi (nI (i + 1)) (kn_add i 1) ?_
  refine q_sld (j := i + 1) C (by omega) hL dL_law_295 ?_
  refine q_aload_n K 3 dL_law_296 rfl ?_
  refine q_iload_n K 0 dL_law_297 rfl ?_
  refine q_iconst 2 K dL_law_298 rfl ?_
  refine q_iadd K dL_law_299 ?_
  refine q_eqi (nI (i + 2)) (kn_add i 2) ?_
  refine q_sld (j := i + 2) C (by omega) hL dL_law_300 ?_
  refine q_cvI (q0 := 0) (As := [.int (xs (i + 1)), .int (xs (i + 2))]) (rest := []) K kv_X3_gate (c_X3_gate (k_l M) (k_Z M) A X T J m hm hm2 (xs (i + 1)) (xs (i + 2))) [] (w_M (k_Z M) B Y D) rfl rfl rfl ml_L_22 rfl rfl (Nat.le_of_ble_eq_true rfl) ⟨Nat.le_of_ble_eq_true rfl, Nat.le_of_ble_eq_true rfl⟩ dL_law_301 (fun r1 w1 h1 => ?_)
  obtain ⟨T2, J2, e1, rfl⟩ := h1
  refine q_ws (ws' := w_C (k_Z M) A ((o_gate X (xs (i + 1)) (xs (i + 2))).2) T2 J2 ++ w_M (k_Z M) B Y D) rfl ?_
  refine q_aload_n K 1 dL_law_304 rfl ?_
  refine q_aload_n K 3 dL_law_305 rfl ?_
  refine q_iload_n K 0 dL_law_306 rfl ?_
  refine q_iconst 1 K dL_law_307 rfl ?_
  refine q_iadd K dL_law_308 ?_
  refine q_eqi (nI (i + 1)) (kn_add i 1) ?_
  refine q_sld (j := i + 1) C (by omega) hL dL_law_309 ?_
  refine q_aload_n K 3 dL_law_310 rfl ?_
  refine q_iload_n K 0 dL_law_311 rfl ?_
  refine q_iconst 2 K dL_law_312 rfl ?_
  refine q_iadd K dL_law_313 ?_
  refine q_eqi (nI (i + 2)) (kn_add i 2) ?_
  refine q_sld (j := i + 2) C (by omega) hL dL_law_314 ?_
  obtain ⟨⟨m, hm, hm2, hhd⟩, hok, hkd, hh⟩ := id hY.1
  refine q_cvI (q0 := 0) (As := [.int (xs (i + 1)), .int (xs (i + 2))]) (rest := [.int r1]) K kv_X4_gate (c_X4_gate (k_l M) (k_Z M) B Y D m hm hm2 hok (xs (i + 1)) (xs (i + 2))) (w_C (k_Z M) A (o_gate X (xs (i + 1)) (xs (i + 2))).2 T2 J2) [] (by rw [List.append_nil]) rfl rfl ml_L_25 rfl rfl (Nat.le_of_ble_eq_true rfl) ⟨Nat.le_of_ble_eq_true rfl, Nat.le_of_ble_eq_true rfl⟩ dL_law_315 (fun r2 w2 h2 => ?_)
  obtain ⟨D2, e2, rfl⟩ := h2
  refine q_ws (ws' := w_C (k_Z M) A ((o_gate X (xs (i + 1)) (xs (i + 2))).2) T2 J2 ++ w_M (k_Z M) B ((o_gate Y (xs (i + 1)) (xs (i + 2))).2) D2) (by rw [List.append_nil]) ?_
  obtain ⟨z1, z2, z3⟩ := lw_gate h hr (xs (i + 1)) (xs (i + 2))
  refine q_icmp_eq 1637 K dL_law_318 (by decide) (fun c => ?_) (fun c => ?_)
  · exact nx _ _ T2 J2 D2 z2 z3
  · exact absurd (e1.trans (z1.trans e2.symm)) c
set_option maxHeartbeats 4000000 in
set_option maxRecDepth 100000 in
theorem law_stands {M : kT} {b L : Nat} {xs : Nat → Int32} (C : l_ctx M b L xs) {A : Nat → Nat → Nat} {B : Nat → Nat} {X Y : AS} {T : FS} {J : TJ} {D : DJ} {i : Nat} (hi : i + 6 ≤ L) (hL : L ≤ 3072) (h : a_inv X) (hr : a_rel X Y) (nx : ∀ (X2 Y2 : AS) (T2 : FS) (J2 : TJ) (D2 : DJ), a_inv X2 → a_rel X2 Y2 → kJ M 4 1637 [(3, .int (nI i)), (2, .ref (B 0)), (1, .ref ((A 0) 0)), (0, .ref b)] [] (w_C (k_Z M) A X2 T2 J2 ++ w_M (k_Z M) B Y2 D2)) : kJ M 4 323 [(3, .int (nI i)), (2, .ref (B 0)), (1, .ref ((A 0) 0)), (0, .ref b)] [] (w_C (k_Z M) A X T J ++ w_M (k_Z M) B Y D) := by
  have K := C.1
  have hY := rel_inv h hr
  obtain ⟨⟨m, hm, hm2, -⟩, -⟩ := id h.1
  refine q_aload_n K 2 dL_law_323 rfl ?_
  refine q_aload_n K 3 dL_law_324 rfl ?_
  refine q_iload_n K 0 dL_law_325 rfl ?_
  refine q_iconst 1 K dL_law_326 rfl ?_
  refine q_iadd K dL_law_327 ?_
  refine q_eqi (nI (i + 1)) (kn_add i 1) ?_
  refine q_sld (j := i + 1) C (by omega) hL dL_law_328 ?_
  refine q_cvI (q0 := 0) (As := [.int (xs (i + 1))]) (rest := []) K kv_X3_stands (c_X3_stands (k_l M) (k_Z M) A X T J m hm hm2 (xs (i + 1))) [] (w_M (k_Z M) B Y D) rfl rfl rfl ml_L_26 rfl rfl (Nat.le_of_ble_eq_true rfl) ⟨Nat.le_of_ble_eq_true rfl, Nat.le_of_ble_eq_true rfl⟩ dL_law_329 (fun r1 w1 h1 => ?_)
  obtain ⟨T2, J2, e1, rfl⟩ := h1
  refine q_ws (ws' := w_C (k_Z M) A ((o_stands X (xs (i + 1))).2) T2 J2 ++ w_M (k_Z M) B Y D) rfl ?_
  refine q_aload_n K 1 dL_law_332 rfl ?_
  refine q_aload_n K 3 dL_law_333 rfl ?_
  refine q_iload_n K 0 dL_law_334 rfl ?_
  refine q_iconst 1 K dL_law_335 rfl ?_
  refine q_iadd K dL_law_336 ?_
  refine q_eqi (nI (i + 1)) (kn_add i 1) ?_
  refine q_sld (j := i + 1) C (by omega) hL dL_law_337 ?_
  obtain ⟨⟨m, hm, hm2, hhd⟩, hok, hkd, hh⟩ := id hY.1
  refine q_cvI (q0 := 0) (As := [.int (xs (i + 1))]) (rest := [.int r1]) K kv_X4_stands (c_X4_stands (k_l M) (k_Z M) B Y D m hm hm2 hok (xs (i + 1))) (w_C (k_Z M) A (o_stands X (xs (i + 1))).2 T2 J2) [] (by rw [List.append_nil]) rfl rfl ml_L_30 rfl rfl (Nat.le_of_ble_eq_true rfl) ⟨Nat.le_of_ble_eq_true rfl, Nat.le_of_ble_eq_true rfl⟩ dL_law_338 (fun r2 w2 h2 => ?_)
  obtain ⟨D2, e2, rfl⟩ := h2
  refine q_ws (ws' := w_C (k_Z M) A ((o_stands X (xs (i + 1))).2) T2 J2 ++ w_M (k_Z M) B ((o_stands Y (xs (i + 1))).2) D2) (by rw [List.append_nil]) ?_
  obtain ⟨z1, z2, z3⟩ := lw_stands h hr (xs (i + 1))
  refine q_icmp_eq 1637 K dL_law_341 (by decide) (fun c => ?_) (fun c => ?_)
  · exact nx _ _ T2 J2 D2 z2 z3
  · exact absurd (e1.trans (z1.trans e2.symm)) c
set_option maxHeartbeats 4000000 in
set_option maxRecDepth 100000 in
theorem law_wind {M : kT} {b L : Nat} {xs : Nat → Int32} (C : l_ctx M b L xs) {A : Nat → Nat → Nat} {B : Nat → Nat} {X Y : AS} {T : FS} {J : TJ} {D : DJ} {i : Nat} (hi : i + 6 ≤ L) (hL : L ≤ 3072) (h : a_inv X) (hr : a_rel X Y) (nx : ∀ (X2 Y2 : AS) (T2 : FS) (J2 : TJ) (D2 : DJ), a_inv X2 → a_rel X2 Y2 → kJ M 4 1637 [(3, .int (nI i)), (2, .ref (B 0)), (1, .ref ((A 0) 0)), (0, .ref b)] [] (w_C (k_Z M) A X2 T2 J2 ++ w_M (k_Z M) B Y2 D2)) : kJ M 4 346 [(3, .int (nI i)), (2, .ref (B 0)), (1, .ref ((A 0) 0)), (0, .ref b)] [] (w_C (k_Z M) A X T J ++ w_M (k_Z M) B Y D) := by
  have K := C.1
  have hY := rel_inv h hr
  obtain ⟨⟨m, hm, hm2, -⟩, -⟩ := id h.1
  refine q_aload_n K 2 dL_law_346 rfl ?_
  refine q_aload_n K 3 dL_law_347 rfl ?_
  refine q_iload_n K 0 dL_law_348 rfl ?_
  refine q_iconst 1 K dL_law_349 rfl ?_
  refine q_iadd K dL_law_350 ?_
  refine q_eqi (nI (i + 1)) (kn_add i 1) ?_
  refine q_sld (j := i + 1) C (by omega) hL dL_law_351 ?_
  refine q_cvI (q0 := 0) (As := [.int (xs (i + 1))]) (rest := []) K kv_X3_wind (c_X3_wind (k_l M) (k_Z M) A X T J m hm hm2 (xs (i + 1))) [] (w_M (k_Z M) B Y D) rfl rfl rfl ml_L_31 rfl rfl (Nat.le_of_ble_eq_true rfl) ⟨Nat.le_of_ble_eq_true rfl, Nat.le_of_ble_eq_true rfl⟩ dL_law_352 (fun r1 w1 h1 => ?_)
  obtain ⟨T2, J2, e1, rfl⟩ := h1
  refine q_ws (ws' := w_C (k_Z M) A ((o_wind X (xs (i + 1))).2) T2 J2 ++ w_M (k_Z M) B Y D) rfl ?_
  refine q_aload_n K 1 dL_law_355 rfl ?_
  refine q_aload_n K 3 dL_law_356 rfl ?_
  refine q_iload_n K 0 dL_law_357 rfl ?_
  refine q_iconst 1 K dL_law_358 rfl ?_
  refine q_iadd K dL_law_359 ?_
  refine q_eqi (nI (i + 1)) (kn_add i 1) ?_
  refine q_sld (j := i + 1) C (by omega) hL dL_law_360 ?_
  obtain ⟨⟨m, hm, hm2, hhd⟩, hok, hkd, hh⟩ := id hY.1
  refine q_cvI (q0 := 0) (As := [.int (xs (i + 1))]) (rest := [.int r1]) K kv_X4_wind (c_X4_wind (k_l M) (k_Z M) B Y D m hm hm2 hok (xs (i + 1))) (w_C (k_Z M) A (o_wind X (xs (i + 1))).2 T2 J2) [] (by rw [List.append_nil]) rfl rfl ml_L_34 rfl rfl (Nat.le_of_ble_eq_true rfl) ⟨Nat.le_of_ble_eq_true rfl, Nat.le_of_ble_eq_true rfl⟩ dL_law_361 (fun r2 w2 h2 => ?_)
  obtain ⟨D2, e2, rfl⟩ := h2
  refine q_ws (ws' := w_C (k_Z M) A ((o_wind X (xs (i + 1))).2) T2 J2 ++ w_M (k_Z M) B ((o_wind Y (xs (i + 1))).2) D2) (by rw [List.append_nil]) ?_
  obtain ⟨z1, z2, z3⟩ := lw_wind h hr (xs (i + 1))
  refine q_icmp_eq 1637 K dL_law_364 (by decide) (fun c => ?_) (fun c => ?_)
  · exact nx _ _ T2 J2 D2 z2 z3
  · exact absurd (e1.trans (z1.trans e2.symm)) c
set_option maxHeartbeats 4000000 in
set_option maxRecDepth 100000 in
theorem law_walker {M : kT} {b L : Nat} {xs : Nat → Int32} (C : l_ctx M b L xs) {A : Nat → Nat → Nat} {B : Nat → Nat} {X Y : AS} {T : FS} {J : TJ} {D : DJ} {i : Nat} (hi : i + 6 ≤ L) (hL : L ≤ 3072) (h : a_inv X) (hr : a_rel X Y) (nx : ∀ (X2 Y2 : AS) (T2 : FS) (J2 : TJ) (D2 : DJ), a_inv X2 → a_rel X2 Y2 → kJ M 4 1637 [(3, .int (nI i)), (2, .ref (B 0)), (1, .ref ((A 0) 0)), (0, .ref b)] [] (w_C (k_Z M) A X2 T2 J2 ++ w_M (k_Z M) B Y2 D2)) : kJ M 4 369 [(3, .int (nI i)), (2, .ref (B 0)), (1, .ref ((A 0) 0)), (0, .ref b)] [] (w_C (k_Z M) A X T J ++ w_M (k_Z M) B Y D) := by
  have K := C.1
  have hY := rel_inv h hr
  obtain ⟨⟨m, hm, hm2, -⟩, -⟩ := id h.1
  refine q_aload_n K 2 dL_law_369 rfl ?_
  refine q_aload_n K 3 dL_law_370 rfl ?_
  refine q_iload_n K 0 dL_law_371 rfl ?_
  refine q_iconst 1 K dL_law_372 rfl ?_
  refine q_iadd K dL_law_373 ?_
  refine q_eqi (nI (i + 1)) (kn_add i 1) ?_
  refine q_sld (j := i + 1) C (by omega) hL dL_law_374 ?_
  refine q_aload_n K 3 dL_law_375 rfl ?_
  refine q_iload_n K 0 dL_law_376 rfl ?_
  refine q_iconst 2 K dL_law_377 rfl ?_
  refine q_iadd K dL_law_378 ?_
  refine q_eqi (nI (i + 2)) (kn_add i 2) ?_
  refine q_sld (j := i + 2) C (by omega) hL dL_law_379 ?_
  refine q_cvI (q0 := 0) (As := [.int (xs (i + 1)), .int (xs (i + 2))]) (rest := []) K kv_X3_walker (c_X3_walker (k_l M) (k_Z M) A X T J m hm hm2 (xs (i + 1)) (xs (i + 2))) [] (w_M (k_Z M) B Y D) rfl rfl rfl ml_L_35 rfl rfl (Nat.le_of_ble_eq_true rfl) ⟨Nat.le_of_ble_eq_true rfl, Nat.le_of_ble_eq_true rfl⟩ dL_law_380 (fun r1 w1 h1 => ?_)
  obtain ⟨T2, J2, e1, rfl⟩ := h1
  refine q_ws (ws' := w_C (k_Z M) A ((o_walker X (xs (i + 1)) (xs (i + 2))).2) T2 J2 ++ w_M (k_Z M) B Y D) rfl ?_
  refine q_aload_n K 1 dL_law_383 rfl ?_
  refine q_aload_n K 3 dL_law_384 rfl ?_
  refine q_iload_n K 0 dL_law_385 rfl ?_
  refine q_iconst 1 K dL_law_386 rfl ?_
  refine q_iadd K dL_law_387 ?_
  refine q_eqi (nI (i + 1)) (kn_add i 1) ?_
  refine q_sld (j := i + 1) C (by omega) hL dL_law_388 ?_
  refine q_aload_n K 3 dL_law_389 rfl ?_
  refine q_iload_n K 0 dL_law_390 rfl ?_
  refine q_iconst 2 K dL_law_391 rfl ?_
  refine q_iadd K dL_law_392 ?_
  refine q_eqi (nI (i + 2)) (kn_add i 2) ?_
  refine q_sld (j := i + 2) C (by omega) hL dL_law_393 ?_
  obtain ⟨⟨m, hm, hm2, hhd⟩, hok, hkd, hh⟩ := id hY.1
  refine q_cvI (q0 := 0) (As := [.int (xs (i + 1)), .int (xs (i + 2))]) (rest := [.int r1]) K kv_X4_walker (c_X4_walker (k_l M) (k_Z M) B Y D m hm hm2 hok (xs (i + 1)) (xs (i + 2))) (w_C (k_Z M) A (o_walker X (xs (i + 1)) (xs (i + 2))).2 T2 J2) [] (by rw [List.append_nil]) rfl rfl ml_L_38 rfl rfl (Nat.le_of_ble_eq_true rfl) ⟨Nat.le_of_ble_eq_true rfl, Nat.le_of_ble_eq_true rfl⟩ dL_law_394 (fun r2 w2 h2 => ?_)
  obtain ⟨D2, e2, rfl⟩ := h2
  refine q_ws (ws' := w_C (k_Z M) A ((o_walker X (xs (i + 1)) (xs (i + 2))).2) T2 J2 ++ w_M (k_Z M) B ((o_walker Y (xs (i + 1)) (xs (i + 2))).2) D2) (by rw [List.append_nil]) ?_
  obtain ⟨z1, z2, z3⟩ := lw_walker h hr (xs (i + 1)) (xs (i + 2))
  refine q_icmp_eq 1637 K dL_law_397 (by decide) (fun c => ?_) (fun c => ?_)
  · exact nx _ _ T2 J2 D2 z2 z3
  · exact absurd (e1.trans (z1.trans e2.symm)) c
set_option maxHeartbeats 4000000 in
set_option maxRecDepth 100000 in
theorem law_of {M : kT} {b L : Nat} {xs : Nat → Int32} (C : l_ctx M b L xs) {A : Nat → Nat → Nat} {B : Nat → Nat} {X Y : AS} {T : FS} {J : TJ} {D : DJ} {i : Nat} (hi : i + 6 ≤ L) (hL : L ≤ 3072) (h : a_inv X) (hr : a_rel X Y) (nx : ∀ (X2 Y2 : AS) (T2 : FS) (J2 : TJ) (D2 : DJ), a_inv X2 → a_rel X2 Y2 → kJ M 4 1637 [(3, .int (nI i)), (2, .ref (B 0)), (1, .ref ((A 0) 0)), (0, .ref b)] [] (w_C (k_Z M) A X2 T2 J2 ++ w_M (k_Z M) B Y2 D2)) : kJ M 4 402 [(3, .int (nI i)), (2, .ref (B 0)), (1, .ref ((A 0) 0)), (0, .ref b)] [] (w_C (k_Z M) A X T J ++ w_M (k_Z M) B Y D) := by
  have K := C.1
  have hY := rel_inv h hr
  obtain ⟨⟨m, hm, hm2, -⟩, -⟩ := id h.1
  refine q_aload_n K 2 dL_law_402 rfl ?_
  refine q_aload_n K 3 dL_law_403 rfl ?_
  refine q_iload_n K 0 dL_law_404 rfl ?_
  refine q_iconst 1 K dL_law_405 rfl ?_
  refine q_iadd K dL_law_406 ?_
  refine q_eqi (nI (i + 1)) (kn_add i 1) ?_
  refine q_sld (j := i + 1) C (by omega) hL dL_law_407 ?_
  refine q_aload_n K 3 dL_law_408 rfl ?_
  refine q_iload_n K 0 dL_law_409 rfl ?_
  refine q_iconst 2 K dL_law_410 rfl ?_
  refine q_iadd K dL_law_411 ?_
  refine q_eqi (nI (i + 2)) (kn_add i 2) ?_
  refine q_sld (j := i + 2) C (by omega) hL dL_law_412 ?_
  refine q_cvI (q0 := 0) (As := [.int (xs (i + 1)), .int (xs (i + 2))]) (rest := []) K kv_X3_of (c_X3_of (k_l M) (k_Z M) A X T J m hm hm2 (xs (i + 1)) (xs (i + 2))) [] (w_M (k_Z M) B Y D) rfl rfl rfl ml_L_39 rfl rfl (Nat.le_of_ble_eq_true rfl) ⟨Nat.le_of_ble_eq_true rfl, Nat.le_of_ble_eq_true rfl⟩ dL_law_413 (fun r1 w1 h1 => ?_)
  obtain ⟨T2, J2, e1, rfl⟩ := h1
  refine q_ws (ws' := w_C (k_Z M) A ((o_of X (xs (i + 1)) (xs (i + 2))).2) T2 J2 ++ w_M (k_Z M) B Y D) rfl ?_
  refine q_aload_n K 1 dL_law_416 rfl ?_
  refine q_aload_n K 3 dL_law_417 rfl ?_
  refine q_iload_n K 0 dL_law_418 rfl ?_
  refine q_iconst 1 K dL_law_419 rfl ?_
  refine q_iadd K dL_law_420 ?_
  refine q_eqi (nI (i + 1)) (kn_add i 1) ?_
  refine q_sld (j := i + 1) C (by omega) hL dL_law_421 ?_
  refine q_aload_n K 3 dL_law_422 rfl ?_
  refine q_iload_n K 0 dL_law_423 rfl ?_
  refine q_iconst 2 K dL_law_424 rfl ?_
  refine q_iadd K dL_law_425 ?_
  refine q_eqi (nI (i + 2)) (kn_add i 2) ?_
  refine q_sld (j := i + 2) C (by omega) hL dL_law_426 ?_
  obtain ⟨⟨m, hm, hm2, hhd⟩, hok, hkd, hh⟩ := id hY.1
  refine q_cvI (q0 := 0) (As := [.int (xs (i + 1)), .int (xs (i + 2))]) (rest := [.int r1]) K kv_X4_of (c_X4_of (k_l M) (k_Z M) B Y D m hm hm2 hok (xs (i + 1)) (xs (i + 2))) (w_C (k_Z M) A (o_of X (xs (i + 1)) (xs (i + 2))).2 T2 J2) [] (by rw [List.append_nil]) rfl rfl ml_L_42 rfl rfl (Nat.le_of_ble_eq_true rfl) ⟨Nat.le_of_ble_eq_true rfl, Nat.le_of_ble_eq_true rfl⟩ dL_law_427 (fun r2 w2 h2 => ?_)
  obtain ⟨D2, e2, rfl⟩ := h2
  refine q_ws (ws' := w_C (k_Z M) A ((o_of X (xs (i + 1)) (xs (i + 2))).2) T2 J2 ++ w_M (k_Z M) B ((o_of Y (xs (i + 1)) (xs (i + 2))).2) D2) (by rw [List.append_nil]) ?_
  obtain ⟨z1, z2, z3⟩ := lw_of h hr (xs (i + 1)) (xs (i + 2))
  refine q_icmp_eq 1637 K dL_law_430 (by decide) (fun c => ?_) (fun c => ?_)
  · exact nx _ _ T2 J2 D2 z2 z3
  · exact absurd (e1.trans (z1.trans e2.symm)) c
set_option maxHeartbeats 4000000 in
set_option maxRecDepth 100000 in
theorem law_change {M : kT} {b L : Nat} {xs : Nat → Int32} (C : l_ctx M b L xs) {A : Nat → Nat → Nat} {B : Nat → Nat} {X Y : AS} {T : FS} {J : TJ} {D : DJ} {i : Nat} (hi : i + 6 ≤ L) (hL : L ≤ 3072) (h : a_inv X) (hr : a_rel X Y) (nx : ∀ (X2 Y2 : AS) (T2 : FS) (J2 : TJ) (D2 : DJ), a_inv X2 → a_rel X2 Y2 → kJ M 4 1637 [(3, .int (nI i)), (2, .ref (B 0)), (1, .ref ((A 0) 0)), (0, .ref b)] [] (w_C (k_Z M) A X2 T2 J2 ++ w_M (k_Z M) B Y2 D2)) : kJ M 4 435 [(3, .int (nI i)), (2, .ref (B 0)), (1, .ref ((A 0) 0)), (0, .ref b)] [] (w_C (k_Z M) A X T J ++ w_M (k_Z M) B Y D) := by
  have K := C.1
  have hY := rel_inv h hr
  obtain ⟨⟨m, hm, hm2, -⟩, -⟩ := id h.1
  refine q_aload_n K 2 dL_law_435 rfl ?_
  refine q_aload_n K 3 dL_law_436 rfl ?_
  refine q_iload_n K 0 dL_law_437 rfl ?_
  refine q_iconst 1 K dL_law_438 rfl ?_
  refine q_iadd K dL_law_439 ?_
  refine q_eqi (nI (i + 1)) (kn_add i 1) ?_
  refine q_sld (j := i + 1) C (by omega) hL dL_law_440 ?_
  refine q_aload_n K 3 dL_law_441 rfl ?_
  refine q_iload_n K 0 dL_law_442 rfl ?_
  refine q_iconst 2 K dL_law_443 rfl ?_
  refine q_iadd K dL_law_444 ?_
  refine q_eqi (nI (i + 2)) (kn_add i 2) ?_
  refine q_sld (j := i + 2) C (by omega) hL dL_law_445 ?_
  refine q_aload_n K 3 dL_law_446 rfl ?_
  refine q_iload_n K 0 dL_law_447 rfl ?_
  refine q_iconst 3 K dL_law_448 rfl ?_
  refine q_iadd K dL_law_449 ?_
  refine q_eqi (nI (i + 3)) (kn_add i 3) ?_
  refine q_sld (j := i + 3) C (by omega) hL dL_law_450 ?_
  refine q_cvI (q0 := 0) (As := [.int (xs (i + 1)), .int (xs (i + 2)), .int (xs (i + 3))]) (rest := []) K kv_X3_change (c_X3_change (k_l M) (k_Z M) A X T J m hm hm2 (xs (i + 1)) (xs (i + 2)) (xs (i + 3))) [] (w_M (k_Z M) B Y D) rfl rfl rfl ml_L_43 rfl rfl (Nat.le_of_ble_eq_true rfl) ⟨Nat.le_of_ble_eq_true rfl, Nat.le_of_ble_eq_true rfl⟩ dL_law_451 (fun r1 w1 h1 => ?_)
  obtain ⟨T2, J2, e1, rfl⟩ := h1
  refine q_ws (ws' := w_C (k_Z M) A ((o_change X (xs (i + 1)) (xs (i + 2)) (xs (i + 3))).2) T2 J2 ++ w_M (k_Z M) B Y D) rfl ?_
  refine q_aload_n K 1 dL_law_454 rfl ?_
  refine q_aload_n K 3 dL_law_455 rfl ?_
  refine q_iload_n K 0 dL_law_456 rfl ?_
  refine q_iconst 1 K dL_law_457 rfl ?_
  refine q_iadd K dL_law_458 ?_
  refine q_eqi (nI (i + 1)) (kn_add i 1) ?_
  refine q_sld (j := i + 1) C (by omega) hL dL_law_459 ?_
  refine q_aload_n K 3 dL_law_460 rfl ?_
  refine q_iload_n K 0 dL_law_461 rfl ?_
  refine q_iconst 2 K dL_law_462 rfl ?_
  refine q_iadd K dL_law_463 ?_
  refine q_eqi (nI (i + 2)) (kn_add i 2) ?_
  refine q_sld (j := i + 2) C (by omega) hL dL_law_464 ?_
  refine q_aload_n K 3 dL_law_465 rfl ?_
  refine q_iload_n K 0 dL_law_466 rfl ?_
  refine q_iconst 3 K dL_law_467 rfl ?_
  refine q_iadd K dL_law_468 ?_
  refine q_eqi (nI (i + 3)) (kn_add i 3) ?_
  refine q_sld (j := i + 3) C (by omega) hL dL_law_469 ?_
  obtain ⟨⟨m, hm, hm2, hhd⟩, hok, hkd, hh⟩ := id hY.1
  refine q_cvI (q0 := 0) (As := [.int (xs (i + 1)), .int (xs (i + 2)), .int (xs (i + 3))]) (rest := [.int r1]) K kv_X4_change (c_X4_change (k_l M) (k_Z M) B Y D m hm hm2 hok (xs (i + 1)) (xs (i + 2)) (xs (i + 3))) (w_C (k_Z M) A (o_change X (xs (i + 1)) (xs (i + 2)) (xs (i + 3))).2 T2 J2) [] (by rw [List.append_nil]) rfl rfl ml_L_47 rfl rfl (Nat.le_of_ble_eq_true rfl) ⟨Nat.le_of_ble_eq_true rfl, Nat.le_of_ble_eq_true rfl⟩ dL_law_470 (fun r2 w2 h2 => ?_)
  obtain ⟨D2, e2, rfl⟩ := h2
  refine q_ws (ws' := w_C (k_Z M) A ((o_change X (xs (i + 1)) (xs (i + 2)) (xs (i + 3))).2) T2 J2 ++ w_M (k_Z M) B ((o_change Y (xs (i + 1)) (xs (i + 2)) (xs (i + 3))).2) D2) (by rw [List.append_nil]) ?_
  obtain ⟨z1, z2, z3⟩ := lw_change h hr (xs (i + 1)) (xs (i + 2)) (xs (i + 3))
  refine q_icmp_eq 1637 K dL_law_473 (by decide) (fun c => ?_) (fun c => ?_)
  · exact nx _ _ T2 J2 D2 z2 z3
  · exact absurd (e1.trans (z1.trans e2.symm)) c
set_option maxHeartbeats 4000000 in
set_option maxRecDepth 100000 in
theorem law_leaves {M : kT} {b L : Nat} {xs : Nat → Int32} (C : l_ctx M b L xs) {A : Nat → Nat → Nat} {B : Nat → Nat} {X Y : AS} {T : FS} {J : TJ} {D : DJ} {i : Nat} (hi : i + 6 ≤ L) (hL : L ≤ 3072) (h : a_inv X) (hr : a_rel X Y) (nx : ∀ (X2 Y2 : AS) (T2 : FS) (J2 : TJ) (D2 : DJ), a_inv X2 → a_rel X2 Y2 → kJ M 4 1637 [(3, .int (nI i)), (2, .ref (B 0)), (1, .ref ((A 0) 0)), (0, .ref b)] [] (w_C (k_Z M) A X2 T2 J2 ++ w_M (k_Z M) B Y2 D2)) : kJ M 4 478 [(3, .int (nI i)), (2, .ref (B 0)), (1, .ref ((A 0) 0)), (0, .ref b)] [] (w_C (k_Z M) A X T J ++ w_M (k_Z M) B Y D) := by
  have K := C.1
  have hY := rel_inv h hr
  obtain ⟨⟨m, hm, hm2, -⟩, -⟩ := id h.1
  refine q_aload_n K 2 dL_law_478 rfl ?_
  refine q_aload_n K 3 dL_law_479 rfl ?_
  refine q_iload_n K 0 dL_law_480 rfl ?_
  refine q_iconst 1 K dL_law_481 rfl ?_
  refine q_iadd K dL_law_482 ?_
  refine q_eqi (nI (i + 1)) (kn_add i 1) ?_
  refine q_sld (j := i + 1) C (by omega) hL dL_law_483 ?_
  refine q_aload_n K 3 dL_law_484 rfl ?_
  refine q_iload_n K 0 dL_law_485 rfl ?_
  refine q_iconst 2 K dL_law_486 rfl ?_
  refine q_iadd K dL_law_487 ?_
  refine q_eqi (nI (i + 2)) (kn_add i 2) ?_
  refine q_sld (j := i + 2) C (by omega) hL dL_law_488 ?_
  refine q_aload_n K 3 dL_law_489 rfl ?_
  refine q_iload_n K 0 dL_law_490 rfl ?_
  refine q_iconst 3 K dL_law_491 rfl ?_
  refine q_iadd K dL_law_492 ?_
  refine q_eqi (nI (i + 3)) (kn_add i 3) ?_
  refine q_sld (j := i + 3) C (by omega) hL dL_law_493 ?_
  refine q_cvI (q0 := 0) (As := [.int (xs (i + 1)), .int (xs (i + 2)), .int (xs (i + 3))]) (rest := []) K kv_X3_leaves (c_X3_leaves (k_l M) (k_Z M) A X T J m hm hm2 (xs (i + 1)) (xs (i + 2)) (xs (i + 3))) [] (w_M (k_Z M) B Y D) rfl rfl rfl ml_L_48 rfl rfl (Nat.le_of_ble_eq_true rfl) ⟨Nat.le_of_ble_eq_true rfl, Nat.le_of_ble_eq_true rfl⟩ dL_law_494 (fun r1 w1 h1 => ?_)
  obtain ⟨T2, J2, e1, rfl⟩ := h1
  refine q_ws (ws' := w_C (k_Z M) A ((o_leaves X (xs (i + 1)) (xs (i + 2)) (xs (i + 3))).2) T2 J2 ++ w_M (k_Z M) B Y D) rfl ?_
  refine q_aload_n K 1 dL_law_497 rfl ?_
  refine q_aload_n K 3 dL_law_498 rfl ?_
  refine q_iload_n K 0 dL_law_499 rfl ?_
  refine q_iconst 1 K dL_law_500 rfl ?_
  refine q_iadd K dL_law_501 ?_
  refine q_eqi (nI (i + 1)) (kn_add i 1) ?_
  refine q_sld (j := i + 1) C (by omega) hL dL_law_502 ?_
  refine q_aload_n K 3 dL_law_503 rfl ?_
  refine q_iload_n K 0 dL_law_504 rfl ?_
  refine q_iconst 2 K dL_law_505 rfl ?_
  refine q_iadd K dL_law_506 ?_
  refine q_eqi (nI (i + 2)) (kn_add i 2) ?_
  refine q_sld (j := i + 2) C (by omega) hL dL_law_507 ?_
  refine q_aload_n K 3 dL_law_508 rfl ?_
  refine q_iload_n K 0 dL_law_509 rfl ?_
  refine q_iconst 3 K dL_law_510 rfl ?_
  refine q_iadd K dL_law_511 ?_
  refine q_eqi (nI (i + 3)) (kn_add i 3) ?_
  refine q_sld (j := i + 3) C (by omega) hL dL_law_512 ?_
  obtain ⟨⟨m, hm, hm2, hhd⟩, hok, hkd, hh⟩ := id hY.1
  refine q_cvI (q0 := 0) (As := [.int (xs (i + 1)), .int (xs (i + 2)), .int (xs (i + 3))]) (rest := [.int r1]) K kv_X4_leaves (c_X4_leaves (k_l M) (k_Z M) B Y D m hm hm2 hok (xs (i + 1)) (xs (i + 2)) (xs (i + 3))) (w_C (k_Z M) A (o_leaves X (xs (i + 1)) (xs (i + 2)) (xs (i + 3))).2 T2 J2) [] (by rw [List.append_nil]) rfl rfl ml_L_51 rfl rfl (Nat.le_of_ble_eq_true rfl) ⟨Nat.le_of_ble_eq_true rfl, Nat.le_of_ble_eq_true rfl⟩ dL_law_513 (fun r2 w2 h2 => ?_)
  obtain ⟨D2, e2, rfl⟩ := h2
  refine q_ws (ws' := w_C (k_Z M) A ((o_leaves X (xs (i + 1)) (xs (i + 2)) (xs (i + 3))).2) T2 J2 ++ w_M (k_Z M) B ((o_leaves Y (xs (i + 1)) (xs (i + 2)) (xs (i + 3))).2) D2) (by rw [List.append_nil]) ?_
  obtain ⟨z1, z2, z3⟩ := lw_leaves h hr (xs (i + 1)) (xs (i + 2)) (xs (i + 3))
  refine q_icmp_eq 1637 K dL_law_516 (by decide) (fun c => ?_) (fun c => ?_)
  · exact nx _ _ T2 J2 D2 z2 z3
  · exact absurd (e1.trans (z1.trans e2.symm)) c
set_option maxHeartbeats 4000000 in
set_option maxRecDepth 100000 in
theorem law_go {M : kT} {b L : Nat} {xs : Nat → Int32} (C : l_ctx M b L xs) {A : Nat → Nat → Nat} {B : Nat → Nat} {X Y : AS} {T : FS} {J : TJ} {D : DJ} {i : Nat} (hi : i + 6 ≤ L) (hL : L ≤ 3072) (h : a_inv X) (hr : a_rel X Y) (nx : ∀ (X2 Y2 : AS) (T2 : FS) (J2 : TJ) (D2 : DJ), a_inv X2 → a_rel X2 Y2 → kJ M 4 1637 [(3, .int (nI i)), (2, .ref (B 0)), (1, .ref ((A 0) 0)), (0, .ref b)] [] (w_C (k_Z M) A X2 T2 J2 ++ w_M (k_Z M) B Y2 D2)) : kJ M 4 521 [(3, .int (nI i)), (2, .ref (B 0)), (1, .ref ((A 0) 0)), (0, .ref b)] [] (w_C (k_Z M) A X T J ++ w_M (k_Z M) B Y D) := by
  have K := C.1
  have hY := rel_inv h hr
  obtain ⟨⟨m, hm, hm2, -⟩, -⟩ := id h.1
  refine q_aload_n K 2 dL_law_521 rfl ?_
  refine q_aload_n K 3 dL_law_522 rfl ?_
  refine q_iload_n K 0 dL_law_523 rfl ?_
  refine q_iconst 1 K dL_law_524 rfl ?_
  refine q_iadd K dL_law_525 ?_
  refine q_eqi (nI (i + 1)) (kn_add i 1) ?_
  refine q_sld (j := i + 1) C (by omega) hL dL_law_526 ?_
  refine q_cvI (q0 := 0) (As := [.int (xs (i + 1))]) (rest := []) K kv_X3_go (c_X3_go (k_l M) (k_Z M) A X T J m hm hm2 (xs (i + 1))) [] (w_M (k_Z M) B Y D) rfl rfl rfl ml_L_52 rfl rfl (Nat.le_of_ble_eq_true rfl) ⟨Nat.le_of_ble_eq_true rfl, Nat.le_of_ble_eq_true rfl⟩ dL_law_527 (fun r1 w1 h1 => ?_)
  obtain ⟨T2, J2, e1, rfl⟩ := h1
  refine q_ws (ws' := w_C (k_Z M) A ((o_go X (xs (i + 1))).2) T2 J2 ++ w_M (k_Z M) B Y D) rfl ?_
  refine q_aload_n K 1 dL_law_530 rfl ?_
  refine q_aload_n K 3 dL_law_531 rfl ?_
  refine q_iload_n K 0 dL_law_532 rfl ?_
  refine q_iconst 1 K dL_law_533 rfl ?_
  refine q_iadd K dL_law_534 ?_
  refine q_eqi (nI (i + 1)) (kn_add i 1) ?_
  refine q_sld (j := i + 1) C (by omega) hL dL_law_535 ?_
  obtain ⟨⟨m, hm, hm2, hhd⟩, hok, hkd, hh⟩ := id hY.1
  refine q_cvI (q0 := 0) (As := [.int (xs (i + 1))]) (rest := [.int r1]) K kv_X4_go (c_X4_go (k_l M) (k_Z M) B Y D m hm hm2 hok hh (xs (i + 1))) (w_C (k_Z M) A (o_go X (xs (i + 1))).2 T2 J2) [] (by rw [List.append_nil]) rfl rfl ml_L_55 rfl rfl (Nat.le_of_ble_eq_true rfl) ⟨Nat.le_of_ble_eq_true rfl, Nat.le_of_ble_eq_true rfl⟩ dL_law_536 (fun r2 w2 h2 => ?_)
  obtain ⟨D2, e2, rfl⟩ := h2
  refine q_ws (ws' := w_C (k_Z M) A ((o_go X (xs (i + 1))).2) T2 J2 ++ w_M (k_Z M) B ((o_go Y (xs (i + 1))).2) D2) (by rw [List.append_nil]) ?_
  obtain ⟨z1, z2, z3⟩ := lw_go h hr (xs (i + 1))
  refine q_icmp_eq 1637 K dL_law_539 (by decide) (fun c => ?_) (fun c => ?_)
  · exact nx _ _ T2 J2 D2 z2 z3
  · exact absurd (e1.trans (z1.trans e2.symm)) c
set_option maxHeartbeats 4000000 in
set_option maxRecDepth 100000 in
theorem law_now {M : kT} {b L : Nat} {xs : Nat → Int32} (C : l_ctx M b L xs) {A : Nat → Nat → Nat} {B : Nat → Nat} {X Y : AS} {T : FS} {J : TJ} {D : DJ} {i : Nat} (hi : i + 6 ≤ L) (hL : L ≤ 3072) (h : a_inv X) (hr : a_rel X Y) (nx : ∀ (X2 Y2 : AS) (T2 : FS) (J2 : TJ) (D2 : DJ), a_inv X2 → a_rel X2 Y2 → kJ M 4 1637 [(3, .int (nI i)), (2, .ref (B 0)), (1, .ref ((A 0) 0)), (0, .ref b)] [] (w_C (k_Z M) A X2 T2 J2 ++ w_M (k_Z M) B Y2 D2)) : kJ M 4 544 [(3, .int (nI i)), (2, .ref (B 0)), (1, .ref ((A 0) 0)), (0, .ref b)] [] (w_C (k_Z M) A X T J ++ w_M (k_Z M) B Y D) := by
  have K := C.1
  have hY := rel_inv h hr
  obtain ⟨⟨m, hm, hm2, -⟩, -⟩ := id h.1
  refine q_aload_n K 2 dL_law_544 rfl ?_
  refine q_aload_n K 3 dL_law_545 rfl ?_
  refine q_iload_n K 0 dL_law_546 rfl ?_
  refine q_iconst 1 K dL_law_547 rfl ?_
  refine q_iadd K dL_law_548 ?_
  refine q_eqi (nI (i + 1)) (kn_add i 1) ?_
  refine q_sld (j := i + 1) C (by omega) hL dL_law_549 ?_
  refine q_cvI (q0 := 0) (As := [.int (xs (i + 1))]) (rest := []) K kv_X3_now (c_X3_now (k_l M) (k_Z M) A X T J m hm hm2 (xs (i + 1))) [] (w_M (k_Z M) B Y D) rfl rfl rfl ml_L_56 rfl rfl (Nat.le_of_ble_eq_true rfl) ⟨Nat.le_of_ble_eq_true rfl, Nat.le_of_ble_eq_true rfl⟩ dL_law_550 (fun r1 w1 h1 => ?_)
  obtain ⟨T2, J2, e1, rfl⟩ := h1
  refine q_ws (ws' := w_C (k_Z M) A ((o_now X (xs (i + 1))).2) T2 J2 ++ w_M (k_Z M) B Y D) rfl ?_
  refine q_aload_n K 1 dL_law_553 rfl ?_
  refine q_aload_n K 3 dL_law_554 rfl ?_
  refine q_iload_n K 0 dL_law_555 rfl ?_
  refine q_iconst 1 K dL_law_556 rfl ?_
  refine q_iadd K dL_law_557 ?_
  refine q_eqi (nI (i + 1)) (kn_add i 1) ?_
  refine q_sld (j := i + 1) C (by omega) hL dL_law_558 ?_
  obtain ⟨⟨m, hm, hm2, hhd⟩, hok, hkd, hh⟩ := id hY.1
  refine q_cvI (q0 := 0) (As := [.int (xs (i + 1))]) (rest := [.int r1]) K kv_X4_now (c_X4_now (k_l M) (k_Z M) B Y D m hm hm2 hok (xs (i + 1))) (w_C (k_Z M) A (o_now X (xs (i + 1))).2 T2 J2) [] (by rw [List.append_nil]) rfl rfl ml_L_59 rfl rfl (Nat.le_of_ble_eq_true rfl) ⟨Nat.le_of_ble_eq_true rfl, Nat.le_of_ble_eq_true rfl⟩ dL_law_559 (fun r2 w2 h2 => ?_)
  obtain ⟨D2, e2, rfl⟩ := h2
  refine q_ws (ws' := w_C (k_Z M) A ((o_now X (xs (i + 1))).2) T2 J2 ++ w_M (k_Z M) B ((o_now Y (xs (i + 1))).2) D2) (by rw [List.append_nil]) ?_
  obtain ⟨z1, z2, z3⟩ := lw_now h hr (xs (i + 1))
  refine q_icmp_eq 1637 K dL_law_562 (by decide) (fun c => ?_) (fun c => ?_)
  · exact nx _ _ T2 J2 D2 z2 z3
  · exact absurd (e1.trans (z1.trans e2.symm)) c
set_option maxHeartbeats 4000000 in
set_option maxRecDepth 100000 in
theorem law_ahead {M : kT} {b L : Nat} {xs : Nat → Int32} (C : l_ctx M b L xs) {A : Nat → Nat → Nat} {B : Nat → Nat} {X Y : AS} {T : FS} {J : TJ} {D : DJ} {i : Nat} (hi : i + 6 ≤ L) (hL : L ≤ 3072) (h : a_inv X) (hr : a_rel X Y) (nx : ∀ (X2 Y2 : AS) (T2 : FS) (J2 : TJ) (D2 : DJ), a_inv X2 → a_rel X2 Y2 → kJ M 4 1637 [(3, .int (nI i)), (2, .ref (B 0)), (1, .ref ((A 0) 0)), (0, .ref b)] [] (w_C (k_Z M) A X2 T2 J2 ++ w_M (k_Z M) B Y2 D2)) : kJ M 4 567 [(3, .int (nI i)), (2, .ref (B 0)), (1, .ref ((A 0) 0)), (0, .ref b)] [] (w_C (k_Z M) A X T J ++ w_M (k_Z M) B Y D) := by
  have K := C.1
  have hY := rel_inv h hr
  obtain ⟨⟨m, hm, hm2, -⟩, -⟩ := id h.1
  refine q_aload_n K 2 dL_law_567 rfl ?_
  refine q_aload_n K 3 dL_law_568 rfl ?_
  refine q_iload_n K 0 dL_law_569 rfl ?_
  refine q_iconst 1 K dL_law_570 rfl ?_
  refine q_iadd K dL_law_571 ?_
  refine q_eqi (nI (i + 1)) (kn_add i 1) ?_
  refine q_sld (j := i + 1) C (by omega) hL dL_law_572 ?_
  refine q_aload_n K 3 dL_law_573 rfl ?_
  refine q_iload_n K 0 dL_law_574 rfl ?_
  refine q_iconst 2 K dL_law_575 rfl ?_
  refine q_iadd K dL_law_576 ?_
  refine q_eqi (nI (i + 2)) (kn_add i 2) ?_
  refine q_sld (j := i + 2) C (by omega) hL dL_law_577 ?_
  refine q_cvI (q0 := 0) (As := [.int (xs (i + 1)), .int (xs (i + 2))]) (rest := []) K kv_X3_ahead (c_X3_ahead (k_l M) (k_Z M) A X T J m hm hm2 (xs (i + 1)) (xs (i + 2))) [] (w_M (k_Z M) B Y D) rfl rfl rfl ml_L_60 rfl rfl (Nat.le_of_ble_eq_true rfl) ⟨Nat.le_of_ble_eq_true rfl, Nat.le_of_ble_eq_true rfl⟩ dL_law_578 (fun r1 w1 h1 => ?_)
  obtain ⟨T2, J2, e1, rfl⟩ := h1
  refine q_ws (ws' := w_C (k_Z M) A ((o_ahead X (xs (i + 1)) (xs (i + 2))).2) T2 J2 ++ w_M (k_Z M) B Y D) rfl ?_
  refine q_aload_n K 1 dL_law_581 rfl ?_
  refine q_aload_n K 3 dL_law_582 rfl ?_
  refine q_iload_n K 0 dL_law_583 rfl ?_
  refine q_iconst 1 K dL_law_584 rfl ?_
  refine q_iadd K dL_law_585 ?_
  refine q_eqi (nI (i + 1)) (kn_add i 1) ?_
  refine q_sld (j := i + 1) C (by omega) hL dL_law_586 ?_
  refine q_aload_n K 3 dL_law_587 rfl ?_
  refine q_iload_n K 0 dL_law_588 rfl ?_
  refine q_iconst 2 K dL_law_589 rfl ?_
  refine q_iadd K dL_law_590 ?_
  refine q_eqi (nI (i + 2)) (kn_add i 2) ?_
  refine q_sld (j := i + 2) C (by omega) hL dL_law_591 ?_
  obtain ⟨⟨m, hm, hm2, hhd⟩, hok, hkd, hh⟩ := id hY.1
  refine q_cvI (q0 := 0) (As := [.int (xs (i + 1)), .int (xs (i + 2))]) (rest := [.int r1]) K kv_X4_ahead (c_X4_ahead (k_l M) (k_Z M) B Y D m hm hm2 hok (xs (i + 1)) (xs (i + 2))) (w_C (k_Z M) A (o_ahead X (xs (i + 1)) (xs (i + 2))).2 T2 J2) [] (by rw [List.append_nil]) rfl rfl ml_L_63 rfl rfl (Nat.le_of_ble_eq_true rfl) ⟨Nat.le_of_ble_eq_true rfl, Nat.le_of_ble_eq_true rfl⟩ dL_law_592 (fun r2 w2 h2 => ?_)
  obtain ⟨D2, e2, rfl⟩ := h2
  refine q_ws (ws' := w_C (k_Z M) A ((o_ahead X (xs (i + 1)) (xs (i + 2))).2) T2 J2 ++ w_M (k_Z M) B ((o_ahead Y (xs (i + 1)) (xs (i + 2))).2) D2) (by rw [List.append_nil]) ?_
  obtain ⟨z1, z2, z3⟩ := lw_ahead h hr (xs (i + 1)) (xs (i + 2))
  refine q_icmp_eq 1637 K dL_law_595 (by decide) (fun c => ?_) (fun c => ?_)
  · exact nx _ _ T2 J2 D2 z2 z3
  · exact absurd (e1.trans (z1.trans e2.symm)) c
set_option maxHeartbeats 4000000 in
set_option maxRecDepth 100000 in
theorem law_stand {M : kT} {b L : Nat} {xs : Nat → Int32} (C : l_ctx M b L xs) {A : Nat → Nat → Nat} {B : Nat → Nat} {X Y : AS} {T : FS} {J : TJ} {D : DJ} {i : Nat} (hi : i + 6 ≤ L) (hL : L ≤ 3072) (h : a_inv X) (hr : a_rel X Y) (nx : ∀ (X2 Y2 : AS) (T2 : FS) (J2 : TJ) (D2 : DJ), a_inv X2 → a_rel X2 Y2 → kJ M 4 1637 [(3, .int (nI i)), (2, .ref (B 0)), (1, .ref ((A 0) 0)), (0, .ref b)] [] (w_C (k_Z M) A X2 T2 J2 ++ w_M (k_Z M) B Y2 D2)) : kJ M 4 600 [(3, .int (nI i)), (2, .ref (B 0)), (1, .ref ((A 0) 0)), (0, .ref b)] [] (w_C (k_Z M) A X T J ++ w_M (k_Z M) B Y D) := by
  have K := C.1
  have hY := rel_inv h hr
  obtain ⟨⟨m, hm, hm2, -⟩, -⟩ := id h.1
  refine q_aload_n K 2 dL_law_600 rfl ?_
  refine q_aload_n K 3 dL_law_601 rfl ?_
  refine q_iload_n K 0 dL_law_602 rfl ?_
  refine q_iconst 1 K dL_law_603 rfl ?_
  refine q_iadd K dL_law_604 ?_
  refine q_eqi (nI (i + 1)) (kn_add i 1) ?_
  refine q_sld (j := i + 1) C (by omega) hL dL_law_605 ?_
  refine q_aload_n K 3 dL_law_606 rfl ?_
  refine q_iload_n K 0 dL_law_607 rfl ?_
  refine q_iconst 2 K dL_law_608 rfl ?_
  refine q_iadd K dL_law_609 ?_
  refine q_eqi (nI (i + 2)) (kn_add i 2) ?_
  refine q_sld (j := i + 2) C (by omega) hL dL_law_610 ?_
  refine q_cvI (q0 := 0) (As := [.int (xs (i + 1)), .int (xs (i + 2))]) (rest := []) K kv_X3_stand (c_X3_stand (k_l M) (k_Z M) A X T J m hm hm2 (xs (i + 1)) (xs (i + 2))) [] (w_M (k_Z M) B Y D) rfl rfl rfl ml_L_64 rfl rfl (Nat.le_of_ble_eq_true rfl) ⟨Nat.le_of_ble_eq_true rfl, Nat.le_of_ble_eq_true rfl⟩ dL_law_611 (fun r1 w1 h1 => ?_)
  obtain ⟨T2, J2, e1, rfl⟩ := h1
  refine q_ws (ws' := w_C (k_Z M) A ((o_stand X (xs (i + 1)) (xs (i + 2))).2) T2 J2 ++ w_M (k_Z M) B Y D) rfl ?_
  refine q_aload_n K 1 dL_law_614 rfl ?_
  refine q_aload_n K 3 dL_law_615 rfl ?_
  refine q_iload_n K 0 dL_law_616 rfl ?_
  refine q_iconst 1 K dL_law_617 rfl ?_
  refine q_iadd K dL_law_618 ?_
  refine q_eqi (nI (i + 1)) (kn_add i 1) ?_
  refine q_sld (j := i + 1) C (by omega) hL dL_law_619 ?_
  refine q_aload_n K 3 dL_law_620 rfl ?_
  refine q_iload_n K 0 dL_law_621 rfl ?_
  refine q_iconst 2 K dL_law_622 rfl ?_
  refine q_iadd K dL_law_623 ?_
  refine q_eqi (nI (i + 2)) (kn_add i 2) ?_
  refine q_sld (j := i + 2) C (by omega) hL dL_law_624 ?_
  obtain ⟨⟨m, hm, hm2, hhd⟩, hok, hkd, hh⟩ := id hY.1
  refine q_cvI (q0 := 0) (As := [.int (xs (i + 1)), .int (xs (i + 2))]) (rest := [.int r1]) K kv_X4_stand (c_X4_stand (k_l M) (k_Z M) B Y D m hm hm2 hok (xs (i + 1)) (xs (i + 2))) (w_C (k_Z M) A (o_stand X (xs (i + 1)) (xs (i + 2))).2 T2 J2) [] (by rw [List.append_nil]) rfl rfl ml_L_67 rfl rfl (Nat.le_of_ble_eq_true rfl) ⟨Nat.le_of_ble_eq_true rfl, Nat.le_of_ble_eq_true rfl⟩ dL_law_625 (fun r2 w2 h2 => ?_)
  obtain ⟨D2, e2, rfl⟩ := h2
  refine q_ws (ws' := w_C (k_Z M) A ((o_stand X (xs (i + 1)) (xs (i + 2))).2) T2 J2 ++ w_M (k_Z M) B ((o_stand Y (xs (i + 1)) (xs (i + 2))).2) D2) (by rw [List.append_nil]) ?_
  obtain ⟨z1, z2, z3⟩ := lw_stand h hr (xs (i + 1)) (xs (i + 2))
  refine q_icmp_eq 1637 K dL_law_628 (by decide) (fun c => ?_) (fun c => ?_)
  · exact nx _ _ T2 J2 D2 z2 z3
  · exact absurd (e1.trans (z1.trans e2.symm)) c
set_option maxHeartbeats 4000000 in
set_option maxRecDepth 100000 in
theorem law_where {M : kT} {b L : Nat} {xs : Nat → Int32} (C : l_ctx M b L xs) {A : Nat → Nat → Nat} {B : Nat → Nat} {X Y : AS} {T : FS} {J : TJ} {D : DJ} {i : Nat} (hi : i + 6 ≤ L) (hL : L ≤ 3072) (h : a_inv X) (hr : a_rel X Y) (nx : ∀ (X2 Y2 : AS) (T2 : FS) (J2 : TJ) (D2 : DJ), a_inv X2 → a_rel X2 Y2 → kJ M 4 1637 [(3, .int (nI i)), (2, .ref (B 0)), (1, .ref ((A 0) 0)), (0, .ref b)] [] (w_C (k_Z M) A X2 T2 J2 ++ w_M (k_Z M) B Y2 D2)) : kJ M 4 633 [(3, .int (nI i)), (2, .ref (B 0)), (1, .ref ((A 0) 0)), (0, .ref b)] [] (w_C (k_Z M) A X T J ++ w_M (k_Z M) B Y D) := by
  have K := C.1
  have hY := rel_inv h hr
  obtain ⟨⟨m, hm, hm2, -⟩, -⟩ := id h.1
  refine q_aload_n K 2 dL_law_633 rfl ?_
  refine q_aload_n K 3 dL_law_634 rfl ?_
  refine q_iload_n K 0 dL_law_635 rfl ?_
  refine q_iconst 1 K dL_law_636 rfl ?_
  refine q_iadd K dL_law_637 ?_
  refine q_eqi (nI (i + 1)) (kn_add i 1) ?_
  refine q_sld (j := i + 1) C (by omega) hL dL_law_638 ?_
  refine q_aload_n K 3 dL_law_639 rfl ?_
  refine q_iload_n K 0 dL_law_640 rfl ?_
  refine q_iconst 2 K dL_law_641 rfl ?_
  refine q_iadd K dL_law_642 ?_
  refine q_eqi (nI (i + 2)) (kn_add i 2) ?_
  refine q_sld (j := i + 2) C (by omega) hL dL_law_643 ?_
  refine q_aload_n K 3 dL_law_644 rfl ?_
  refine q_iload_n K 0 dL_law_645 rfl ?_
  refine q_iconst 3 K dL_law_646 rfl ?_
  refine q_iadd K dL_law_647 ?_
  refine q_eqi (nI (i + 3)) (kn_add i 3) ?_
  refine q_sld (j := i + 3) C (by omega) hL dL_law_648 ?_
  refine q_cvI (q0 := 0) (As := [.int (xs (i + 1)), .int (xs (i + 2)), .int (xs (i + 3))]) (rest := []) K kv_X3_where (c_X3_where (k_l M) (k_Z M) A X T J m hm hm2 (xs (i + 1)) (xs (i + 2)) (xs (i + 3))) [] (w_M (k_Z M) B Y D) rfl rfl rfl ml_L_68 rfl rfl (Nat.le_of_ble_eq_true rfl) ⟨Nat.le_of_ble_eq_true rfl, Nat.le_of_ble_eq_true rfl⟩ dL_law_649 (fun r1 w1 h1 => ?_)
  obtain ⟨T2, J2, e1, rfl⟩ := h1
  refine q_ws (ws' := w_C (k_Z M) A ((o_where X (xs (i + 1)) (xs (i + 2)) (xs (i + 3))).2) T2 J2 ++ w_M (k_Z M) B Y D) rfl ?_
  refine q_aload_n K 1 dL_law_652 rfl ?_
  refine q_aload_n K 3 dL_law_653 rfl ?_
  refine q_iload_n K 0 dL_law_654 rfl ?_
  refine q_iconst 1 K dL_law_655 rfl ?_
  refine q_iadd K dL_law_656 ?_
  refine q_eqi (nI (i + 1)) (kn_add i 1) ?_
  refine q_sld (j := i + 1) C (by omega) hL dL_law_657 ?_
  refine q_aload_n K 3 dL_law_658 rfl ?_
  refine q_iload_n K 0 dL_law_659 rfl ?_
  refine q_iconst 2 K dL_law_660 rfl ?_
  refine q_iadd K dL_law_661 ?_
  refine q_eqi (nI (i + 2)) (kn_add i 2) ?_
  refine q_sld (j := i + 2) C (by omega) hL dL_law_662 ?_
  refine q_aload_n K 3 dL_law_663 rfl ?_
  refine q_iload_n K 0 dL_law_664 rfl ?_
  refine q_iconst 3 K dL_law_665 rfl ?_
  refine q_iadd K dL_law_666 ?_
  refine q_eqi (nI (i + 3)) (kn_add i 3) ?_
  refine q_sld (j := i + 3) C (by omega) hL dL_law_667 ?_
  obtain ⟨⟨m, hm, hm2, hhd⟩, hok, hkd, hh⟩ := id hY.1
  refine q_cvI (q0 := 0) (As := [.int (xs (i + 1)), .int (xs (i + 2)), .int (xs (i + 3))]) (rest := [.int r1]) K kv_X4_where (c_X4_where (k_l M) (k_Z M) B Y D m hm hm2 hok (xs (i + 1)) (xs (i + 2)) (xs (i + 3))) (w_C (k_Z M) A (o_where X (xs (i + 1)) (xs (i + 2)) (xs (i + 3))).2 T2 J2) [] (by rw [List.append_nil]) rfl rfl ml_L_71 rfl rfl (Nat.le_of_ble_eq_true rfl) ⟨Nat.le_of_ble_eq_true rfl, Nat.le_of_ble_eq_true rfl⟩ dL_law_668 (fun r2 w2 h2 => ?_)
  obtain ⟨D2, e2, rfl⟩ := h2
  refine q_ws (ws' := w_C (k_Z M) A ((o_where X (xs (i + 1)) (xs (i + 2)) (xs (i + 3))).2) T2 J2 ++ w_M (k_Z M) B ((o_where Y (xs (i + 1)) (xs (i + 2)) (xs (i + 3))).2) D2) (by rw [List.append_nil]) ?_
  obtain ⟨z1, z2, z3⟩ := lw_where h hr (xs (i + 1)) (xs (i + 2)) (xs (i + 3))
  refine q_icmp_eq 1637 K dL_law_671 (by decide) (fun c => ?_) (fun c => ?_)
  · exact nx _ _ T2 J2 D2 z2 z3
  · exact absurd (e1.trans (z1.trans e2.symm)) c
set_option maxHeartbeats 4000000 in
set_option maxRecDepth 100000 in
theorem law_corn {M : kT} {b L : Nat} {xs : Nat → Int32} (C : l_ctx M b L xs) {A : Nat → Nat → Nat} {B : Nat → Nat} {X Y : AS} {T : FS} {J : TJ} {D : DJ} {i : Nat} (hi : i + 6 ≤ L) (hL : L ≤ 3072) (h : a_inv X) (hr : a_rel X Y) (nx : ∀ (X2 Y2 : AS) (T2 : FS) (J2 : TJ) (D2 : DJ), a_inv X2 → a_rel X2 Y2 → kJ M 4 1637 [(3, .int (nI i)), (2, .ref (B 0)), (1, .ref ((A 0) 0)), (0, .ref b)] [] (w_C (k_Z M) A X2 T2 J2 ++ w_M (k_Z M) B Y2 D2)) : kJ M 4 676 [(3, .int (nI i)), (2, .ref (B 0)), (1, .ref ((A 0) 0)), (0, .ref b)] [] (w_C (k_Z M) A X T J ++ w_M (k_Z M) B Y D) := by
  have K := C.1
  have hY := rel_inv h hr
  obtain ⟨⟨m, hm, hm2, -⟩, -⟩ := id h.1
  refine q_aload_n K 2 dL_law_676 rfl ?_
  refine q_aload_n K 3 dL_law_677 rfl ?_
  refine q_iload_n K 0 dL_law_678 rfl ?_
  refine q_iconst 1 K dL_law_679 rfl ?_
  refine q_iadd K dL_law_680 ?_
  refine q_eqi (nI (i + 1)) (kn_add i 1) ?_
  refine q_sld (j := i + 1) C (by omega) hL dL_law_681 ?_
  refine q_aload_n K 3 dL_law_682 rfl ?_
  refine q_iload_n K 0 dL_law_683 rfl ?_
  refine q_iconst 2 K dL_law_684 rfl ?_
  refine q_iadd K dL_law_685 ?_
  refine q_eqi (nI (i + 2)) (kn_add i 2) ?_
  refine q_sld (j := i + 2) C (by omega) hL dL_law_686 ?_
  refine q_cvI (q0 := 0) (As := [.int (xs (i + 1)), .int (xs (i + 2))]) (rest := []) K kv_X3_corn (c_X3_corn (k_l M) (k_Z M) A X T J m hm hm2 (xs (i + 1)) (xs (i + 2))) [] (w_M (k_Z M) B Y D) rfl rfl rfl ml_L_72 rfl rfl (Nat.le_of_ble_eq_true rfl) ⟨Nat.le_of_ble_eq_true rfl, Nat.le_of_ble_eq_true rfl⟩ dL_law_687 (fun r1 w1 h1 => ?_)
  obtain ⟨T2, J2, e1, rfl⟩ := h1
  refine q_ws (ws' := w_C (k_Z M) A ((o_corn X (xs (i + 1)) (xs (i + 2))).2) T2 J2 ++ w_M (k_Z M) B Y D) rfl ?_
  refine q_aload_n K 1 dL_law_690 rfl ?_
  refine q_aload_n K 3 dL_law_691 rfl ?_
  refine q_iload_n K 0 dL_law_692 rfl ?_
  refine q_iconst 1 K dL_law_693 rfl ?_
  refine q_iadd K dL_law_694 ?_
  refine q_eqi (nI (i + 1)) (kn_add i 1) ?_
  refine q_sld (j := i + 1) C (by omega) hL dL_law_695 ?_
  refine q_aload_n K 3 dL_law_696 rfl ?_
  refine q_iload_n K 0 dL_law_697 rfl ?_
  refine q_iconst 2 K dL_law_698 rfl ?_
  refine q_iadd K dL_law_699 ?_
  refine q_eqi (nI (i + 2)) (kn_add i 2) ?_
  refine q_sld (j := i + 2) C (by omega) hL dL_law_700 ?_
  obtain ⟨⟨m, hm, hm2, hhd⟩, hok, hkd, hh⟩ := id hY.1
  refine q_cvI (q0 := 0) (As := [.int (xs (i + 1)), .int (xs (i + 2))]) (rest := [.int r1]) K kv_X4_corn (c_X4_corn (k_l M) (k_Z M) B Y D m hm hm2 hok (xs (i + 1)) (xs (i + 2))) (w_C (k_Z M) A (o_corn X (xs (i + 1)) (xs (i + 2))).2 T2 J2) [] (by rw [List.append_nil]) rfl rfl ml_L_75 rfl rfl (Nat.le_of_ble_eq_true rfl) ⟨Nat.le_of_ble_eq_true rfl, Nat.le_of_ble_eq_true rfl⟩ dL_law_701 (fun r2 w2 h2 => ?_)
  obtain ⟨D2, e2, rfl⟩ := h2
  refine q_ws (ws' := w_C (k_Z M) A ((o_corn X (xs (i + 1)) (xs (i + 2))).2) T2 J2 ++ w_M (k_Z M) B ((o_corn Y (xs (i + 1)) (xs (i + 2))).2) D2) (by rw [List.append_nil]) ?_
  obtain ⟨z1, z2, z3⟩ := lw_corn h hr (xs (i + 1)) (xs (i + 2))
  refine q_icmp_eq 1637 K dL_law_704 (by decide) (fun c => ?_) (fun c => ?_)
  · exact nx _ _ T2 J2 D2 z2 z3
  · exact absurd (e1.trans (z1.trans e2.symm)) c
set_option maxHeartbeats 4000000 in
set_option maxRecDepth 100000 in
theorem law_when {M : kT} {b L : Nat} {xs : Nat → Int32} (C : l_ctx M b L xs) {A : Nat → Nat → Nat} {B : Nat → Nat} {X Y : AS} {T : FS} {J : TJ} {D : DJ} {i : Nat} (hi : i + 6 ≤ L) (hL : L ≤ 3072) (h : a_inv X) (hr : a_rel X Y) (nx : ∀ (X2 Y2 : AS) (T2 : FS) (J2 : TJ) (D2 : DJ), a_inv X2 → a_rel X2 Y2 → kJ M 4 1637 [(3, .int (nI i)), (2, .ref (B 0)), (1, .ref ((A 0) 0)), (0, .ref b)] [] (w_C (k_Z M) A X2 T2 J2 ++ w_M (k_Z M) B Y2 D2)) : kJ M 4 709 [(3, .int (nI i)), (2, .ref (B 0)), (1, .ref ((A 0) 0)), (0, .ref b)] [] (w_C (k_Z M) A X T J ++ w_M (k_Z M) B Y D) := by
  have K := C.1
  have hY := rel_inv h hr
  obtain ⟨⟨m, hm, hm2, -⟩, -⟩ := id h.1
  refine q_aload_n K 2 dL_law_709 rfl ?_
  refine q_aload_n K 3 dL_law_710 rfl ?_
  refine q_iload_n K 0 dL_law_711 rfl ?_
  refine q_iconst 1 K dL_law_712 rfl ?_
  refine q_iadd K dL_law_713 ?_
  refine q_eqi (nI (i + 1)) (kn_add i 1) ?_
  refine q_sld (j := i + 1) C (by omega) hL dL_law_714 ?_
  refine q_aload_n K 3 dL_law_715 rfl ?_
  refine q_iload_n K 0 dL_law_716 rfl ?_
  refine q_iconst 2 K dL_law_717 rfl ?_
  refine q_iadd K dL_law_718 ?_
  refine q_eqi (nI (i + 2)) (kn_add i 2) ?_
  refine q_sld (j := i + 2) C (by omega) hL dL_law_719 ?_
  refine q_cvI (q0 := 0) (As := [.int (xs (i + 1)), .int (xs (i + 2))]) (rest := []) K kv_X3_when (c_X3_when (k_l M) (k_Z M) A X T J m hm hm2 (xs (i + 1)) (xs (i + 2))) [] (w_M (k_Z M) B Y D) rfl rfl rfl ml_L_76 rfl rfl (Nat.le_of_ble_eq_true rfl) ⟨Nat.le_of_ble_eq_true rfl, Nat.le_of_ble_eq_true rfl⟩ dL_law_720 (fun r1 w1 h1 => ?_)
  obtain ⟨T2, J2, e1, rfl⟩ := h1
  refine q_ws (ws' := w_C (k_Z M) A ((o_when X (xs (i + 1)) (xs (i + 2))).2) T2 J2 ++ w_M (k_Z M) B Y D) rfl ?_
  refine q_aload_n K 1 dL_law_723 rfl ?_
  refine q_aload_n K 3 dL_law_724 rfl ?_
  refine q_iload_n K 0 dL_law_725 rfl ?_
  refine q_iconst 1 K dL_law_726 rfl ?_
  refine q_iadd K dL_law_727 ?_
  refine q_eqi (nI (i + 1)) (kn_add i 1) ?_
  refine q_sld (j := i + 1) C (by omega) hL dL_law_728 ?_
  refine q_aload_n K 3 dL_law_729 rfl ?_
  refine q_iload_n K 0 dL_law_730 rfl ?_
  refine q_iconst 2 K dL_law_731 rfl ?_
  refine q_iadd K dL_law_732 ?_
  refine q_eqi (nI (i + 2)) (kn_add i 2) ?_
  refine q_sld (j := i + 2) C (by omega) hL dL_law_733 ?_
  obtain ⟨⟨m, hm, hm2, hhd⟩, hok, hkd, hh⟩ := id hY.1
  refine q_cvI (q0 := 0) (As := [.int (xs (i + 1)), .int (xs (i + 2))]) (rest := [.int r1]) K kv_X4_when (c_X4_when (k_l M) (k_Z M) B Y D m hm hm2 hok (xs (i + 1)) (xs (i + 2))) (w_C (k_Z M) A (o_when X (xs (i + 1)) (xs (i + 2))).2 T2 J2) [] (by rw [List.append_nil]) rfl rfl ml_L_79 rfl rfl (Nat.le_of_ble_eq_true rfl) ⟨Nat.le_of_ble_eq_true rfl, Nat.le_of_ble_eq_true rfl⟩ dL_law_734 (fun r2 w2 h2 => ?_)
  obtain ⟨D2, e2, rfl⟩ := h2
  refine q_ws (ws' := w_C (k_Z M) A ((o_when X (xs (i + 1)) (xs (i + 2))).2) T2 J2 ++ w_M (k_Z M) B ((o_when Y (xs (i + 1)) (xs (i + 2))).2) D2) (by rw [List.append_nil]) ?_
  obtain ⟨z1, z2, z3⟩ := lw_when h hr (xs (i + 1)) (xs (i + 2))
  refine q_icmp_eq 1637 K dL_law_737 (by decide) (fun c => ?_) (fun c => ?_)
  · exact nx _ _ T2 J2 D2 z2 z3
  · exact absurd (e1.trans (z1.trans e2.symm)) c
set_option maxHeartbeats 4000000 in
set_option maxRecDepth 100000 in
theorem law_meet {M : kT} {b L : Nat} {xs : Nat → Int32} (C : l_ctx M b L xs) {A : Nat → Nat → Nat} {B : Nat → Nat} {X Y : AS} {T : FS} {J : TJ} {D : DJ} {i : Nat} (hi : i + 6 ≤ L) (hL : L ≤ 3072) (h : a_inv X) (hr : a_rel X Y) (nx : ∀ (X2 Y2 : AS) (T2 : FS) (J2 : TJ) (D2 : DJ), a_inv X2 → a_rel X2 Y2 → kJ M 4 1637 [(3, .int (nI i)), (2, .ref (B 0)), (1, .ref ((A 0) 0)), (0, .ref b)] [] (w_C (k_Z M) A X2 T2 J2 ++ w_M (k_Z M) B Y2 D2)) : kJ M 4 742 [(3, .int (nI i)), (2, .ref (B 0)), (1, .ref ((A 0) 0)), (0, .ref b)] [] (w_C (k_Z M) A X T J ++ w_M (k_Z M) B Y D) := by
  have K := C.1
  have hY := rel_inv h hr
  obtain ⟨⟨m, hm, hm2, -⟩, -⟩ := id h.1
  refine q_aload_n K 2 dL_law_742 rfl ?_
  refine q_aload_n K 3 dL_law_743 rfl ?_
  refine q_iload_n K 0 dL_law_744 rfl ?_
  refine q_iconst 1 K dL_law_745 rfl ?_
  refine q_iadd K dL_law_746 ?_
  refine q_eqi (nI (i + 1)) (kn_add i 1) ?_
  refine q_sld (j := i + 1) C (by omega) hL dL_law_747 ?_
  refine q_aload_n K 3 dL_law_748 rfl ?_
  refine q_iload_n K 0 dL_law_749 rfl ?_
  refine q_iconst 2 K dL_law_750 rfl ?_
  refine q_iadd K dL_law_751 ?_
  refine q_eqi (nI (i + 2)) (kn_add i 2) ?_
  refine q_sld (j := i + 2) C (by omega) hL dL_law_752 ?_
  refine q_cvI (q0 := 0) (As := [.int (xs (i + 1)), .int (xs (i + 2))]) (rest := []) K kv_X3_meet (c_X3_meet (k_l M) (k_Z M) A X T J m hm hm2 (xs (i + 1)) (xs (i + 2))) [] (w_M (k_Z M) B Y D) rfl rfl rfl ml_L_80 rfl rfl (Nat.le_of_ble_eq_true rfl) ⟨Nat.le_of_ble_eq_true rfl, Nat.le_of_ble_eq_true rfl⟩ dL_law_753 (fun r1 w1 h1 => ?_)
  obtain ⟨T2, J2, e1, rfl⟩ := h1
  refine q_ws (ws' := w_C (k_Z M) A ((o_meet X (xs (i + 1)) (xs (i + 2))).2) T2 J2 ++ w_M (k_Z M) B Y D) rfl ?_
  refine q_aload_n K 1 dL_law_756 rfl ?_
  refine q_aload_n K 3 dL_law_757 rfl ?_
  refine q_iload_n K 0 dL_law_758 rfl ?_
  refine q_iconst 1 K dL_law_759 rfl ?_
  refine q_iadd K dL_law_760 ?_
  refine q_eqi (nI (i + 1)) (kn_add i 1) ?_
  refine q_sld (j := i + 1) C (by omega) hL dL_law_761 ?_
  refine q_aload_n K 3 dL_law_762 rfl ?_
  refine q_iload_n K 0 dL_law_763 rfl ?_
  refine q_iconst 2 K dL_law_764 rfl ?_
  refine q_iadd K dL_law_765 ?_
  refine q_eqi (nI (i + 2)) (kn_add i 2) ?_
  refine q_sld (j := i + 2) C (by omega) hL dL_law_766 ?_
  obtain ⟨⟨m, hm, hm2, hhd⟩, hok, hkd, hh⟩ := id hY.1
  refine q_cvI (q0 := 0) (As := [.int (xs (i + 1)), .int (xs (i + 2))]) (rest := [.int r1]) K kv_X4_meet (c_X4_meet (k_l M) (k_Z M) B Y D m hm hm2 hok (xs (i + 1)) (xs (i + 2))) (w_C (k_Z M) A (o_meet X (xs (i + 1)) (xs (i + 2))).2 T2 J2) [] (by rw [List.append_nil]) rfl rfl ml_L_83 rfl rfl (Nat.le_of_ble_eq_true rfl) ⟨Nat.le_of_ble_eq_true rfl, Nat.le_of_ble_eq_true rfl⟩ dL_law_767 (fun r2 w2 h2 => ?_)
  obtain ⟨D2, e2, rfl⟩ := h2
  refine q_ws (ws' := w_C (k_Z M) A ((o_meet X (xs (i + 1)) (xs (i + 2))).2) T2 J2 ++ w_M (k_Z M) B ((o_meet Y (xs (i + 1)) (xs (i + 2))).2) D2) (by rw [List.append_nil]) ?_
  obtain ⟨z1, z2, z3⟩ := lw_meet h hr (xs (i + 1)) (xs (i + 2))
  refine q_icmp_eq 1637 K dL_law_770 (by decide) (fun c => ?_) (fun c => ?_)
  · exact nx _ _ T2 J2 D2 z2 z3
  · exact absurd (e1.trans (z1.trans e2.symm)) c
set_option maxHeartbeats 4000000 in
set_option maxRecDepth 100000 in
theorem law_start {M : kT} {b L : Nat} {xs : Nat → Int32} (C : l_ctx M b L xs) {A : Nat → Nat → Nat} {B : Nat → Nat} {X Y : AS} {T : FS} {J : TJ} {D : DJ} {i : Nat} (hi : i + 6 ≤ L) (hL : L ≤ 3072) (h : a_inv X) (hr : a_rel X Y) (nx : ∀ (X2 Y2 : AS) (T2 : FS) (J2 : TJ) (D2 : DJ), a_inv X2 → a_rel X2 Y2 → kJ M 4 1637 [(3, .int (nI i)), (2, .ref (B 0)), (1, .ref ((A 0) 0)), (0, .ref b)] [] (w_C (k_Z M) A X2 T2 J2 ++ w_M (k_Z M) B Y2 D2)) : kJ M 4 775 [(3, .int (nI i)), (2, .ref (B 0)), (1, .ref ((A 0) 0)), (0, .ref b)] [] (w_C (k_Z M) A X T J ++ w_M (k_Z M) B Y D) := by
  have K := C.1
  have hY := rel_inv h hr
  obtain ⟨⟨m, hm, hm2, -⟩, -⟩ := id h.1
  refine q_aload_n K 2 dL_law_775 rfl ?_
  refine q_aload_n K 3 dL_law_776 rfl ?_
  refine q_iload_n K 0 dL_law_777 rfl ?_
  refine q_iconst 1 K dL_law_778 rfl ?_
  refine q_iadd K dL_law_779 ?_
  refine q_eqi (nI (i + 1)) (kn_add i 1) ?_
  refine q_sld (j := i + 1) C (by omega) hL dL_law_780 ?_
  refine q_aload_n K 3 dL_law_781 rfl ?_
  refine q_iload_n K 0 dL_law_782 rfl ?_
  refine q_iconst 2 K dL_law_783 rfl ?_
  refine q_iadd K dL_law_784 ?_
  refine q_eqi (nI (i + 2)) (kn_add i 2) ?_
  refine q_sld (j := i + 2) C (by omega) hL dL_law_785 ?_
  refine q_aload_n K 3 dL_law_786 rfl ?_
  refine q_iload_n K 0 dL_law_787 rfl ?_
  refine q_iconst 3 K dL_law_788 rfl ?_
  refine q_iadd K dL_law_789 ?_
  refine q_eqi (nI (i + 3)) (kn_add i 3) ?_
  refine q_sld (j := i + 3) C (by omega) hL dL_law_790 ?_
  refine q_aload_n K 3 dL_law_791 rfl ?_
  refine q_iload_n K 0 dL_law_792 rfl ?_
  refine q_iconst 4 K dL_law_793 rfl ?_
  refine q_iadd K dL_law_794 ?_
  refine q_eqi (nI (i + 4)) (kn_add i 4) ?_
  refine q_sld (j := i + 4) C (by omega) hL dL_law_795 ?_
  refine q_cvI (q0 := 0) (As := [.int (xs (i + 1)), .int (xs (i + 2)), .int (xs (i + 3)), .int (xs (i + 4))]) (rest := []) K kv_X3_start (c_X3_start (k_l M) (k_Z M) A X T J m hm hm2 (xs (i + 1)) (xs (i + 2)) (xs (i + 3)) (xs (i + 4))) [] (w_M (k_Z M) B Y D) rfl rfl rfl ml_L_84 rfl rfl (Nat.le_of_ble_eq_true rfl) ⟨Nat.le_of_ble_eq_true rfl, Nat.le_of_ble_eq_true rfl⟩ dL_law_796 (fun r1 w1 h1 => ?_)
  obtain ⟨T2, J2, e1, rfl⟩ := h1
  refine q_ws (ws' := w_C (k_Z M) A ((o_start X (xs (i + 1)) (xs (i + 2)) (xs (i + 3)) (xs (i + 4))).2) T2 J2 ++ w_M (k_Z M) B Y D) rfl ?_
  refine q_aload_n K 1 dL_law_799 rfl ?_
  refine q_aload_n K 3 dL_law_800 rfl ?_
  refine q_iload_n K 0 dL_law_801 rfl ?_
  refine q_iconst 1 K dL_law_802 rfl ?_
  refine q_iadd K dL_law_803 ?_
  refine q_eqi (nI (i + 1)) (kn_add i 1) ?_
  refine q_sld (j := i + 1) C (by omega) hL dL_law_804 ?_
  refine q_aload_n K 3 dL_law_805 rfl ?_
  refine q_iload_n K 0 dL_law_806 rfl ?_
  refine q_iconst 2 K dL_law_807 rfl ?_
  refine q_iadd K dL_law_808 ?_
  refine q_eqi (nI (i + 2)) (kn_add i 2) ?_
  refine q_sld (j := i + 2) C (by omega) hL dL_law_809 ?_
  refine q_aload_n K 3 dL_law_810 rfl ?_
  refine q_iload_n K 0 dL_law_811 rfl ?_
  refine q_iconst 3 K dL_law_812 rfl ?_
  refine q_iadd K dL_law_813 ?_
  refine q_eqi (nI (i + 3)) (kn_add i 3) ?_
  refine q_sld (j := i + 3) C (by omega) hL dL_law_814 ?_
  refine q_aload_n K 3 dL_law_815 rfl ?_
  refine q_iload_n K 0 dL_law_816 rfl ?_
  refine q_iconst 4 K dL_law_817 rfl ?_
  refine q_iadd K dL_law_818 ?_
  refine q_eqi (nI (i + 4)) (kn_add i 4) ?_
  refine q_sld (j := i + 4) C (by omega) hL dL_law_819 ?_
  obtain ⟨⟨m, hm, hm2, hhd⟩, hok, hkd, hh⟩ := id hY.1
  refine q_cvI (q0 := 0) (As := [.int (xs (i + 1)), .int (xs (i + 2)), .int (xs (i + 3)), .int (xs (i + 4))]) (rest := [.int r1]) K kv_X4_start (c_X4_start (k_l M) (k_Z M) B Y D m hm hm2 hok (xs (i + 1)) (xs (i + 2)) (xs (i + 3)) (xs (i + 4))) (w_C (k_Z M) A (o_start X (xs (i + 1)) (xs (i + 2)) (xs (i + 3)) (xs (i + 4))).2 T2 J2) [] (by rw [List.append_nil]) rfl rfl ml_L_88 rfl rfl (Nat.le_of_ble_eq_true rfl) ⟨Nat.le_of_ble_eq_true rfl, Nat.le_of_ble_eq_true rfl⟩ dL_law_820 (fun r2 w2 h2 => ?_)
  obtain ⟨D2, e2, rfl⟩ := h2
  refine q_ws (ws' := w_C (k_Z M) A ((o_start X (xs (i + 1)) (xs (i + 2)) (xs (i + 3)) (xs (i + 4))).2) T2 J2 ++ w_M (k_Z M) B ((o_start Y (xs (i + 1)) (xs (i + 2)) (xs (i + 3)) (xs (i + 4))).2) D2) (by rw [List.append_nil]) ?_
  obtain ⟨z1, z2, z3⟩ := lw_start h hr (xs (i + 1)) (xs (i + 2)) (xs (i + 3)) (xs (i + 4))
  refine q_icmp_eq 1637 K dL_law_823 (by decide) (fun c => ?_) (fun c => ?_)
  · exact nx _ _ T2 J2 D2 z2 z3
  · exact absurd (e1.trans (z1.trans e2.symm)) c
set_option maxHeartbeats 4000000 in
set_option maxRecDepth 100000 in
theorem law_kindsFor {M : kT} {b L : Nat} {xs : Nat → Int32} (C : l_ctx M b L xs) {A : Nat → Nat → Nat} {B : Nat → Nat} {X Y : AS} {T : FS} {J : TJ} {D : DJ} {i : Nat} (hi : i + 6 ≤ L) (hL : L ≤ 3072) (h : a_inv X) (hr : a_rel X Y) (nx : ∀ (X2 Y2 : AS) (T2 : FS) (J2 : TJ) (D2 : DJ), a_inv X2 → a_rel X2 Y2 → kJ M 4 1637 [(3, .int (nI i)), (2, .ref (B 0)), (1, .ref ((A 0) 0)), (0, .ref b)] [] (w_C (k_Z M) A X2 T2 J2 ++ w_M (k_Z M) B Y2 D2)) : kJ M 4 828 [(3, .int (nI i)), (2, .ref (B 0)), (1, .ref ((A 0) 0)), (0, .ref b)] [] (w_C (k_Z M) A X T J ++ w_M (k_Z M) B Y D) := by
  have K := C.1
  have hY := rel_inv h hr
  obtain ⟨⟨m, hm, hm2, -⟩, -⟩ := id h.1
  refine q_aload_n K 2 dL_law_828 rfl ?_
  refine q_aload_n K 3 dL_law_829 rfl ?_
  refine q_iload_n K 0 dL_law_830 rfl ?_
  refine q_iconst 1 K dL_law_831 rfl ?_
  refine q_iadd K dL_law_832 ?_
  refine q_eqi (nI (i + 1)) (kn_add i 1) ?_
  refine q_sld (j := i + 1) C (by omega) hL dL_law_833 ?_
  refine q_aload_n K 3 dL_law_834 rfl ?_
  refine q_iload_n K 0 dL_law_835 rfl ?_
  refine q_iconst 2 K dL_law_836 rfl ?_
  refine q_iadd K dL_law_837 ?_
  refine q_eqi (nI (i + 2)) (kn_add i 2) ?_
  refine q_sld (j := i + 2) C (by omega) hL dL_law_838 ?_
  refine q_aload_n K 3 dL_law_839 rfl ?_
  refine q_iload_n K 0 dL_law_840 rfl ?_
  refine q_iconst 3 K dL_law_841 rfl ?_
  refine q_iadd K dL_law_842 ?_
  refine q_eqi (nI (i + 3)) (kn_add i 3) ?_
  refine q_sld (j := i + 3) C (by omega) hL dL_law_843 ?_
  refine q_aload_n K 3 dL_law_844 rfl ?_
  refine q_iload_n K 0 dL_law_845 rfl ?_
  refine q_iconst 4 K dL_law_846 rfl ?_
  refine q_iadd K dL_law_847 ?_
  refine q_eqi (nI (i + 4)) (kn_add i 4) ?_
  refine q_sld (j := i + 4) C (by omega) hL dL_law_848 ?_
  refine q_cvI (q0 := 0) (As := [.int (xs (i + 1)), .int (xs (i + 2)), .int (xs (i + 3)), .int (xs (i + 4))]) (rest := []) K kv_X3_kindsFor (c_X3_kindsFor (k_l M) (k_Z M) A X T J m hm hm2 (xs (i + 1)) (xs (i + 2)) (xs (i + 3)) (xs (i + 4))) [] (w_M (k_Z M) B Y D) rfl rfl rfl ml_L_89 rfl rfl (Nat.le_of_ble_eq_true rfl) ⟨Nat.le_of_ble_eq_true rfl, Nat.le_of_ble_eq_true rfl⟩ dL_law_849 (fun r1 w1 h1 => ?_)
  obtain ⟨T2, J2, e1, rfl⟩ := h1
  refine q_ws (ws' := w_C (k_Z M) A ((o_kindsFor X (xs (i + 1)) (xs (i + 2)) (xs (i + 3)) (xs (i + 4))).2) T2 J2 ++ w_M (k_Z M) B Y D) rfl ?_
  refine q_aload_n K 1 dL_law_852 rfl ?_
  refine q_aload_n K 3 dL_law_853 rfl ?_
  refine q_iload_n K 0 dL_law_854 rfl ?_
  refine q_iconst 1 K dL_law_855 rfl ?_
  refine q_iadd K dL_law_856 ?_
  refine q_eqi (nI (i + 1)) (kn_add i 1) ?_
  refine q_sld (j := i + 1) C (by omega) hL dL_law_857 ?_
  refine q_aload_n K 3 dL_law_858 rfl ?_
  refine q_iload_n K 0 dL_law_859 rfl ?_
  refine q_iconst 2 K dL_law_860 rfl ?_
  refine q_iadd K dL_law_861 ?_
  refine q_eqi (nI (i + 2)) (kn_add i 2) ?_
  refine q_sld (j := i + 2) C (by omega) hL dL_law_862 ?_
  refine q_aload_n K 3 dL_law_863 rfl ?_
  refine q_iload_n K 0 dL_law_864 rfl ?_
  refine q_iconst 3 K dL_law_865 rfl ?_
  refine q_iadd K dL_law_866 ?_
  refine q_eqi (nI (i + 3)) (kn_add i 3) ?_
  refine q_sld (j := i + 3) C (by omega) hL dL_law_867 ?_
  refine q_aload_n K 3 dL_law_868 rfl ?_
  refine q_iload_n K 0 dL_law_869 rfl ?_
  refine q_iconst 4 K dL_law_870 rfl ?_
  refine q_iadd K dL_law_871 ?_
  refine q_eqi (nI (i + 4)) (kn_add i 4) ?_
  refine q_sld (j := i + 4) C (by omega) hL dL_law_872 ?_
  obtain ⟨⟨m, hm, hm2, hhd⟩, hok, hkd, hh⟩ := id hY.1
  refine q_cvI (q0 := 0) (As := [.int (xs (i + 1)), .int (xs (i + 2)), .int (xs (i + 3)), .int (xs (i + 4))]) (rest := [.int r1]) K kv_X4_kindsFor (c_X4_kindsFor (k_l M) (k_Z M) B Y D m hm hm2 hok (xs (i + 1)) (xs (i + 2)) (xs (i + 3)) (xs (i + 4))) (w_C (k_Z M) A (o_kindsFor X (xs (i + 1)) (xs (i + 2)) (xs (i + 3)) (xs (i + 4))).2 T2 J2) [] (by rw [List.append_nil]) rfl rfl ml_L_92 rfl rfl (Nat.le_of_ble_eq_true rfl) ⟨Nat.le_of_ble_eq_true rfl, Nat.le_of_ble_eq_true rfl⟩ dL_law_873 (fun r2 w2 h2 => ?_)
  obtain ⟨D2, e2, rfl⟩ := h2
  refine q_ws (ws' := w_C (k_Z M) A ((o_kindsFor X (xs (i + 1)) (xs (i + 2)) (xs (i + 3)) (xs (i + 4))).2) T2 J2 ++ w_M (k_Z M) B ((o_kindsFor Y (xs (i + 1)) (xs (i + 2)) (xs (i + 3)) (xs (i + 4))).2) D2) (by rw [List.append_nil]) ?_
  obtain ⟨z1, z2, z3⟩ := lw_kindsFor h hr (xs (i + 1)) (xs (i + 2)) (xs (i + 3)) (xs (i + 4))
  refine q_icmp_eq 1637 K dL_law_876 (by decide) (fun c => ?_) (fun c => ?_)
  · exact nx _ _ T2 J2 D2 z2 z3
  · exact absurd (e1.trans (z1.trans e2.symm)) c
set_option maxHeartbeats 4000000 in
set_option maxRecDepth 100000 in
theorem law_moods {M : kT} {b L : Nat} {xs : Nat → Int32} (C : l_ctx M b L xs) {A : Nat → Nat → Nat} {B : Nat → Nat} {X Y : AS} {T : FS} {J : TJ} {D : DJ} {i : Nat} (hi : i + 6 ≤ L) (hL : L ≤ 3072) (h : a_inv X) (hr : a_rel X Y) (nx : ∀ (X2 Y2 : AS) (T2 : FS) (J2 : TJ) (D2 : DJ), a_inv X2 → a_rel X2 Y2 → kJ M 4 1637 [(3, .int (nI i)), (2, .ref (B 0)), (1, .ref ((A 0) 0)), (0, .ref b)] [] (w_C (k_Z M) A X2 T2 J2 ++ w_M (k_Z M) B Y2 D2)) : kJ M 4 881 [(3, .int (nI i)), (2, .ref (B 0)), (1, .ref ((A 0) 0)), (0, .ref b)] [] (w_C (k_Z M) A X T J ++ w_M (k_Z M) B Y D) := by
  have K := C.1
  have hY := rel_inv h hr
  obtain ⟨⟨m, hm, hm2, -⟩, -⟩ := id h.1
  refine q_aload_n K 2 dL_law_881 rfl ?_
  refine q_aload_n K 3 dL_law_882 rfl ?_
  refine q_iload_n K 0 dL_law_883 rfl ?_
  refine q_iconst 1 K dL_law_884 rfl ?_
  refine q_iadd K dL_law_885 ?_
  refine q_eqi (nI (i + 1)) (kn_add i 1) ?_
  refine q_sld (j := i + 1) C (by omega) hL dL_law_886 ?_
  refine q_aload_n K 3 dL_law_887 rfl ?_
  refine q_iload_n K 0 dL_law_888 rfl ?_
  refine q_iconst 2 K dL_law_889 rfl ?_
  refine q_iadd K dL_law_890 ?_
  refine q_eqi (nI (i + 2)) (kn_add i 2) ?_
  refine q_sld (j := i + 2) C (by omega) hL dL_law_891 ?_
  refine q_aload_n K 3 dL_law_892 rfl ?_
  refine q_iload_n K 0 dL_law_893 rfl ?_
  refine q_iconst 3 K dL_law_894 rfl ?_
  refine q_iadd K dL_law_895 ?_
  refine q_eqi (nI (i + 3)) (kn_add i 3) ?_
  refine q_sld (j := i + 3) C (by omega) hL dL_law_896 ?_
  refine q_aload_n K 3 dL_law_897 rfl ?_
  refine q_iload_n K 0 dL_law_898 rfl ?_
  refine q_iconst 4 K dL_law_899 rfl ?_
  refine q_iadd K dL_law_900 ?_
  refine q_eqi (nI (i + 4)) (kn_add i 4) ?_
  refine q_sld (j := i + 4) C (by omega) hL dL_law_901 ?_
  refine q_cvI (q0 := 0) (As := [.int (xs (i + 1)), .int (xs (i + 2)), .int (xs (i + 3)), .int (xs (i + 4))]) (rest := []) K kv_X3_moods (c_X3_moods (k_l M) (k_Z M) A X T J m hm hm2 (xs (i + 1)) (xs (i + 2)) (xs (i + 3)) (xs (i + 4))) [] (w_M (k_Z M) B Y D) rfl rfl rfl ml_L_93 rfl rfl (Nat.le_of_ble_eq_true rfl) ⟨Nat.le_of_ble_eq_true rfl, Nat.le_of_ble_eq_true rfl⟩ dL_law_902 (fun r1 w1 h1 => ?_)
  obtain ⟨T2, J2, e1, rfl⟩ := h1
  refine q_ws (ws' := w_C (k_Z M) A ((o_moods X (xs (i + 1)) (xs (i + 2)) (xs (i + 3)) (xs (i + 4))).2) T2 J2 ++ w_M (k_Z M) B Y D) rfl ?_
  refine q_aload_n K 1 dL_law_905 rfl ?_
  refine q_aload_n K 3 dL_law_906 rfl ?_
  refine q_iload_n K 0 dL_law_907 rfl ?_
  refine q_iconst 1 K dL_law_908 rfl ?_
  refine q_iadd K dL_law_909 ?_
  refine q_eqi (nI (i + 1)) (kn_add i 1) ?_
  refine q_sld (j := i + 1) C (by omega) hL dL_law_910 ?_
  refine q_aload_n K 3 dL_law_911 rfl ?_
  refine q_iload_n K 0 dL_law_912 rfl ?_
  refine q_iconst 2 K dL_law_913 rfl ?_
  refine q_iadd K dL_law_914 ?_
  refine q_eqi (nI (i + 2)) (kn_add i 2) ?_
  refine q_sld (j := i + 2) C (by omega) hL dL_law_915 ?_
  refine q_aload_n K 3 dL_law_916 rfl ?_
  refine q_iload_n K 0 dL_law_917 rfl ?_
  refine q_iconst 3 K dL_law_918 rfl ?_
  refine q_iadd K dL_law_919 ?_
  refine q_eqi (nI (i + 3)) (kn_add i 3) ?_
  refine q_sld (j := i + 3) C (by omega) hL dL_law_920 ?_
  refine q_aload_n K 3 dL_law_921 rfl ?_
  refine q_iload_n K 0 dL_law_922 rfl ?_
  refine q_iconst 4 K dL_law_923 rfl ?_
  refine q_iadd K dL_law_924 ?_
  refine q_eqi (nI (i + 4)) (kn_add i 4) ?_
  refine q_sld (j := i + 4) C (by omega) hL dL_law_925 ?_
  obtain ⟨⟨m, hm, hm2, hhd⟩, hok, hkd, hh⟩ := id hY.1
  refine q_cvI (q0 := 0) (As := [.int (xs (i + 1)), .int (xs (i + 2)), .int (xs (i + 3)), .int (xs (i + 4))]) (rest := [.int r1]) K kv_X4_moods (c_X4_moods (k_l M) (k_Z M) B Y D m hm hm2 hok (xs (i + 1)) (xs (i + 2)) (xs (i + 3)) (xs (i + 4))) (w_C (k_Z M) A (o_moods X (xs (i + 1)) (xs (i + 2)) (xs (i + 3)) (xs (i + 4))).2 T2 J2) [] (by rw [List.append_nil]) rfl rfl ml_L_96 rfl rfl (Nat.le_of_ble_eq_true rfl) ⟨Nat.le_of_ble_eq_true rfl, Nat.le_of_ble_eq_true rfl⟩ dL_law_926 (fun r2 w2 h2 => ?_)
  obtain ⟨D2, e2, rfl⟩ := h2
  refine q_ws (ws' := w_C (k_Z M) A ((o_moods X (xs (i + 1)) (xs (i + 2)) (xs (i + 3)) (xs (i + 4))).2) T2 J2 ++ w_M (k_Z M) B ((o_moods Y (xs (i + 1)) (xs (i + 2)) (xs (i + 3)) (xs (i + 4))).2) D2) (by rw [List.append_nil]) ?_
  obtain ⟨z1, z2, z3⟩ := lw_moods h hr (xs (i + 1)) (xs (i + 2)) (xs (i + 3)) (xs (i + 4))
  refine q_icmp_eq 1637 K dL_law_929 (by decide) (fun c => ?_) (fun c => ?_)
  · exact nx _ _ T2 J2 D2 z2 z3
  · exact absurd (e1.trans (z1.trans e2.symm)) c
set_option maxHeartbeats 4000000 in
set_option maxRecDepth 100000 in
theorem law_windFor {M : kT} {b L : Nat} {xs : Nat → Int32} (C : l_ctx M b L xs) {A : Nat → Nat → Nat} {B : Nat → Nat} {X Y : AS} {T : FS} {J : TJ} {D : DJ} {i : Nat} (hi : i + 6 ≤ L) (hL : L ≤ 3072) (h : a_inv X) (hr : a_rel X Y) (nx : ∀ (X2 Y2 : AS) (T2 : FS) (J2 : TJ) (D2 : DJ), a_inv X2 → a_rel X2 Y2 → kJ M 4 1637 [(3, .int (nI i)), (2, .ref (B 0)), (1, .ref ((A 0) 0)), (0, .ref b)] [] (w_C (k_Z M) A X2 T2 J2 ++ w_M (k_Z M) B Y2 D2)) : kJ M 4 934 [(3, .int (nI i)), (2, .ref (B 0)), (1, .ref ((A 0) 0)), (0, .ref b)] [] (w_C (k_Z M) A X T J ++ w_M (k_Z M) B Y D) := by
  have K := C.1
  have hY := rel_inv h hr
  obtain ⟨⟨m, hm, hm2, -⟩, -⟩ := id h.1
  refine q_aload_n K 2 dL_law_934 rfl ?_
  refine q_aload_n K 3 dL_law_935 rfl ?_
  refine q_iload_n K 0 dL_law_936 rfl ?_
  refine q_iconst 1 K dL_law_937 rfl ?_
  refine q_iadd K dL_law_938 ?_
  refine q_eqi (nI (i + 1)) (kn_add i 1) ?_
  refine q_sld (j := i + 1) C (by omega) hL dL_law_939 ?_
  refine q_aload_n K 3 dL_law_940 rfl ?_
  refine q_iload_n K 0 dL_law_941 rfl ?_
  refine q_iconst 2 K dL_law_942 rfl ?_
  refine q_iadd K dL_law_943 ?_
  refine q_eqi (nI (i + 2)) (kn_add i 2) ?_
  refine q_sld (j := i + 2) C (by omega) hL dL_law_944 ?_
  refine q_aload_n K 3 dL_law_945 rfl ?_
  refine q_iload_n K 0 dL_law_946 rfl ?_
  refine q_iconst 3 K dL_law_947 rfl ?_
  refine q_iadd K dL_law_948 ?_
  refine q_eqi (nI (i + 3)) (kn_add i 3) ?_
  refine q_sld (j := i + 3) C (by omega) hL dL_law_949 ?_
  refine q_cvI (q0 := 0) (As := [.int (xs (i + 1)), .int (xs (i + 2)), .int (xs (i + 3))]) (rest := []) K kv_X3_windFor (c_X3_windFor (k_l M) (k_Z M) A X T J m hm hm2 (xs (i + 1)) (xs (i + 2)) (xs (i + 3))) [] (w_M (k_Z M) B Y D) rfl rfl rfl ml_L_97 rfl rfl (Nat.le_of_ble_eq_true rfl) ⟨Nat.le_of_ble_eq_true rfl, Nat.le_of_ble_eq_true rfl⟩ dL_law_950 (fun r1 w1 h1 => ?_)
  obtain ⟨T2, J2, e1, rfl⟩ := h1
  refine q_ws (ws' := w_C (k_Z M) A ((o_windFor X (xs (i + 1)) (xs (i + 2)) (xs (i + 3))).2) T2 J2 ++ w_M (k_Z M) B Y D) rfl ?_
  refine q_aload_n K 1 dL_law_953 rfl ?_
  refine q_aload_n K 3 dL_law_954 rfl ?_
  refine q_iload_n K 0 dL_law_955 rfl ?_
  refine q_iconst 1 K dL_law_956 rfl ?_
  refine q_iadd K dL_law_957 ?_
  refine q_eqi (nI (i + 1)) (kn_add i 1) ?_
  refine q_sld (j := i + 1) C (by omega) hL dL_law_958 ?_
  refine q_aload_n K 3 dL_law_959 rfl ?_
  refine q_iload_n K 0 dL_law_960 rfl ?_
  refine q_iconst 2 K dL_law_961 rfl ?_
  refine q_iadd K dL_law_962 ?_
  refine q_eqi (nI (i + 2)) (kn_add i 2) ?_
  refine q_sld (j := i + 2) C (by omega) hL dL_law_963 ?_
  refine q_aload_n K 3 dL_law_964 rfl ?_
  refine q_iload_n K 0 dL_law_965 rfl ?_
  refine q_iconst 3 K dL_law_966 rfl ?_
  refine q_iadd K dL_law_967 ?_
  refine q_eqi (nI (i + 3)) (kn_add i 3) ?_
  refine q_sld (j := i + 3) C (by omega) hL dL_law_968 ?_
  obtain ⟨⟨m, hm, hm2, hhd⟩, hok, hkd, hh⟩ := id hY.1
  refine q_cvI (q0 := 0) (As := [.int (xs (i + 1)), .int (xs (i + 2)), .int (xs (i + 3))]) (rest := [.int r1]) K kv_X4_windFor (c_X4_windFor (k_l M) (k_Z M) B Y D m hm hm2 hok (xs (i + 1)) (xs (i + 2)) (xs (i + 3))) (w_C (k_Z M) A (o_windFor X (xs (i + 1)) (xs (i + 2)) (xs (i + 3))).2 T2 J2) [] (by rw [List.append_nil]) rfl rfl ml_L_100 rfl rfl (Nat.le_of_ble_eq_true rfl) ⟨Nat.le_of_ble_eq_true rfl, Nat.le_of_ble_eq_true rfl⟩ dL_law_969 (fun r2 w2 h2 => ?_)
  obtain ⟨D2, e2, rfl⟩ := h2
  refine q_ws (ws' := w_C (k_Z M) A ((o_windFor X (xs (i + 1)) (xs (i + 2)) (xs (i + 3))).2) T2 J2 ++ w_M (k_Z M) B ((o_windFor Y (xs (i + 1)) (xs (i + 2)) (xs (i + 3))).2) D2) (by rw [List.append_nil]) ?_
  obtain ⟨z1, z2, z3⟩ := lw_windFor h hr (xs (i + 1)) (xs (i + 2)) (xs (i + 3))
  refine q_icmp_eq 1637 K dL_law_972 (by decide) (fun c => ?_) (fun c => ?_)
  · exact nx _ _ T2 J2 D2 z2 z3
  · exact absurd (e1.trans (z1.trans e2.symm)) c
set_option maxHeartbeats 4000000 in
set_option maxRecDepth 100000 in
theorem law_home {M : kT} {b L : Nat} {xs : Nat → Int32} (C : l_ctx M b L xs) {A : Nat → Nat → Nat} {B : Nat → Nat} {X Y : AS} {T : FS} {J : TJ} {D : DJ} {i : Nat} (hi : i + 6 ≤ L) (hL : L ≤ 3072) (h : a_inv X) (hr : a_rel X Y) (nx : ∀ (X2 Y2 : AS) (T2 : FS) (J2 : TJ) (D2 : DJ), a_inv X2 → a_rel X2 Y2 → kJ M 4 1637 [(3, .int (nI i)), (2, .ref (B 0)), (1, .ref ((A 0) 0)), (0, .ref b)] [] (w_C (k_Z M) A X2 T2 J2 ++ w_M (k_Z M) B Y2 D2)) : kJ M 4 977 [(3, .int (nI i)), (2, .ref (B 0)), (1, .ref ((A 0) 0)), (0, .ref b)] [] (w_C (k_Z M) A X T J ++ w_M (k_Z M) B Y D) := by
  have K := C.1
  have hY := rel_inv h hr
  obtain ⟨⟨m, hm, hm2, -⟩, -⟩ := id h.1
  refine q_aload_n K 2 dL_law_977 rfl ?_
  refine q_aload_n K 3 dL_law_978 rfl ?_
  refine q_iload_n K 0 dL_law_979 rfl ?_
  refine q_iconst 1 K dL_law_980 rfl ?_
  refine q_iadd K dL_law_981 ?_
  refine q_eqi (nI (i + 1)) (kn_add i 1) ?_
  refine q_sld (j := i + 1) C (by omega) hL dL_law_982 ?_
  refine q_aload_n K 3 dL_law_983 rfl ?_
  refine q_iload_n K 0 dL_law_984 rfl ?_
  refine q_iconst 2 K dL_law_985 rfl ?_
  refine q_iadd K dL_law_986 ?_
  refine q_eqi (nI (i + 2)) (kn_add i 2) ?_
  refine q_sld (j := i + 2) C (by omega) hL dL_law_987 ?_
  refine q_aload_n K 3 dL_law_988 rfl ?_
  refine q_iload_n K 0 dL_law_989 rfl ?_
  refine q_iconst 3 K dL_law_990 rfl ?_
  refine q_iadd K dL_law_991 ?_
  refine q_eqi (nI (i + 3)) (kn_add i 3) ?_
  refine q_sld (j := i + 3) C (by omega) hL dL_law_992 ?_
  refine q_cvI (q0 := 0) (As := [.int (xs (i + 1)), .int (xs (i + 2)), .int (xs (i + 3))]) (rest := []) K kv_X3_home (c_X3_home (k_l M) (k_Z M) A X T J m hm hm2 (xs (i + 1)) (xs (i + 2)) (xs (i + 3))) [] (w_M (k_Z M) B Y D) rfl rfl rfl ml_L_101 rfl rfl (Nat.le_of_ble_eq_true rfl) ⟨Nat.le_of_ble_eq_true rfl, Nat.le_of_ble_eq_true rfl⟩ dL_law_993 (fun r1 w1 h1 => ?_)
  obtain ⟨T2, J2, e1, rfl⟩ := h1
  refine q_ws (ws' := w_C (k_Z M) A ((o_home X (xs (i + 1)) (xs (i + 2)) (xs (i + 3))).2) T2 J2 ++ w_M (k_Z M) B Y D) rfl ?_
  refine q_aload_n K 1 dL_law_996 rfl ?_
  refine q_aload_n K 3 dL_law_997 rfl ?_
  refine q_iload_n K 0 dL_law_998 rfl ?_
  refine q_iconst 1 K dL_law_999 rfl ?_
  refine q_iadd K dL_law_1000 ?_
  refine q_eqi (nI (i + 1)) (kn_add i 1) ?_
  refine q_sld (j := i + 1) C (by omega) hL dL_law_1001 ?_
  refine q_aload_n K 3 dL_law_1002 rfl ?_
  refine q_iload_n K 0 dL_law_1003 rfl ?_
  refine q_iconst 2 K dL_law_1004 rfl ?_
  refine q_iadd K dL_law_1005 ?_
  refine q_eqi (nI (i + 2)) (kn_add i 2) ?_
  refine q_sld (j := i + 2) C (by omega) hL dL_law_1006 ?_
  refine q_aload_n K 3 dL_law_1007 rfl ?_
  refine q_iload_n K 0 dL_law_1008 rfl ?_
  refine q_iconst 3 K dL_law_1009 rfl ?_
  refine q_iadd K dL_law_1010 ?_
  refine q_eqi (nI (i + 3)) (kn_add i 3) ?_
  refine q_sld (j := i + 3) C (by omega) hL dL_law_1011 ?_
  obtain ⟨⟨m, hm, hm2, hhd⟩, hok, hkd, hh⟩ := id hY.1
  refine q_cvI (q0 := 0) (As := [.int (xs (i + 1)), .int (xs (i + 2)), .int (xs (i + 3))]) (rest := [.int r1]) K kv_X4_home (c_X4_home (k_l M) (k_Z M) B Y D m hm hm2 hok (xs (i + 1)) (xs (i + 2)) (xs (i + 3))) (w_C (k_Z M) A (o_home X (xs (i + 1)) (xs (i + 2)) (xs (i + 3))).2 T2 J2) [] (by rw [List.append_nil]) rfl rfl ml_L_104 rfl rfl (Nat.le_of_ble_eq_true rfl) ⟨Nat.le_of_ble_eq_true rfl, Nat.le_of_ble_eq_true rfl⟩ dL_law_1012 (fun r2 w2 h2 => ?_)
  obtain ⟨D2, e2, rfl⟩ := h2
  refine q_ws (ws' := w_C (k_Z M) A ((o_home X (xs (i + 1)) (xs (i + 2)) (xs (i + 3))).2) T2 J2 ++ w_M (k_Z M) B ((o_home Y (xs (i + 1)) (xs (i + 2)) (xs (i + 3))).2) D2) (by rw [List.append_nil]) ?_
  obtain ⟨z1, z2, z3⟩ := lw_home h hr (xs (i + 1)) (xs (i + 2)) (xs (i + 3))
  refine q_icmp_eq 1637 K dL_law_1015 (by decide) (fun c => ?_) (fun c => ?_)
  · exact nx _ _ T2 J2 D2 z2 z3
  · exact absurd (e1.trans (z1.trans e2.symm)) c
set_option maxHeartbeats 4000000 in
set_option maxRecDepth 100000 in
theorem law_shut {M : kT} {b L : Nat} {xs : Nat → Int32} (C : l_ctx M b L xs) {A : Nat → Nat → Nat} {B : Nat → Nat} {X Y : AS} {T : FS} {J : TJ} {D : DJ} {i : Nat} (hi : i + 6 ≤ L) (hL : L ≤ 3072) (h : a_inv X) (hr : a_rel X Y) (nx : ∀ (X2 Y2 : AS) (T2 : FS) (J2 : TJ) (D2 : DJ), a_inv X2 → a_rel X2 Y2 → kJ M 4 1637 [(3, .int (nI i)), (2, .ref (B 0)), (1, .ref ((A 0) 0)), (0, .ref b)] [] (w_C (k_Z M) A X2 T2 J2 ++ w_M (k_Z M) B Y2 D2)) : kJ M 4 1020 [(3, .int (nI i)), (2, .ref (B 0)), (1, .ref ((A 0) 0)), (0, .ref b)] [] (w_C (k_Z M) A X T J ++ w_M (k_Z M) B Y D) := by
  have K := C.1
  have hY := rel_inv h hr
  obtain ⟨⟨m, hm, hm2, -⟩, -⟩ := id h.1
  refine q_aload_n K 2 dL_law_1020 rfl ?_
  refine q_aload_n K 3 dL_law_1021 rfl ?_
  refine q_iload_n K 0 dL_law_1022 rfl ?_
  refine q_iconst 1 K dL_law_1023 rfl ?_
  refine q_iadd K dL_law_1024 ?_
  refine q_eqi (nI (i + 1)) (kn_add i 1) ?_
  refine q_sld (j := i + 1) C (by omega) hL dL_law_1025 ?_
  refine q_aload_n K 3 dL_law_1026 rfl ?_
  refine q_iload_n K 0 dL_law_1027 rfl ?_
  refine q_iconst 2 K dL_law_1028 rfl ?_
  refine q_iadd K dL_law_1029 ?_
  refine q_eqi (nI (i + 2)) (kn_add i 2) ?_
  refine q_sld (j := i + 2) C (by omega) hL dL_law_1030 ?_
  refine q_cvI (q0 := 0) (As := [.int (xs (i + 1)), .int (xs (i + 2))]) (rest := []) K kv_X3_shut (c_X3_shut (k_l M) (k_Z M) A X T J m hm hm2 (xs (i + 1)) (xs (i + 2))) [] (w_M (k_Z M) B Y D) rfl rfl rfl ml_L_105 rfl rfl (Nat.le_of_ble_eq_true rfl) ⟨Nat.le_of_ble_eq_true rfl, Nat.le_of_ble_eq_true rfl⟩ dL_law_1031 (fun r1 w1 h1 => ?_)
  obtain ⟨T2, J2, e1, rfl⟩ := h1
  refine q_ws (ws' := w_C (k_Z M) A ((o_shut X (xs (i + 1)) (xs (i + 2))).2) T2 J2 ++ w_M (k_Z M) B Y D) rfl ?_
  refine q_aload_n K 1 dL_law_1034 rfl ?_
  refine q_aload_n K 3 dL_law_1035 rfl ?_
  refine q_iload_n K 0 dL_law_1036 rfl ?_
  refine q_iconst 1 K dL_law_1037 rfl ?_
  refine q_iadd K dL_law_1038 ?_
  refine q_eqi (nI (i + 1)) (kn_add i 1) ?_
  refine q_sld (j := i + 1) C (by omega) hL dL_law_1039 ?_
  refine q_aload_n K 3 dL_law_1040 rfl ?_
  refine q_iload_n K 0 dL_law_1041 rfl ?_
  refine q_iconst 2 K dL_law_1042 rfl ?_
  refine q_iadd K dL_law_1043 ?_
  refine q_eqi (nI (i + 2)) (kn_add i 2) ?_
  refine q_sld (j := i + 2) C (by omega) hL dL_law_1044 ?_
  obtain ⟨⟨m, hm, hm2, hhd⟩, hok, hkd, hh⟩ := id hY.1
  refine q_cvI (q0 := 0) (As := [.int (xs (i + 1)), .int (xs (i + 2))]) (rest := [.int r1]) K kv_X4_shut (c_X4_shut (k_l M) (k_Z M) B Y D m hm hm2 hok (xs (i + 1)) (xs (i + 2))) (w_C (k_Z M) A (o_shut X (xs (i + 1)) (xs (i + 2))).2 T2 J2) [] (by rw [List.append_nil]) rfl rfl ml_L_108 rfl rfl (Nat.le_of_ble_eq_true rfl) ⟨Nat.le_of_ble_eq_true rfl, Nat.le_of_ble_eq_true rfl⟩ dL_law_1045 (fun r2 w2 h2 => ?_)
  obtain ⟨D2, e2, rfl⟩ := h2
  refine q_ws (ws' := w_C (k_Z M) A ((o_shut X (xs (i + 1)) (xs (i + 2))).2) T2 J2 ++ w_M (k_Z M) B ((o_shut Y (xs (i + 1)) (xs (i + 2))).2) D2) (by rw [List.append_nil]) ?_
  obtain ⟨z1, z2, z3⟩ := lw_shut h hr (xs (i + 1)) (xs (i + 2))
  refine q_icmp_eq 1637 K dL_law_1048 (by decide) (fun c => ?_) (fun c => ?_)
  · exact nx _ _ T2 J2 D2 z2 z3
  · exact absurd (e1.trans (z1.trans e2.symm)) c
set_option maxHeartbeats 4000000 in
set_option maxRecDepth 100000 in
theorem law_who {M : kT} {b L : Nat} {xs : Nat → Int32} (C : l_ctx M b L xs) {A : Nat → Nat → Nat} {B : Nat → Nat} {X Y : AS} {T : FS} {J : TJ} {D : DJ} {i : Nat} (hi : i + 6 ≤ L) (hL : L ≤ 3072) (h : a_inv X) (hr : a_rel X Y) (nx : ∀ (X2 Y2 : AS) (T2 : FS) (J2 : TJ) (D2 : DJ), a_inv X2 → a_rel X2 Y2 → kJ M 4 1637 [(3, .int (nI i)), (2, .ref (B 0)), (1, .ref ((A 0) 0)), (0, .ref b)] [] (w_C (k_Z M) A X2 T2 J2 ++ w_M (k_Z M) B Y2 D2)) : kJ M 4 1053 [(3, .int (nI i)), (2, .ref (B 0)), (1, .ref ((A 0) 0)), (0, .ref b)] [] (w_C (k_Z M) A X T J ++ w_M (k_Z M) B Y D) := by
  have K := C.1
  have hY := rel_inv h hr
  obtain ⟨⟨m, hm, hm2, -⟩, -⟩ := id h.1
  refine q_aload_n K 2 dL_law_1053 rfl ?_
  refine q_aload_n K 3 dL_law_1054 rfl ?_
  refine q_iload_n K 0 dL_law_1055 rfl ?_
  refine q_iconst 1 K dL_law_1056 rfl ?_
  refine q_iadd K dL_law_1057 ?_
  refine q_eqi (nI (i + 1)) (kn_add i 1) ?_
  refine q_sld (j := i + 1) C (by omega) hL dL_law_1058 ?_
  refine q_cvI (q0 := 0) (As := [.int (xs (i + 1))]) (rest := []) K kv_X3_who (c_X3_who (k_l M) (k_Z M) A X T J m hm hm2 h.2.2.1 (xs (i + 1))) [] (w_M (k_Z M) B Y D) rfl rfl rfl ml_L_109 rfl rfl (Nat.le_of_ble_eq_true rfl) ⟨Nat.le_of_ble_eq_true rfl, Nat.le_of_ble_eq_true rfl⟩ dL_law_1059 (fun r1 w1 h1 => ?_)
  obtain ⟨T2, J2, e1, rfl⟩ := h1
  refine q_ws (ws' := w_C (k_Z M) A ((o_who X (xs (i + 1))).2) T2 J2 ++ w_M (k_Z M) B Y D) rfl ?_
  refine q_aload_n K 1 dL_law_1062 rfl ?_
  refine q_aload_n K 3 dL_law_1063 rfl ?_
  refine q_iload_n K 0 dL_law_1064 rfl ?_
  refine q_iconst 1 K dL_law_1065 rfl ?_
  refine q_iadd K dL_law_1066 ?_
  refine q_eqi (nI (i + 1)) (kn_add i 1) ?_
  refine q_sld (j := i + 1) C (by omega) hL dL_law_1067 ?_
  obtain ⟨⟨m, hm, hm2, hhd⟩, hok, hkd, hh⟩ := id hY.1
  refine q_cvI (q0 := 0) (As := [.int (xs (i + 1))]) (rest := [.int r1]) K kv_X4_who (c_X4_who (k_l M) (k_Z M) B Y D m hm hm2 hok hY.2.2.1 hY.2.2.2.1 (xs (i + 1))) (w_C (k_Z M) A (o_who X (xs (i + 1))).2 T2 J2) [] (by rw [List.append_nil]) rfl rfl ml_L_112 rfl rfl (Nat.le_of_ble_eq_true rfl) ⟨Nat.le_of_ble_eq_true rfl, Nat.le_of_ble_eq_true rfl⟩ dL_law_1068 (fun r2 w2 h2 => ?_)
  obtain ⟨D2, e2, rfl⟩ := h2
  refine q_ws (ws' := w_C (k_Z M) A ((o_who X (xs (i + 1))).2) T2 J2 ++ w_M (k_Z M) B ((o_who Y (xs (i + 1))).2) D2) (by rw [List.append_nil]) ?_
  obtain ⟨z1, z2, z3⟩ := lw_who h hr (xs (i + 1))
  refine q_icmp_eq 1637 K dL_law_1071 (by decide) (fun c => ?_) (fun c => ?_)
  · exact nx _ _ T2 J2 D2 z2 z3
  · exact absurd (e1.trans (z1.trans e2.symm)) c
set_option maxHeartbeats 4000000 in
set_option maxRecDepth 100000 in
theorem law_fits {M : kT} {b L : Nat} {xs : Nat → Int32} (C : l_ctx M b L xs) {A : Nat → Nat → Nat} {B : Nat → Nat} {X Y : AS} {T : FS} {J : TJ} {D : DJ} {i : Nat} (hi : i + 6 ≤ L) (hL : L ≤ 3072) (h : a_inv X) (hr : a_rel X Y) (nx : ∀ (X2 Y2 : AS) (T2 : FS) (J2 : TJ) (D2 : DJ), a_inv X2 → a_rel X2 Y2 → kJ M 4 1637 [(3, .int (nI i)), (2, .ref (B 0)), (1, .ref ((A 0) 0)), (0, .ref b)] [] (w_C (k_Z M) A X2 T2 J2 ++ w_M (k_Z M) B Y2 D2)) : kJ M 4 1076 [(3, .int (nI i)), (2, .ref (B 0)), (1, .ref ((A 0) 0)), (0, .ref b)] [] (w_C (k_Z M) A X T J ++ w_M (k_Z M) B Y D) := by
  have K := C.1
  have hY := rel_inv h hr
  obtain ⟨⟨m, hm, hm2, -⟩, -⟩ := id h.1
  refine q_aload_n K 2 dL_law_1076 rfl ?_
  refine q_aload_n K 3 dL_law_1077 rfl ?_
  refine q_iload_n K 0 dL_law_1078 rfl ?_
  refine q_iconst 1 K dL_law_1079 rfl ?_
  refine q_iadd K dL_law_1080 ?_
  refine q_eqi (nI (i + 1)) (kn_add i 1) ?_
  refine q_sld (j := i + 1) C (by omega) hL dL_law_1081 ?_
  refine q_aload_n K 3 dL_law_1082 rfl ?_
  refine q_iload_n K 0 dL_law_1083 rfl ?_
  refine q_iconst 2 K dL_law_1084 rfl ?_
  refine q_iadd K dL_law_1085 ?_
  refine q_eqi (nI (i + 2)) (kn_add i 2) ?_
  refine q_sld (j := i + 2) C (by omega) hL dL_law_1086 ?_
  refine q_aload_n K 3 dL_law_1087 rfl ?_
  refine q_iload_n K 0 dL_law_1088 rfl ?_
  refine q_iconst 3 K dL_law_1089 rfl ?_
  refine q_iadd K dL_law_1090 ?_
  refine q_eqi (nI (i + 3)) (kn_add i 3) ?_
  refine q_sld (j := i + 3) C (by omega) hL dL_law_1091 ?_
  refine q_cvI (q0 := 0) (As := [.int (xs (i + 1)), .int (xs (i + 2)), .int (xs (i + 3))]) (rest := []) K kv_X3_fits (c_X3_fits (k_l M) (k_Z M) A X T J m hm hm2 h.2.2.1 (xs (i + 1)) (xs (i + 2)) (xs (i + 3))) [] (w_M (k_Z M) B Y D) rfl rfl rfl ml_L_113 rfl rfl (Nat.le_of_ble_eq_true rfl) ⟨Nat.le_of_ble_eq_true rfl, Nat.le_of_ble_eq_true rfl⟩ dL_law_1092 (fun r1 w1 h1 => ?_)
  obtain ⟨T2, J2, e1, rfl⟩ := h1
  refine q_ws (ws' := w_C (k_Z M) A ((o_fits X (xs (i + 1)) (xs (i + 2)) (xs (i + 3))).2) T2 J2 ++ w_M (k_Z M) B Y D) rfl ?_
  refine q_aload_n K 1 dL_law_1095 rfl ?_
  refine q_aload_n K 3 dL_law_1096 rfl ?_
  refine q_iload_n K 0 dL_law_1097 rfl ?_
  refine q_iconst 1 K dL_law_1098 rfl ?_
  refine q_iadd K dL_law_1099 ?_
  refine q_eqi (nI (i + 1)) (kn_add i 1) ?_
  refine q_sld (j := i + 1) C (by omega) hL dL_law_1100 ?_
  refine q_aload_n K 3 dL_law_1101 rfl ?_
  refine q_iload_n K 0 dL_law_1102 rfl ?_
  refine q_iconst 2 K dL_law_1103 rfl ?_
  refine q_iadd K dL_law_1104 ?_
  refine q_eqi (nI (i + 2)) (kn_add i 2) ?_
  refine q_sld (j := i + 2) C (by omega) hL dL_law_1105 ?_
  refine q_aload_n K 3 dL_law_1106 rfl ?_
  refine q_iload_n K 0 dL_law_1107 rfl ?_
  refine q_iconst 3 K dL_law_1108 rfl ?_
  refine q_iadd K dL_law_1109 ?_
  refine q_eqi (nI (i + 3)) (kn_add i 3) ?_
  refine q_sld (j := i + 3) C (by omega) hL dL_law_1110 ?_
  obtain ⟨⟨m, hm, hm2, hhd⟩, hok, hkd, hh⟩ := id hY.1
  refine q_cvI (q0 := 0) (As := [.int (xs (i + 1)), .int (xs (i + 2)), .int (xs (i + 3))]) (rest := [.int r1]) K kv_X4_fits (c_X4_fits (k_l M) (k_Z M) B Y D m hm hm2 hok hY.2.2.1 hY.2.2.2.1 (xs (i + 1)) (xs (i + 2)) (xs (i + 3))) (w_C (k_Z M) A (o_fits X (xs (i + 1)) (xs (i + 2)) (xs (i + 3))).2 T2 J2) [] (by rw [List.append_nil]) rfl rfl ml_L_116 rfl rfl (Nat.le_of_ble_eq_true rfl) ⟨Nat.le_of_ble_eq_true rfl, Nat.le_of_ble_eq_true rfl⟩ dL_law_1111 (fun r2 w2 h2 => ?_)
  obtain ⟨D2, e2, rfl⟩ := h2
  refine q_ws (ws' := w_C (k_Z M) A ((o_fits X (xs (i + 1)) (xs (i + 2)) (xs (i + 3))).2) T2 J2 ++ w_M (k_Z M) B ((o_fits Y (xs (i + 1)) (xs (i + 2)) (xs (i + 3))).2) D2) (by rw [List.append_nil]) ?_
  obtain ⟨z1, z2, z3⟩ := lw_fits h hr (xs (i + 1)) (xs (i + 2)) (xs (i + 3))
  refine q_icmp_eq 1637 K dL_law_1114 (by decide) (fun c => ?_) (fun c => ?_)
  · exact nx _ _ T2 J2 D2 z2 z3
  · exact absurd (e1.trans (z1.trans e2.symm)) c
set_option maxHeartbeats 4000000 in
set_option maxRecDepth 100000 in
theorem law_kinds {M : kT} {b L : Nat} {xs : Nat → Int32} (C : l_ctx M b L xs) {A : Nat → Nat → Nat} {B : Nat → Nat} {X Y : AS} {T : FS} {J : TJ} {D : DJ} {i : Nat} (hi : i + 6 ≤ L) (hL : L ≤ 3072) (h : a_inv X) (hr : a_rel X Y) (nx : ∀ (X2 Y2 : AS) (T2 : FS) (J2 : TJ) (D2 : DJ), a_inv X2 → a_rel X2 Y2 → kJ M 4 1637 [(3, .int (nI i)), (2, .ref (B 0)), (1, .ref ((A 0) 0)), (0, .ref b)] [] (w_C (k_Z M) A X2 T2 J2 ++ w_M (k_Z M) B Y2 D2)) : kJ M 4 1119 [(3, .int (nI i)), (2, .ref (B 0)), (1, .ref ((A 0) 0)), (0, .ref b)] [] (w_C (k_Z M) A X T J ++ w_M (k_Z M) B Y D) := by
  have K := C.1
  have hY := rel_inv h hr
  obtain ⟨⟨m, hm, hm2, -⟩, -⟩ := id h.1
  refine q_aload_n K 2 dL_law_1119 rfl ?_
  refine q_aload_n K 3 dL_law_1120 rfl ?_
  refine q_iload_n K 0 dL_law_1121 rfl ?_
  refine q_iconst 1 K dL_law_1122 rfl ?_
  refine q_iadd K dL_law_1123 ?_
  refine q_eqi (nI (i + 1)) (kn_add i 1) ?_
  refine q_sld (j := i + 1) C (by omega) hL dL_law_1124 ?_
  refine q_aload_n K 3 dL_law_1125 rfl ?_
  refine q_iload_n K 0 dL_law_1126 rfl ?_
  refine q_iconst 2 K dL_law_1127 rfl ?_
  refine q_iadd K dL_law_1128 ?_
  refine q_eqi (nI (i + 2)) (kn_add i 2) ?_
  refine q_sld (j := i + 2) C (by omega) hL dL_law_1129 ?_
  refine q_cvI (q0 := 0) (As := [.int (xs (i + 1)), .int (xs (i + 2))]) (rest := []) K kv_X3_kinds (c_X3_kinds (k_l M) (k_Z M) A X T J m hm hm2 h.2.2.1 (xs (i + 1)) (xs (i + 2))) [] (w_M (k_Z M) B Y D) rfl rfl rfl ml_L_117 rfl rfl (Nat.le_of_ble_eq_true rfl) ⟨Nat.le_of_ble_eq_true rfl, Nat.le_of_ble_eq_true rfl⟩ dL_law_1130 (fun r1 w1 h1 => ?_)
  obtain ⟨T2, J2, e1, rfl⟩ := h1
  refine q_ws (ws' := w_C (k_Z M) A ((o_kinds X (xs (i + 1)) (xs (i + 2))).2) T2 J2 ++ w_M (k_Z M) B Y D) rfl ?_
  refine q_aload_n K 1 dL_law_1133 rfl ?_
  refine q_aload_n K 3 dL_law_1134 rfl ?_
  refine q_iload_n K 0 dL_law_1135 rfl ?_
  refine q_iconst 1 K dL_law_1136 rfl ?_
  refine q_iadd K dL_law_1137 ?_
  refine q_eqi (nI (i + 1)) (kn_add i 1) ?_
  refine q_sld (j := i + 1) C (by omega) hL dL_law_1138 ?_
  refine q_aload_n K 3 dL_law_1139 rfl ?_
  refine q_iload_n K 0 dL_law_1140 rfl ?_
  refine q_iconst 2 K dL_law_1141 rfl ?_
  refine q_iadd K dL_law_1142 ?_
  refine q_eqi (nI (i + 2)) (kn_add i 2) ?_
  refine q_sld (j := i + 2) C (by omega) hL dL_law_1143 ?_
  obtain ⟨⟨m, hm, hm2, hhd⟩, hok, hkd, hh⟩ := id hY.1
  refine q_cvI (q0 := 0) (As := [.int (xs (i + 1)), .int (xs (i + 2))]) (rest := [.int r1]) K kv_X4_kinds (c_X4_kinds (k_l M) (k_Z M) B Y D m hm hm2 hok hY.2.2.1 hY.2.2.2.1 (xs (i + 1)) (xs (i + 2))) (w_C (k_Z M) A (o_kinds X (xs (i + 1)) (xs (i + 2))).2 T2 J2) [] (by rw [List.append_nil]) rfl rfl ml_L_120 rfl rfl (Nat.le_of_ble_eq_true rfl) ⟨Nat.le_of_ble_eq_true rfl, Nat.le_of_ble_eq_true rfl⟩ dL_law_1144 (fun r2 w2 h2 => ?_)
  obtain ⟨D2, e2, rfl⟩ := h2
  refine q_ws (ws' := w_C (k_Z M) A ((o_kinds X (xs (i + 1)) (xs (i + 2))).2) T2 J2 ++ w_M (k_Z M) B ((o_kinds Y (xs (i + 1)) (xs (i + 2))).2) D2) (by rw [List.append_nil]) ?_
  obtain ⟨z1, z2, z3⟩ := lw_kinds h hr (xs (i + 1)) (xs (i + 2))
  refine q_icmp_eq 1637 K dL_law_1147 (by decide) (fun c => ?_) (fun c => ?_)
  · exact nx _ _ T2 J2 D2 z2 z3
  · exact absurd (e1.trans (z1.trans e2.symm)) c
set_option maxHeartbeats 4000000 in
set_option maxRecDepth 100000 in
theorem law_gales {M : kT} {b L : Nat} {xs : Nat → Int32} (C : l_ctx M b L xs) {A : Nat → Nat → Nat} {B : Nat → Nat} {X Y : AS} {T : FS} {J : TJ} {D : DJ} {i : Nat} (hi : i + 6 ≤ L) (hL : L ≤ 3072) (h : a_inv X) (hr : a_rel X Y) (nx : ∀ (X2 Y2 : AS) (T2 : FS) (J2 : TJ) (D2 : DJ), a_inv X2 → a_rel X2 Y2 → kJ M 4 1637 [(3, .int (nI i)), (2, .ref (B 0)), (1, .ref ((A 0) 0)), (0, .ref b)] [] (w_C (k_Z M) A X2 T2 J2 ++ w_M (k_Z M) B Y2 D2)) : kJ M 4 1152 [(3, .int (nI i)), (2, .ref (B 0)), (1, .ref ((A 0) 0)), (0, .ref b)] [] (w_C (k_Z M) A X T J ++ w_M (k_Z M) B Y D) := by
  have K := C.1
  have hY := rel_inv h hr
  obtain ⟨⟨m, hm, hm2, -⟩, -⟩ := id h.1
  refine q_aload_n K 2 dL_law_1152 rfl ?_
  refine q_aload_n K 3 dL_law_1153 rfl ?_
  refine q_iload_n K 0 dL_law_1154 rfl ?_
  refine q_iconst 1 K dL_law_1155 rfl ?_
  refine q_iadd K dL_law_1156 ?_
  refine q_eqi (nI (i + 1)) (kn_add i 1) ?_
  refine q_sld (j := i + 1) C (by omega) hL dL_law_1157 ?_
  refine q_cvI (q0 := 0) (As := [.int (xs (i + 1))]) (rest := []) K kv_X3_gales (c_X3_gales (k_l M) (k_Z M) A X T J m hm hm2 (xs (i + 1))) [] (w_M (k_Z M) B Y D) rfl rfl rfl ml_L_121 rfl rfl (Nat.le_of_ble_eq_true rfl) ⟨Nat.le_of_ble_eq_true rfl, Nat.le_of_ble_eq_true rfl⟩ dL_law_1158 (fun r1 w1 h1 => ?_)
  obtain ⟨T2, J2, e1, rfl⟩ := h1
  refine q_ws (ws' := w_C (k_Z M) A ((o_gales X (xs (i + 1))).2) T2 J2 ++ w_M (k_Z M) B Y D) rfl ?_
  refine q_aload_n K 1 dL_law_1161 rfl ?_
  refine q_aload_n K 3 dL_law_1162 rfl ?_
  refine q_iload_n K 0 dL_law_1163 rfl ?_
  refine q_iconst 1 K dL_law_1164 rfl ?_
  refine q_iadd K dL_law_1165 ?_
  refine q_eqi (nI (i + 1)) (kn_add i 1) ?_
  refine q_sld (j := i + 1) C (by omega) hL dL_law_1166 ?_
  obtain ⟨⟨m, hm, hm2, hhd⟩, hok, hkd, hh⟩ := id hY.1
  refine q_cvI (q0 := 0) (As := [.int (xs (i + 1))]) (rest := [.int r1]) K kv_X4_gales (c_X4_gales (k_l M) (k_Z M) B Y D m hm hm2 hok hh (xs (i + 1))) (w_C (k_Z M) A (o_gales X (xs (i + 1))).2 T2 J2) [] (by rw [List.append_nil]) rfl rfl ml_L_124 rfl rfl (Nat.le_of_ble_eq_true rfl) ⟨Nat.le_of_ble_eq_true rfl, Nat.le_of_ble_eq_true rfl⟩ dL_law_1167 (fun r2 w2 h2 => ?_)
  obtain ⟨D2, e2, rfl⟩ := h2
  refine q_ws (ws' := w_C (k_Z M) A ((o_gales X (xs (i + 1))).2) T2 J2 ++ w_M (k_Z M) B ((o_gales Y (xs (i + 1))).2) D2) (by rw [List.append_nil]) ?_
  obtain ⟨z1, z2, z3⟩ := lw_gales h hr (xs (i + 1))
  refine q_icmp_eq 1637 K dL_law_1170 (by decide) (fun c => ?_) (fun c => ?_)
  · exact nx _ _ T2 J2 D2 z2 z3
  · exact absurd (e1.trans (z1.trans e2.symm)) c
set_option maxHeartbeats 4000000 in
set_option maxRecDepth 100000 in
theorem law_odds {M : kT} {b L : Nat} {xs : Nat → Int32} (C : l_ctx M b L xs) {A : Nat → Nat → Nat} {B : Nat → Nat} {X Y : AS} {T : FS} {J : TJ} {D : DJ} {i : Nat} (hi : i + 6 ≤ L) (hL : L ≤ 3072) (h : a_inv X) (hr : a_rel X Y) (nx : ∀ (X2 Y2 : AS) (T2 : FS) (J2 : TJ) (D2 : DJ), a_inv X2 → a_rel X2 Y2 → kJ M 4 1637 [(3, .int (nI i)), (2, .ref (B 0)), (1, .ref ((A 0) 0)), (0, .ref b)] [] (w_C (k_Z M) A X2 T2 J2 ++ w_M (k_Z M) B Y2 D2)) : kJ M 4 1175 [(3, .int (nI i)), (2, .ref (B 0)), (1, .ref ((A 0) 0)), (0, .ref b)] [] (w_C (k_Z M) A X T J ++ w_M (k_Z M) B Y D) := by
  have K := C.1
  have hY := rel_inv h hr
  obtain ⟨⟨m, hm, hm2, -⟩, -⟩ := id h.1
  refine q_aload_n K 2 dL_law_1175 rfl ?_
  refine q_aload_n K 3 dL_law_1176 rfl ?_
  refine q_iload_n K 0 dL_law_1177 rfl ?_
  refine q_iconst 1 K dL_law_1178 rfl ?_
  refine q_iadd K dL_law_1179 ?_
  refine q_eqi (nI (i + 1)) (kn_add i 1) ?_
  refine q_sld (j := i + 1) C (by omega) hL dL_law_1180 ?_
  refine q_aload_n K 3 dL_law_1181 rfl ?_
  refine q_iload_n K 0 dL_law_1182 rfl ?_
  refine q_iconst 2 K dL_law_1183 rfl ?_
  refine q_iadd K dL_law_1184 ?_
  refine q_eqi (nI (i + 2)) (kn_add i 2) ?_
  refine q_sld (j := i + 2) C (by omega) hL dL_law_1185 ?_
  refine q_cvL (q0 := 0) (As := [.int (xs (i + 1)), .int (xs (i + 2))]) (rest := []) K kv_X3_odds (c_X3_odds (k_l M) (k_Z M) A X T J m hm hm2 (xs (i + 1)) (xs (i + 2))) [] (w_M (k_Z M) B Y D) rfl rfl rfl ml_L_125 rfl rfl (Nat.le_of_ble_eq_true rfl) ⟨Nat.le_of_ble_eq_true rfl, Nat.le_of_ble_eq_true rfl⟩ dL_law_1186 (fun r1 w1 h1 => ?_)
  obtain ⟨T2, J2, e1, rfl⟩ := h1
  refine q_ws (ws' := w_C (k_Z M) A ((o_odds X (xs (i + 1)) (xs (i + 2))).2) T2 J2 ++ w_M (k_Z M) B Y D) rfl ?_
  refine q_aload_n K 1 dL_law_1189 rfl ?_
  refine q_aload_n K 3 dL_law_1190 rfl ?_
  refine q_iload_n K 0 dL_law_1191 rfl ?_
  refine q_iconst 1 K dL_law_1192 rfl ?_
  refine q_iadd K dL_law_1193 ?_
  refine q_eqi (nI (i + 1)) (kn_add i 1) ?_
  refine q_sld (j := i + 1) C (by omega) hL dL_law_1194 ?_
  refine q_aload_n K 3 dL_law_1195 rfl ?_
  refine q_iload_n K 0 dL_law_1196 rfl ?_
  refine q_iconst 2 K dL_law_1197 rfl ?_
  refine q_iadd K dL_law_1198 ?_
  refine q_eqi (nI (i + 2)) (kn_add i 2) ?_
  refine q_sld (j := i + 2) C (by omega) hL dL_law_1199 ?_
  obtain ⟨⟨m, hm, hm2, hhd⟩, hok, hkd, hh⟩ := id hY.1
  refine q_cvL (q0 := 0) (As := [.int (xs (i + 1)), .int (xs (i + 2))]) (rest := [.long r1]) K kv_X4_odds (c_X4_odds (k_l M) (k_Z M) B Y D m hm hm2 hok (xs (i + 1)) (xs (i + 2))) (w_C (k_Z M) A (o_odds X (xs (i + 1)) (xs (i + 2))).2 T2 J2) [] (by rw [List.append_nil]) rfl rfl ml_L_129 rfl rfl (Nat.le_of_ble_eq_true rfl) ⟨Nat.le_of_ble_eq_true rfl, Nat.le_of_ble_eq_true rfl⟩ dL_law_1200 (fun r2 w2 h2 => ?_)
  obtain ⟨D2, e2, rfl⟩ := h2
  refine q_ws (ws' := w_C (k_Z M) A ((o_odds X (xs (i + 1)) (xs (i + 2))).2) T2 J2 ++ w_M (k_Z M) B ((o_odds Y (xs (i + 1)) (xs (i + 2))).2) D2) (by rw [List.append_nil]) ?_
  obtain ⟨z1, z2, z3⟩ := lw_odds h hr (xs (i + 1)) (xs (i + 2))
  refine q_lcmp K dL_law_1203 ?_
  refine q_if_eq 1637 K dL_law_1204 (by decide) (fun c => ?_) (fun c => ?_)
  · exact nx _ _ T2 J2 D2 z2 z3
  · exact absurd (by rw [e1, e2, z1]; exact lg_cmp_self _) c
set_option maxHeartbeats 4000000 in
set_option maxRecDepth 100000 in
theorem law_seed {M : kT} {b L : Nat} {xs : Nat → Int32} (C : l_ctx M b L xs) {A : Nat → Nat → Nat} {B : Nat → Nat} {X Y : AS} {T : FS} {J : TJ} {D : DJ} {i : Nat} (hi : i + 6 ≤ L) (hL : L ≤ 3072) (h : a_inv X) (hr : a_rel X Y) (nx : ∀ (X2 Y2 : AS) (T2 : FS) (J2 : TJ) (D2 : DJ), a_inv X2 → a_rel X2 Y2 → kJ M 4 1637 [(3, .int (nI i)), (2, .ref (B 0)), (1, .ref ((A 0) 0)), (0, .ref b)] [] (w_C (k_Z M) A X2 T2 J2 ++ w_M (k_Z M) B Y2 D2)) : kJ M 4 1209 [(3, .int (nI i)), (2, .ref (B 0)), (1, .ref ((A 0) 0)), (0, .ref b)] [] (w_C (k_Z M) A X T J ++ w_M (k_Z M) B Y D) := by
  have K := C.1
  have hY := rel_inv h hr
  obtain ⟨⟨m, hm, hm2, -⟩, -⟩ := id h.1
  refine q_aload_n K 2 dL_law_1209 rfl ?_
  refine q_aload_n K 3 dL_law_1210 rfl ?_
  refine q_iload_n K 0 dL_law_1211 rfl ?_
  refine q_iconst 1 K dL_law_1212 rfl ?_
  refine q_iadd K dL_law_1213 ?_
  refine q_eqi (nI (i + 1)) (kn_add i 1) ?_
  refine q_sld (j := i + 1) C (by omega) hL dL_law_1214 ?_
  refine q_cvI (q0 := 0) (As := [.int (xs (i + 1))]) (rest := []) K kv_X3_seed (c_X3_seed (k_l M) (k_Z M) A X T J m hm hm2 (xs (i + 1))) [] (w_M (k_Z M) B Y D) rfl rfl rfl ml_L_130 rfl rfl (Nat.le_of_ble_eq_true rfl) ⟨Nat.le_of_ble_eq_true rfl, Nat.le_of_ble_eq_true rfl⟩ dL_law_1215 (fun r1 w1 h1 => ?_)
  obtain ⟨T2, J2, e1, rfl⟩ := h1
  refine q_ws (ws' := w_C (k_Z M) A ((o_seed X (xs (i + 1))).2) T2 J2 ++ w_M (k_Z M) B Y D) rfl ?_
  refine q_aload_n K 1 dL_law_1218 rfl ?_
  refine q_aload_n K 3 dL_law_1219 rfl ?_
  refine q_iload_n K 0 dL_law_1220 rfl ?_
  refine q_iconst 1 K dL_law_1221 rfl ?_
  refine q_iadd K dL_law_1222 ?_
  refine q_eqi (nI (i + 1)) (kn_add i 1) ?_
  refine q_sld (j := i + 1) C (by omega) hL dL_law_1223 ?_
  obtain ⟨⟨m, hm, hm2, hhd⟩, hok, hkd, hh⟩ := id hY.1
  refine q_cvI (q0 := 0) (As := [.int (xs (i + 1))]) (rest := [.int r1]) K kv_X4_seed (c_X4_seed (k_l M) (k_Z M) B Y D m hm hm2 hok (xs (i + 1))) (w_C (k_Z M) A (o_seed X (xs (i + 1))).2 T2 J2) [] (by rw [List.append_nil]) rfl rfl ml_L_133 rfl rfl (Nat.le_of_ble_eq_true rfl) ⟨Nat.le_of_ble_eq_true rfl, Nat.le_of_ble_eq_true rfl⟩ dL_law_1224 (fun r2 w2 h2 => ?_)
  obtain ⟨D2, e2, rfl⟩ := h2
  refine q_ws (ws' := w_C (k_Z M) A ((o_seed X (xs (i + 1))).2) T2 J2 ++ w_M (k_Z M) B ((o_seed Y (xs (i + 1))).2) D2) (by rw [List.append_nil]) ?_
  obtain ⟨z1, z2, z3⟩ := lw_seed h hr (xs (i + 1))
  refine q_icmp_eq 1637 K dL_law_1227 (by decide) (fun c => ?_) (fun c => ?_)
  · exact nx _ _ T2 J2 D2 z2 z3
  · exact absurd (e1.trans (z1.trans e2.symm)) c
set_option maxHeartbeats 4000000 in
set_option maxRecDepth 100000 in
theorem law_feed {M : kT} {b L : Nat} {xs : Nat → Int32} (C : l_ctx M b L xs) {A : Nat → Nat → Nat} {B : Nat → Nat} {X Y : AS} {T : FS} {J : TJ} {D : DJ} {i : Nat} (hi : i + 6 ≤ L) (hL : L ≤ 3072) (h : a_inv X) (hr : a_rel X Y) (nx : ∀ (X2 Y2 : AS) (T2 : FS) (J2 : TJ) (D2 : DJ), a_inv X2 → a_rel X2 Y2 → kJ M 4 1637 [(3, .int (nI i)), (2, .ref (B 0)), (1, .ref ((A 0) 0)), (0, .ref b)] [] (w_C (k_Z M) A X2 T2 J2 ++ w_M (k_Z M) B Y2 D2)) : kJ M 4 1232 [(3, .int (nI i)), (2, .ref (B 0)), (1, .ref ((A 0) 0)), (0, .ref b)] [] (w_C (k_Z M) A X T J ++ w_M (k_Z M) B Y D) := by
  have K := C.1
  have hY := rel_inv h hr
  obtain ⟨⟨m, hm, hm2, -⟩, -⟩ := id h.1
  refine q_aload_n K 2 dL_law_1232 rfl ?_
  refine q_aload_n K 3 dL_law_1233 rfl ?_
  refine q_iload_n K 0 dL_law_1234 rfl ?_
  refine q_iconst 1 K dL_law_1235 rfl ?_
  refine q_iadd K dL_law_1236 ?_
  refine q_eqi (nI (i + 1)) (kn_add i 1) ?_
  refine q_sld (j := i + 1) C (by omega) hL dL_law_1237 ?_
  refine q_aload_n K 3 dL_law_1238 rfl ?_
  refine q_iload_n K 0 dL_law_1239 rfl ?_
  refine q_iconst 2 K dL_law_1240 rfl ?_
  refine q_iadd K dL_law_1241 ?_
  refine q_eqi (nI (i + 2)) (kn_add i 2) ?_
  refine q_sld (j := i + 2) C (by omega) hL dL_law_1242 ?_
  refine q_cvI (q0 := 0) (As := [.int (xs (i + 1)), .int (xs (i + 2))]) (rest := []) K kv_X3_feed (c_X3_feed (k_l M) (k_Z M) A X T J m hm hm2 h.2.2.2.2.1 (xs (i + 1)) (xs (i + 2))) [] (w_M (k_Z M) B Y D) rfl rfl rfl ml_L_134 rfl rfl (Nat.le_of_ble_eq_true rfl) ⟨Nat.le_of_ble_eq_true rfl, Nat.le_of_ble_eq_true rfl⟩ dL_law_1243 (fun r1 w1 h1 => ?_)
  obtain ⟨T2, J2, e1, rfl⟩ := h1
  refine q_ws (ws' := w_C (k_Z M) A ((o_feed X (xs (i + 1)) (xs (i + 2))).2) T2 J2 ++ w_M (k_Z M) B Y D) rfl ?_
  refine q_aload_n K 1 dL_law_1246 rfl ?_
  refine q_aload_n K 3 dL_law_1247 rfl ?_
  refine q_iload_n K 0 dL_law_1248 rfl ?_
  refine q_iconst 1 K dL_law_1249 rfl ?_
  refine q_iadd K dL_law_1250 ?_
  refine q_eqi (nI (i + 1)) (kn_add i 1) ?_
  refine q_sld (j := i + 1) C (by omega) hL dL_law_1251 ?_
  refine q_aload_n K 3 dL_law_1252 rfl ?_
  refine q_iload_n K 0 dL_law_1253 rfl ?_
  refine q_iconst 2 K dL_law_1254 rfl ?_
  refine q_iadd K dL_law_1255 ?_
  refine q_eqi (nI (i + 2)) (kn_add i 2) ?_
  refine q_sld (j := i + 2) C (by omega) hL dL_law_1256 ?_
  obtain ⟨⟨m, hm, hm2, hhd⟩, hok, hkd, hh⟩ := id hY.1
  refine q_cvI (q0 := 0) (As := [.int (xs (i + 1)), .int (xs (i + 2))]) (rest := [.int r1]) K kv_X4_feed (c_X4_feed (k_l M) (k_Z M) B Y D m hm hm2 hok hY.2.2.2.2.1 (xs (i + 1)) (xs (i + 2))) (w_C (k_Z M) A (o_feed X (xs (i + 1)) (xs (i + 2))).2 T2 J2) [] (by rw [List.append_nil]) rfl rfl ml_L_137 rfl rfl (Nat.le_of_ble_eq_true rfl) ⟨Nat.le_of_ble_eq_true rfl, Nat.le_of_ble_eq_true rfl⟩ dL_law_1257 (fun r2 w2 h2 => ?_)
  obtain ⟨D2, e2, rfl⟩ := h2
  refine q_ws (ws' := w_C (k_Z M) A ((o_feed X (xs (i + 1)) (xs (i + 2))).2) T2 J2 ++ w_M (k_Z M) B ((o_feed Y (xs (i + 1)) (xs (i + 2))).2) D2) (by rw [List.append_nil]) ?_
  obtain ⟨z1, z2, z3⟩ := lw_feed h hr (xs (i + 1)) (xs (i + 2))
  refine q_icmp_eq 1637 K dL_law_1260 (by decide) (fun c => ?_) (fun c => ?_)
  · exact nx _ _ T2 J2 D2 z2 z3
  · exact absurd (e1.trans (z1.trans e2.symm)) c
set_option maxHeartbeats 4000000 in
set_option maxRecDepth 100000 in
theorem law_wipe {M : kT} {b L : Nat} {xs : Nat → Int32} (C : l_ctx M b L xs) {A : Nat → Nat → Nat} {B : Nat → Nat} {X Y : AS} {T : FS} {J : TJ} {D : DJ} {i : Nat} (hi : i + 6 ≤ L) (hL : L ≤ 3072) (h : a_inv X) (hr : a_rel X Y) (nx : ∀ (X2 Y2 : AS) (T2 : FS) (J2 : TJ) (D2 : DJ), a_inv X2 → a_rel X2 Y2 → kJ M 4 1637 [(3, .int (nI i)), (2, .ref (B 0)), (1, .ref ((A 0) 0)), (0, .ref b)] [] (w_C (k_Z M) A X2 T2 J2 ++ w_M (k_Z M) B Y2 D2)) : kJ M 4 1265 [(3, .int (nI i)), (2, .ref (B 0)), (1, .ref ((A 0) 0)), (0, .ref b)] [] (w_C (k_Z M) A X T J ++ w_M (k_Z M) B Y D) := by
  have K := C.1
  have hY := rel_inv h hr
  obtain ⟨⟨m, hm, hm2, -⟩, -⟩ := id h.1
  refine q_aload_n K 2 dL_law_1265 rfl ?_
  refine q_cvI (q0 := 0) (As := []) (rest := []) K kv_X3_wipe (c_X3_wipe (k_l M) (k_Z M) A X T J m hm hm2) [] (w_M (k_Z M) B Y D) rfl rfl rfl ml_L_138 rfl rfl (Nat.le_of_ble_eq_true rfl) ⟨Nat.le_of_ble_eq_true rfl, Nat.le_of_ble_eq_true rfl⟩ dL_law_1266 (fun r1 w1 h1 => ?_)
  obtain ⟨T2, J2, e1, rfl⟩ := h1
  refine q_ws (ws' := w_C (k_Z M) A ((o_wipe X ).2) T2 J2 ++ w_M (k_Z M) B Y D) rfl ?_
  refine q_aload_n K 1 dL_law_1269 rfl ?_
  obtain ⟨⟨m, hm, hm2, hhd⟩, hok, hkd, hh⟩ := id hY.1
  refine q_cvI (q0 := 0) (As := []) (rest := [.int r1]) K kv_X4_wipe (c_X4_wipe (k_l M) (k_Z M) B Y D m hm hm2 hok) (w_C (k_Z M) A (o_wipe X ).2 T2 J2) [] (by rw [List.append_nil]) rfl rfl ml_L_142 rfl rfl (Nat.le_of_ble_eq_true rfl) ⟨Nat.le_of_ble_eq_true rfl, Nat.le_of_ble_eq_true rfl⟩ dL_law_1270 (fun r2 w2 h2 => ?_)
  obtain ⟨D2, e2, rfl⟩ := h2
  refine q_ws (ws' := w_C (k_Z M) A ((o_wipe X ).2) T2 J2 ++ w_M (k_Z M) B ((o_wipe Y ).2) D2) (by rw [List.append_nil]) ?_
  obtain ⟨z1, z2, z3⟩ := lw_wipe h hr 
  refine q_icmp_eq 1637 K dL_law_1273 (by decide) (fun c => ?_) (fun c => ?_)
  · exact nx _ _ T2 J2 D2 z2 z3
  · exact absurd (e1.trans (z1.trans e2.symm)) c
set_option maxHeartbeats 4000000 in
set_option maxRecDepth 100000 in
theorem law_text {M : kT} {b L : Nat} {xs : Nat → Int32} (C : l_ctx M b L xs) {A : Nat → Nat → Nat} {B : Nat → Nat} {X Y : AS} {T : FS} {J : TJ} {D : DJ} {i : Nat} (hi : i + 6 ≤ L) (hL : L ≤ 3072) (h : a_inv X) (hr : a_rel X Y) (nx : ∀ (X2 Y2 : AS) (T2 : FS) (J2 : TJ) (D2 : DJ), a_inv X2 → a_rel X2 Y2 → kJ M 4 1637 [(3, .int (nI i)), (2, .ref (B 0)), (1, .ref ((A 0) 0)), (0, .ref b)] [] (w_C (k_Z M) A X2 T2 J2 ++ w_M (k_Z M) B Y2 D2)) : kJ M 4 1278 [(3, .int (nI i)), (2, .ref (B 0)), (1, .ref ((A 0) 0)), (0, .ref b)] [] (w_C (k_Z M) A X T J ++ w_M (k_Z M) B Y D) := by
  have K := C.1
  have hY := rel_inv h hr
  obtain ⟨⟨m, hm, hm2, -⟩, -⟩ := id h.1
  refine q_aload_n K 2 dL_law_1278 rfl ?_
  refine q_cvI (q0 := 0) (As := []) (rest := []) K kv_X3_text (c_X3_text (k_l M) (k_Z M) A X T J m hm hm2 h.2.2.2.2.1 h.2.2.2.2.2 D) [] (w_M (k_Z M) B Y D) rfl rfl rfl ml_L_143 rfl rfl (Nat.le_of_ble_eq_true rfl) ⟨Nat.le_of_ble_eq_true rfl, Nat.le_of_ble_eq_true rfl⟩ dL_law_1279 (fun r1 w1 h1 => ?_)
  obtain ⟨T2, J2, e1, rfl⟩ := h1
  refine q_ws (ws' := w_C (k_Z M) A ((o_text X  D).2) T2 J2 ++ w_M (k_Z M) B Y D) rfl ?_
  refine q_aload_n K 1 dL_law_1282 rfl ?_
  obtain ⟨⟨m, hm, hm2, hhd⟩, hok, hkd, hh⟩ := id hY.1
  refine q_cvI (q0 := 0) (As := []) (rest := [.int r1]) K kv_X4_text (c_X4_text (k_l M) (k_Z M) B Y D hY.2.2.2.2.1 m hm hm2) (w_C (k_Z M) A (o_text X  D).2 T2 J2) [] (by rw [List.append_nil]) rfl rfl ml_L_146 rfl rfl (Nat.le_of_ble_eq_true rfl) ⟨Nat.le_of_ble_eq_true rfl, Nat.le_of_ble_eq_true rfl⟩ dL_law_1283 (fun r2 w2 h2 => ?_)
  obtain ⟨D2, e2, rfl⟩ := h2
  refine q_ws (ws' := w_C (k_Z M) A ((o_text X  D).2) T2 J2 ++ w_M (k_Z M) B ((o_text Y  D).2) D2) (by rw [List.append_nil]) ?_
  obtain ⟨z1, z2, z3⟩ := lw_text h hr  D
  refine q_icmp_eq 1637 K dL_law_1286 (by decide) (fun c => ?_) (fun c => ?_)
  · exact nx _ _ T2 J2 D2 z2 z3
  · exact absurd (e1.trans (z1.trans e2.symm)) c
set_option maxHeartbeats 4000000 in
set_option maxRecDepth 100000 in
theorem law_hold {M : kT} {b L : Nat} {xs : Nat → Int32} (C : l_ctx M b L xs) {A : Nat → Nat → Nat} {B : Nat → Nat} {X Y : AS} {T : FS} {J : TJ} {D : DJ} {i : Nat} (hi : i + 6 ≤ L) (hL : L ≤ 3072) (h : a_inv X) (hr : a_rel X Y) (nx : ∀ (X2 Y2 : AS) (T2 : FS) (J2 : TJ) (D2 : DJ), a_inv X2 → a_rel X2 Y2 → kJ M 4 1637 [(3, .int (nI i)), (2, .ref (B 0)), (1, .ref ((A 0) 0)), (0, .ref b)] [] (w_C (k_Z M) A X2 T2 J2 ++ w_M (k_Z M) B Y2 D2)) : kJ M 4 1291 [(3, .int (nI i)), (2, .ref (B 0)), (1, .ref ((A 0) 0)), (0, .ref b)] [] (w_C (k_Z M) A X T J ++ w_M (k_Z M) B Y D) := by
  have K := C.1
  have hY := rel_inv h hr
  obtain ⟨⟨m, hm, hm2, -⟩, -⟩ := id h.1
  refine q_aload_n K 2 dL_law_1291 rfl ?_
  refine q_aload_n K 3 dL_law_1292 rfl ?_
  refine q_iload_n K 0 dL_law_1293 rfl ?_
  refine q_iconst 1 K dL_law_1294 rfl ?_
  refine q_iadd K dL_law_1295 ?_
  refine q_eqi (nI (i + 1)) (kn_add i 1) ?_
  refine q_sld (j := i + 1) C (by omega) hL dL_law_1296 ?_
  refine q_aload_n K 3 dL_law_1297 rfl ?_
  refine q_iload_n K 0 dL_law_1298 rfl ?_
  refine q_iconst 2 K dL_law_1299 rfl ?_
  refine q_iadd K dL_law_1300 ?_
  refine q_eqi (nI (i + 2)) (kn_add i 2) ?_
  refine q_sld (j := i + 2) C (by omega) hL dL_law_1301 ?_
  refine q_cvI (q0 := 0) (As := [.int (xs (i + 1)), .int (xs (i + 2))]) (rest := []) K kv_X3_hold (c_X3_hold (k_l M) (k_Z M) A X T J m hm hm2 (xs (i + 1)) (xs (i + 2))) [] (w_M (k_Z M) B Y D) rfl rfl rfl ml_L_147 rfl rfl (Nat.le_of_ble_eq_true rfl) ⟨Nat.le_of_ble_eq_true rfl, Nat.le_of_ble_eq_true rfl⟩ dL_law_1302 (fun r1 w1 h1 => ?_)
  obtain ⟨T2, J2, e1, rfl⟩ := h1
  refine q_ws (ws' := w_C (k_Z M) A ((o_hold X (xs (i + 1)) (xs (i + 2))).2) T2 J2 ++ w_M (k_Z M) B Y D) rfl ?_
  refine q_aload_n K 1 dL_law_1305 rfl ?_
  refine q_aload_n K 3 dL_law_1306 rfl ?_
  refine q_iload_n K 0 dL_law_1307 rfl ?_
  refine q_iconst 1 K dL_law_1308 rfl ?_
  refine q_iadd K dL_law_1309 ?_
  refine q_eqi (nI (i + 1)) (kn_add i 1) ?_
  refine q_sld (j := i + 1) C (by omega) hL dL_law_1310 ?_
  refine q_aload_n K 3 dL_law_1311 rfl ?_
  refine q_iload_n K 0 dL_law_1312 rfl ?_
  refine q_iconst 2 K dL_law_1313 rfl ?_
  refine q_iadd K dL_law_1314 ?_
  refine q_eqi (nI (i + 2)) (kn_add i 2) ?_
  refine q_sld (j := i + 2) C (by omega) hL dL_law_1315 ?_
  obtain ⟨⟨m, hm, hm2, hhd⟩, hok, hkd, hh⟩ := id hY.1
  refine q_cvI (q0 := 0) (As := [.int (xs (i + 1)), .int (xs (i + 2))]) (rest := [.int r1]) K kv_X4_hold (c_X4_hold (k_l M) (k_Z M) B Y D m hm hm2 hok (xs (i + 1)) (xs (i + 2))) (w_C (k_Z M) A (o_hold X (xs (i + 1)) (xs (i + 2))).2 T2 J2) [] (by rw [List.append_nil]) rfl rfl ml_L_150 rfl rfl (Nat.le_of_ble_eq_true rfl) ⟨Nat.le_of_ble_eq_true rfl, Nat.le_of_ble_eq_true rfl⟩ dL_law_1316 (fun r2 w2 h2 => ?_)
  obtain ⟨D2, e2, rfl⟩ := h2
  refine q_ws (ws' := w_C (k_Z M) A ((o_hold X (xs (i + 1)) (xs (i + 2))).2) T2 J2 ++ w_M (k_Z M) B ((o_hold Y (xs (i + 1)) (xs (i + 2))).2) D2) (by rw [List.append_nil]) ?_
  obtain ⟨z1, z2, z3⟩ := lw_hold h hr (xs (i + 1)) (xs (i + 2))
  refine q_icmp_eq 1637 K dL_law_1319 (by decide) (fun c => ?_) (fun c => ?_)
  · exact nx _ _ T2 J2 D2 z2 z3
  · exact absurd (e1.trans (z1.trans e2.symm)) c
set_option maxHeartbeats 4000000 in
set_option maxRecDepth 100000 in
theorem law_as {M : kT} {b L : Nat} {xs : Nat → Int32} (C : l_ctx M b L xs) {A : Nat → Nat → Nat} {B : Nat → Nat} {X Y : AS} {T : FS} {J : TJ} {D : DJ} {i : Nat} (hi : i + 6 ≤ L) (hL : L ≤ 3072) (h : a_inv X) (hr : a_rel X Y) (nx : ∀ (X2 Y2 : AS) (T2 : FS) (J2 : TJ) (D2 : DJ), a_inv X2 → a_rel X2 Y2 → kJ M 4 1637 [(3, .int (nI i)), (2, .ref (B 0)), (1, .ref ((A 0) 0)), (0, .ref b)] [] (w_C (k_Z M) A X2 T2 J2 ++ w_M (k_Z M) B Y2 D2)) : kJ M 4 1324 [(3, .int (nI i)), (2, .ref (B 0)), (1, .ref ((A 0) 0)), (0, .ref b)] [] (w_C (k_Z M) A X T J ++ w_M (k_Z M) B Y D) := by
  have K := C.1
  have hY := rel_inv h hr
  obtain ⟨⟨m, hm, hm2, -⟩, -⟩ := id h.1
  refine q_aload_n K 2 dL_law_1324 rfl ?_
  refine q_aload_n K 3 dL_law_1325 rfl ?_
  refine q_iload_n K 0 dL_law_1326 rfl ?_
  refine q_iconst 1 K dL_law_1327 rfl ?_
  refine q_iadd K dL_law_1328 ?_
  refine q_eqi (nI (i + 1)) (kn_add i 1) ?_
  refine q_sld (j := i + 1) C (by omega) hL dL_law_1329 ?_
  refine q_aload_n K 3 dL_law_1330 rfl ?_
  refine q_iload_n K 0 dL_law_1331 rfl ?_
  refine q_iconst 2 K dL_law_1332 rfl ?_
  refine q_iadd K dL_law_1333 ?_
  refine q_eqi (nI (i + 2)) (kn_add i 2) ?_
  refine q_sld (j := i + 2) C (by omega) hL dL_law_1334 ?_
  refine q_cvI (q0 := 0) (As := [.int (xs (i + 1)), .int (xs (i + 2))]) (rest := []) K kv_X3_as (c_X3_as (k_l M) (k_Z M) A X T J m hm hm2 (xs (i + 1)) (xs (i + 2))) [] (w_M (k_Z M) B Y D) rfl rfl rfl ml_L_151 rfl rfl (Nat.le_of_ble_eq_true rfl) ⟨Nat.le_of_ble_eq_true rfl, Nat.le_of_ble_eq_true rfl⟩ dL_law_1335 (fun r1 w1 h1 => ?_)
  obtain ⟨T2, J2, e1, rfl⟩ := h1
  refine q_ws (ws' := w_C (k_Z M) A ((o_as X (xs (i + 1)) (xs (i + 2))).2) T2 J2 ++ w_M (k_Z M) B Y D) rfl ?_
  refine q_aload_n K 1 dL_law_1338 rfl ?_
  refine q_aload_n K 3 dL_law_1339 rfl ?_
  refine q_iload_n K 0 dL_law_1340 rfl ?_
  refine q_iconst 1 K dL_law_1341 rfl ?_
  refine q_iadd K dL_law_1342 ?_
  refine q_eqi (nI (i + 1)) (kn_add i 1) ?_
  refine q_sld (j := i + 1) C (by omega) hL dL_law_1343 ?_
  refine q_aload_n K 3 dL_law_1344 rfl ?_
  refine q_iload_n K 0 dL_law_1345 rfl ?_
  refine q_iconst 2 K dL_law_1346 rfl ?_
  refine q_iadd K dL_law_1347 ?_
  refine q_eqi (nI (i + 2)) (kn_add i 2) ?_
  refine q_sld (j := i + 2) C (by omega) hL dL_law_1348 ?_
  obtain ⟨⟨m, hm, hm2, hhd⟩, hok, hkd, hh⟩ := id hY.1
  refine q_cvI (q0 := 0) (As := [.int (xs (i + 1)), .int (xs (i + 2))]) (rest := [.int r1]) K kv_X4_as (c_X4_as (k_l M) (k_Z M) B Y D m hm hm2 hok hkd hhd (xs (i + 1)) (xs (i + 2))) (w_C (k_Z M) A (o_as X (xs (i + 1)) (xs (i + 2))).2 T2 J2) [] (by rw [List.append_nil]) rfl rfl ml_L_154 rfl rfl (Nat.le_of_ble_eq_true rfl) ⟨Nat.le_of_ble_eq_true rfl, Nat.le_of_ble_eq_true rfl⟩ dL_law_1349 (fun r2 w2 h2 => ?_)
  obtain ⟨D2, e2, rfl⟩ := h2
  refine q_ws (ws' := w_C (k_Z M) A ((o_as X (xs (i + 1)) (xs (i + 2))).2) T2 J2 ++ w_M (k_Z M) B ((o_as Y (xs (i + 1)) (xs (i + 2))).2) D2) (by rw [List.append_nil]) ?_
  obtain ⟨z1, z2, z3⟩ := lw_as h hr (xs (i + 1)) (xs (i + 2))
  refine q_icmp_eq 1637 K dL_law_1352 (by decide) (fun c => ?_) (fun c => ?_)
  · exact nx _ _ T2 J2 D2 z2 z3
  · exact absurd (e1.trans (z1.trans e2.symm)) c
set_option maxHeartbeats 4000000 in
set_option maxRecDepth 100000 in
theorem law_sheet {M : kT} {b L : Nat} {xs : Nat → Int32} (C : l_ctx M b L xs) {A : Nat → Nat → Nat} {B : Nat → Nat} {X Y : AS} {T : FS} {J : TJ} {D : DJ} {i : Nat} (hi : i + 6 ≤ L) (hL : L ≤ 3072) (h : a_inv X) (hr : a_rel X Y) (nx : ∀ (X2 Y2 : AS) (T2 : FS) (J2 : TJ) (D2 : DJ), a_inv X2 → a_rel X2 Y2 → kJ M 4 1637 [(3, .int (nI i)), (2, .ref (B 0)), (1, .ref ((A 0) 0)), (0, .ref b)] [] (w_C (k_Z M) A X2 T2 J2 ++ w_M (k_Z M) B Y2 D2)) : kJ M 4 1357 [(3, .int (nI i)), (2, .ref (B 0)), (1, .ref ((A 0) 0)), (0, .ref b)] [] (w_C (k_Z M) A X T J ++ w_M (k_Z M) B Y D) := by
  have K := C.1
  have hY := rel_inv h hr
  obtain ⟨⟨m, hm, hm2, -⟩, -⟩ := id h.1
  refine q_aload_n K 2 dL_law_1357 rfl ?_
  refine q_aload_n K 3 dL_law_1358 rfl ?_
  refine q_iload_n K 0 dL_law_1359 rfl ?_
  refine q_iconst 1 K dL_law_1360 rfl ?_
  refine q_iadd K dL_law_1361 ?_
  refine q_eqi (nI (i + 1)) (kn_add i 1) ?_
  refine q_sld (j := i + 1) C (by omega) hL dL_law_1362 ?_
  refine q_aload_n K 3 dL_law_1363 rfl ?_
  refine q_iload_n K 0 dL_law_1364 rfl ?_
  refine q_iconst 2 K dL_law_1365 rfl ?_
  refine q_iadd K dL_law_1366 ?_
  refine q_eqi (nI (i + 2)) (kn_add i 2) ?_
  refine q_sld (j := i + 2) C (by omega) hL dL_law_1367 ?_
  refine q_aload_n K 3 dL_law_1368 rfl ?_
  refine q_iload_n K 0 dL_law_1369 rfl ?_
  refine q_iconst 3 K dL_law_1370 rfl ?_
  refine q_iadd K dL_law_1371 ?_
  refine q_eqi (nI (i + 3)) (kn_add i 3) ?_
  refine q_sld (j := i + 3) C (by omega) hL dL_law_1372 ?_
  refine q_cvI (q0 := 0) (As := [.int (xs (i + 1)), .int (xs (i + 2)), .int (xs (i + 3))]) (rest := []) K kv_X3_sheet (c_X3_sheet (k_l M) (k_Z M) A X T J m hm hm2 h.2.2.1 (xs (i + 1)) (xs (i + 2)) (xs (i + 3))) [] (w_M (k_Z M) B Y D) rfl rfl rfl ml_L_155 rfl rfl (Nat.le_of_ble_eq_true rfl) ⟨Nat.le_of_ble_eq_true rfl, Nat.le_of_ble_eq_true rfl⟩ dL_law_1373 (fun r1 w1 h1 => ?_)
  obtain ⟨T2, J2, e1, rfl⟩ := h1
  refine q_ws (ws' := w_C (k_Z M) A ((o_sheet X (xs (i + 1)) (xs (i + 2)) (xs (i + 3))).2) T2 J2 ++ w_M (k_Z M) B Y D) rfl ?_
  refine q_aload_n K 1 dL_law_1376 rfl ?_
  refine q_aload_n K 3 dL_law_1377 rfl ?_
  refine q_iload_n K 0 dL_law_1378 rfl ?_
  refine q_iconst 1 K dL_law_1379 rfl ?_
  refine q_iadd K dL_law_1380 ?_
  refine q_eqi (nI (i + 1)) (kn_add i 1) ?_
  refine q_sld (j := i + 1) C (by omega) hL dL_law_1381 ?_
  refine q_aload_n K 3 dL_law_1382 rfl ?_
  refine q_iload_n K 0 dL_law_1383 rfl ?_
  refine q_iconst 2 K dL_law_1384 rfl ?_
  refine q_iadd K dL_law_1385 ?_
  refine q_eqi (nI (i + 2)) (kn_add i 2) ?_
  refine q_sld (j := i + 2) C (by omega) hL dL_law_1386 ?_
  refine q_aload_n K 3 dL_law_1387 rfl ?_
  refine q_iload_n K 0 dL_law_1388 rfl ?_
  refine q_iconst 3 K dL_law_1389 rfl ?_
  refine q_iadd K dL_law_1390 ?_
  refine q_eqi (nI (i + 3)) (kn_add i 3) ?_
  refine q_sld (j := i + 3) C (by omega) hL dL_law_1391 ?_
  obtain ⟨⟨m, hm, hm2, hhd⟩, hok, hkd, hh⟩ := id hY.1
  refine q_cvI (q0 := 0) (As := [.int (xs (i + 1)), .int (xs (i + 2)), .int (xs (i + 3))]) (rest := [.int r1]) K kv_X4_sheet (c_X4_sheet (k_l M) (k_Z M) B Y D m hm hm2 hok hY.2.2.1 hY.2.2.2.1 (xs (i + 1)) (xs (i + 2)) (xs (i + 3))) (w_C (k_Z M) A (o_sheet X (xs (i + 1)) (xs (i + 2)) (xs (i + 3))).2 T2 J2) [] (by rw [List.append_nil]) rfl rfl ml_L_158 rfl rfl (Nat.le_of_ble_eq_true rfl) ⟨Nat.le_of_ble_eq_true rfl, Nat.le_of_ble_eq_true rfl⟩ dL_law_1392 (fun r2 w2 h2 => ?_)
  obtain ⟨D2, e2, rfl⟩ := h2
  refine q_ws (ws' := w_C (k_Z M) A ((o_sheet X (xs (i + 1)) (xs (i + 2)) (xs (i + 3))).2) T2 J2 ++ w_M (k_Z M) B ((o_sheet Y (xs (i + 1)) (xs (i + 2)) (xs (i + 3))).2) D2) (by rw [List.append_nil]) ?_
  obtain ⟨z1, z2, z3⟩ := lw_sheet h hr (xs (i + 1)) (xs (i + 2)) (xs (i + 3))
  refine q_icmp_eq 1637 K dL_law_1395 (by decide) (fun c => ?_) (fun c => ?_)
  · exact nx _ _ T2 J2 D2 z2 z3
  · exact absurd (e1.trans (z1.trans e2.symm)) c
set_option maxHeartbeats 4000000 in
set_option maxRecDepth 100000 in
theorem law_write {M : kT} {b L : Nat} {xs : Nat → Int32} (C : l_ctx M b L xs) {A : Nat → Nat → Nat} {B : Nat → Nat} {X Y : AS} {T : FS} {J : TJ} {D : DJ} {i : Nat} (hi : i + 6 ≤ L) (hL : L ≤ 3072) (h : a_inv X) (hr : a_rel X Y) (nx : ∀ (X2 Y2 : AS) (T2 : FS) (J2 : TJ) (D2 : DJ), a_inv X2 → a_rel X2 Y2 → kJ M 4 1637 [(3, .int (nI i)), (2, .ref (B 0)), (1, .ref ((A 0) 0)), (0, .ref b)] [] (w_C (k_Z M) A X2 T2 J2 ++ w_M (k_Z M) B Y2 D2)) : kJ M 4 1400 [(3, .int (nI i)), (2, .ref (B 0)), (1, .ref ((A 0) 0)), (0, .ref b)] [] (w_C (k_Z M) A X T J ++ w_M (k_Z M) B Y D) := by
  have K := C.1
  have hY := rel_inv h hr
  obtain ⟨⟨m, hm, hm2, -⟩, -⟩ := id h.1
  refine q_aload_n K 2 dL_law_1400 rfl ?_
  refine q_aload_n K 3 dL_law_1401 rfl ?_
  refine q_iload_n K 0 dL_law_1402 rfl ?_
  refine q_iconst 1 K dL_law_1403 rfl ?_
  refine q_iadd K dL_law_1404 ?_
  refine q_eqi (nI (i + 1)) (kn_add i 1) ?_
  refine q_sld (j := i + 1) C (by omega) hL dL_law_1405 ?_
  refine q_aload_n K 3 dL_law_1406 rfl ?_
  refine q_iload_n K 0 dL_law_1407 rfl ?_
  refine q_iconst 2 K dL_law_1408 rfl ?_
  refine q_iadd K dL_law_1409 ?_
  refine q_eqi (nI (i + 2)) (kn_add i 2) ?_
  refine q_sld (j := i + 2) C (by omega) hL dL_law_1410 ?_
  refine q_aload_n K 3 dL_law_1411 rfl ?_
  refine q_iload_n K 0 dL_law_1412 rfl ?_
  refine q_iconst 3 K dL_law_1413 rfl ?_
  refine q_iadd K dL_law_1414 ?_
  refine q_eqi (nI (i + 3)) (kn_add i 3) ?_
  refine q_sld (j := i + 3) C (by omega) hL dL_law_1415 ?_
  refine q_cvI (q0 := 0) (As := [.int (xs (i + 1)), .int (xs (i + 2)), .int (xs (i + 3))]) (rest := []) K kv_X3_write (c_X3_write (k_l M) (k_Z M) A X T J m hm hm2 h.2.2.1 (xs (i + 1)) (xs (i + 2)) (xs (i + 3))) [] (w_M (k_Z M) B Y D) rfl rfl rfl ml_L_159 rfl rfl (Nat.le_of_ble_eq_true rfl) ⟨Nat.le_of_ble_eq_true rfl, Nat.le_of_ble_eq_true rfl⟩ dL_law_1416 (fun r1 w1 h1 => ?_)
  obtain ⟨T2, J2, e1, rfl⟩ := h1
  refine q_ws (ws' := w_C (k_Z M) A ((o_write X (xs (i + 1)) (xs (i + 2)) (xs (i + 3))).2) T2 J2 ++ w_M (k_Z M) B Y D) rfl ?_
  refine q_aload_n K 1 dL_law_1419 rfl ?_
  refine q_aload_n K 3 dL_law_1420 rfl ?_
  refine q_iload_n K 0 dL_law_1421 rfl ?_
  refine q_iconst 1 K dL_law_1422 rfl ?_
  refine q_iadd K dL_law_1423 ?_
  refine q_eqi (nI (i + 1)) (kn_add i 1) ?_
  refine q_sld (j := i + 1) C (by omega) hL dL_law_1424 ?_
  refine q_aload_n K 3 dL_law_1425 rfl ?_
  refine q_iload_n K 0 dL_law_1426 rfl ?_
  refine q_iconst 2 K dL_law_1427 rfl ?_
  refine q_iadd K dL_law_1428 ?_
  refine q_eqi (nI (i + 2)) (kn_add i 2) ?_
  refine q_sld (j := i + 2) C (by omega) hL dL_law_1429 ?_
  refine q_aload_n K 3 dL_law_1430 rfl ?_
  refine q_iload_n K 0 dL_law_1431 rfl ?_
  refine q_iconst 3 K dL_law_1432 rfl ?_
  refine q_iadd K dL_law_1433 ?_
  refine q_eqi (nI (i + 3)) (kn_add i 3) ?_
  refine q_sld (j := i + 3) C (by omega) hL dL_law_1434 ?_
  obtain ⟨⟨m, hm, hm2, hhd⟩, hok, hkd, hh⟩ := id hY.1
  refine q_cvI (q0 := 0) (As := [.int (xs (i + 1)), .int (xs (i + 2)), .int (xs (i + 3))]) (rest := [.int r1]) K kv_X4_write (c_X4_write (k_l M) (k_Z M) B Y D m hm hm2 hok hY.2.2.1 hY.2.2.2.1 (xs (i + 1)) (xs (i + 2)) (xs (i + 3))) (w_C (k_Z M) A (o_write X (xs (i + 1)) (xs (i + 2)) (xs (i + 3))).2 T2 J2) [] (by rw [List.append_nil]) rfl rfl ml_L_162 rfl rfl (Nat.le_of_ble_eq_true rfl) ⟨Nat.le_of_ble_eq_true rfl, Nat.le_of_ble_eq_true rfl⟩ dL_law_1435 (fun r2 w2 h2 => ?_)
  obtain ⟨D2, e2, rfl⟩ := h2
  refine q_ws (ws' := w_C (k_Z M) A ((o_write X (xs (i + 1)) (xs (i + 2)) (xs (i + 3))).2) T2 J2 ++ w_M (k_Z M) B ((o_write Y (xs (i + 1)) (xs (i + 2)) (xs (i + 3))).2) D2) (by rw [List.append_nil]) ?_
  obtain ⟨z1, z2, z3⟩ := lw_write h hr (xs (i + 1)) (xs (i + 2)) (xs (i + 3))
  refine q_icmp_eq 1637 K dL_law_1438 (by decide) (fun c => ?_) (fun c => ?_)
  · exact nx _ _ T2 J2 D2 z2 z3
  · exact absurd (e1.trans (z1.trans e2.symm)) c
set_option maxHeartbeats 4000000 in
set_option maxRecDepth 100000 in
theorem law_copy {M : kT} {b L : Nat} {xs : Nat → Int32} (C : l_ctx M b L xs) {A : Nat → Nat → Nat} {B : Nat → Nat} {X Y : AS} {T : FS} {J : TJ} {D : DJ} {i : Nat} (hi : i + 6 ≤ L) (hL : L ≤ 3072) (h : a_inv X) (hr : a_rel X Y) (nx : ∀ (X2 Y2 : AS) (T2 : FS) (J2 : TJ) (D2 : DJ), a_inv X2 → a_rel X2 Y2 → kJ M 4 1637 [(3, .int (nI i)), (2, .ref (B 0)), (1, .ref ((A 0) 0)), (0, .ref b)] [] (w_C (k_Z M) A X2 T2 J2 ++ w_M (k_Z M) B Y2 D2)) : kJ M 4 1443 [(3, .int (nI i)), (2, .ref (B 0)), (1, .ref ((A 0) 0)), (0, .ref b)] [] (w_C (k_Z M) A X T J ++ w_M (k_Z M) B Y D) := by
  have K := C.1
  have hY := rel_inv h hr
  obtain ⟨⟨m, hm, hm2, -⟩, -⟩ := id h.1
  refine q_aload_n K 2 dL_law_1443 rfl ?_
  refine q_aload_n K 3 dL_law_1444 rfl ?_
  refine q_iload_n K 0 dL_law_1445 rfl ?_
  refine q_iconst 1 K dL_law_1446 rfl ?_
  refine q_iadd K dL_law_1447 ?_
  refine q_eqi (nI (i + 1)) (kn_add i 1) ?_
  refine q_sld (j := i + 1) C (by omega) hL dL_law_1448 ?_
  refine q_aload_n K 3 dL_law_1449 rfl ?_
  refine q_iload_n K 0 dL_law_1450 rfl ?_
  refine q_iconst 2 K dL_law_1451 rfl ?_
  refine q_iadd K dL_law_1452 ?_
  refine q_eqi (nI (i + 2)) (kn_add i 2) ?_
  refine q_sld (j := i + 2) C (by omega) hL dL_law_1453 ?_
  refine q_aload_n K 3 dL_law_1454 rfl ?_
  refine q_iload_n K 0 dL_law_1455 rfl ?_
  refine q_iconst 3 K dL_law_1456 rfl ?_
  refine q_iadd K dL_law_1457 ?_
  refine q_eqi (nI (i + 3)) (kn_add i 3) ?_
  refine q_sld (j := i + 3) C (by omega) hL dL_law_1458 ?_
  refine q_aload_n K 3 dL_law_1459 rfl ?_
  refine q_iload_n K 0 dL_law_1460 rfl ?_
  refine q_iconst 4 K dL_law_1461 rfl ?_
  refine q_iadd K dL_law_1462 ?_
  refine q_eqi (nI (i + 4)) (kn_add i 4) ?_
  refine q_sld (j := i + 4) C (by omega) hL dL_law_1463 ?_
  refine q_aload_n K 3 dL_law_1464 rfl ?_
  refine q_iload_n K 0 dL_law_1465 rfl ?_
  refine q_iconst 5 K dL_law_1466 rfl ?_
  refine q_iadd K dL_law_1467 ?_
  refine q_eqi (nI (i + 5)) (kn_add i 5) ?_
  refine q_sld (j := i + 5) C (by omega) hL dL_law_1468 ?_
  refine q_cvI (q0 := 0) (As := [.int (xs (i + 1)), .int (xs (i + 2)), .int (xs (i + 3)), .int (xs (i + 4)), .int (xs (i + 5))]) (rest := []) K kv_X3_copy (c_X3_copy (k_l M) (k_Z M) A X T J m hm hm2 h.2.2.1 (xs (i + 1)) (xs (i + 2)) (xs (i + 3)) (xs (i + 4)) (xs (i + 5))) [] (w_M (k_Z M) B Y D) rfl rfl rfl ml_L_163 rfl rfl (Nat.le_of_ble_eq_true rfl) ⟨Nat.le_of_ble_eq_true rfl, Nat.le_of_ble_eq_true rfl⟩ dL_law_1469 (fun r1 w1 h1 => ?_)
  obtain ⟨T2, J2, e1, rfl⟩ := h1
  refine q_ws (ws' := w_C (k_Z M) A ((o_copy X (xs (i + 1)) (xs (i + 2)) (xs (i + 3)) (xs (i + 4)) (xs (i + 5))).2) T2 J2 ++ w_M (k_Z M) B Y D) rfl ?_
  refine q_aload_n K 1 dL_law_1472 rfl ?_
  refine q_aload_n K 3 dL_law_1473 rfl ?_
  refine q_iload_n K 0 dL_law_1474 rfl ?_
  refine q_iconst 1 K dL_law_1475 rfl ?_
  refine q_iadd K dL_law_1476 ?_
  refine q_eqi (nI (i + 1)) (kn_add i 1) ?_
  refine q_sld (j := i + 1) C (by omega) hL dL_law_1477 ?_
  refine q_aload_n K 3 dL_law_1478 rfl ?_
  refine q_iload_n K 0 dL_law_1479 rfl ?_
  refine q_iconst 2 K dL_law_1480 rfl ?_
  refine q_iadd K dL_law_1481 ?_
  refine q_eqi (nI (i + 2)) (kn_add i 2) ?_
  refine q_sld (j := i + 2) C (by omega) hL dL_law_1482 ?_
  refine q_aload_n K 3 dL_law_1483 rfl ?_
  refine q_iload_n K 0 dL_law_1484 rfl ?_
  refine q_iconst 3 K dL_law_1485 rfl ?_
  refine q_iadd K dL_law_1486 ?_
  refine q_eqi (nI (i + 3)) (kn_add i 3) ?_
  refine q_sld (j := i + 3) C (by omega) hL dL_law_1487 ?_
  refine q_aload_n K 3 dL_law_1488 rfl ?_
  refine q_iload_n K 0 dL_law_1489 rfl ?_
  refine q_iconst 4 K dL_law_1490 rfl ?_
  refine q_iadd K dL_law_1491 ?_
  refine q_eqi (nI (i + 4)) (kn_add i 4) ?_
  refine q_sld (j := i + 4) C (by omega) hL dL_law_1492 ?_
  refine q_aload_n K 3 dL_law_1493 rfl ?_
  refine q_iload_n K 0 dL_law_1494 rfl ?_
  refine q_iconst 5 K dL_law_1495 rfl ?_
  refine q_iadd K dL_law_1496 ?_
  refine q_eqi (nI (i + 5)) (kn_add i 5) ?_
  refine q_sld (j := i + 5) C (by omega) hL dL_law_1497 ?_
  obtain ⟨⟨m, hm, hm2, hhd⟩, hok, hkd, hh⟩ := id hY.1
  refine q_cvI (q0 := 0) (As := [.int (xs (i + 1)), .int (xs (i + 2)), .int (xs (i + 3)), .int (xs (i + 4)), .int (xs (i + 5))]) (rest := [.int r1]) K kv_X4_copy (c_X4_copy (k_l M) (k_Z M) B Y D m hm hm2 hok hY.2.2.1 hY.2.2.2.1 (xs (i + 1)) (xs (i + 2)) (xs (i + 3)) (xs (i + 4)) (xs (i + 5))) (w_C (k_Z M) A (o_copy X (xs (i + 1)) (xs (i + 2)) (xs (i + 3)) (xs (i + 4)) (xs (i + 5))).2 T2 J2) [] (by rw [List.append_nil]) rfl rfl ml_L_167 rfl rfl (Nat.le_of_ble_eq_true rfl) ⟨Nat.le_of_ble_eq_true rfl, Nat.le_of_ble_eq_true rfl⟩ dL_law_1498 (fun r2 w2 h2 => ?_)
  obtain ⟨D2, e2, rfl⟩ := h2
  refine q_ws (ws' := w_C (k_Z M) A ((o_copy X (xs (i + 1)) (xs (i + 2)) (xs (i + 3)) (xs (i + 4)) (xs (i + 5))).2) T2 J2 ++ w_M (k_Z M) B ((o_copy Y (xs (i + 1)) (xs (i + 2)) (xs (i + 3)) (xs (i + 4)) (xs (i + 5))).2) D2) (by rw [List.append_nil]) ?_
  obtain ⟨z1, z2, z3⟩ := lw_copy h hr (xs (i + 1)) (xs (i + 2)) (xs (i + 3)) (xs (i + 4)) (xs (i + 5))
  refine q_icmp_eq 1637 K dL_law_1501 (by decide) (fun c => ?_) (fun c => ?_)
  · exact nx _ _ T2 J2 D2 z2 z3
  · exact absurd (e1.trans (z1.trans e2.symm)) c
set_option maxHeartbeats 4000000 in
set_option maxRecDepth 100000 in
theorem law_load {M : kT} {b L : Nat} {xs : Nat → Int32} (C : l_ctx M b L xs) {A : Nat → Nat → Nat} {B : Nat → Nat} {X Y : AS} {T : FS} {J : TJ} {D : DJ} {i : Nat} (hi : i + 6 ≤ L) (hL : L ≤ 3072) (h : a_inv X) (hr : a_rel X Y) (nx : ∀ (X2 Y2 : AS) (T2 : FS) (J2 : TJ) (D2 : DJ), a_inv X2 → a_rel X2 Y2 → kJ M 4 1637 [(3, .int (nI i)), (2, .ref (B 0)), (1, .ref ((A 0) 0)), (0, .ref b)] [] (w_C (k_Z M) A X2 T2 J2 ++ w_M (k_Z M) B Y2 D2)) : kJ M 4 1506 [(3, .int (nI i)), (2, .ref (B 0)), (1, .ref ((A 0) 0)), (0, .ref b)] [] (w_C (k_Z M) A X T J ++ w_M (k_Z M) B Y D) := by
  have K := C.1
  have hY := rel_inv h hr
  obtain ⟨⟨m, hm, hm2, -⟩, -⟩ := id h.1
  refine q_aload_n K 2 dL_law_1506 rfl ?_
  refine q_aload_n K 3 dL_law_1507 rfl ?_
  refine q_iload_n K 0 dL_law_1508 rfl ?_
  refine q_iconst 1 K dL_law_1509 rfl ?_
  refine q_iadd K dL_law_1510 ?_
  refine q_eqi (nI (i + 1)) (kn_add i 1) ?_
  refine q_sld (j := i + 1) C (by omega) hL dL_law_1511 ?_
  refine q_cvI (q0 := 0) (As := [.int (xs (i + 1))]) (rest := []) K kv_X3_load (c_X3_load (k_l M) (k_Z M) A X T J m hm hm2 h.2.2.1 (xs (i + 1))) [] (w_M (k_Z M) B Y D) rfl rfl rfl ml_L_168 rfl rfl (Nat.le_of_ble_eq_true rfl) ⟨Nat.le_of_ble_eq_true rfl, Nat.le_of_ble_eq_true rfl⟩ dL_law_1512 (fun r1 w1 h1 => ?_)
  obtain ⟨T2, J2, e1, rfl⟩ := h1
  refine q_ws (ws' := w_C (k_Z M) A ((o_load X (xs (i + 1))).2) T2 J2 ++ w_M (k_Z M) B Y D) rfl ?_
  refine q_aload_n K 1 dL_law_1515 rfl ?_
  refine q_aload_n K 3 dL_law_1516 rfl ?_
  refine q_iload_n K 0 dL_law_1517 rfl ?_
  refine q_iconst 1 K dL_law_1518 rfl ?_
  refine q_iadd K dL_law_1519 ?_
  refine q_eqi (nI (i + 1)) (kn_add i 1) ?_
  refine q_sld (j := i + 1) C (by omega) hL dL_law_1520 ?_
  obtain ⟨⟨m, hm, hm2, hhd⟩, hok, hkd, hh⟩ := id hY.1
  refine q_cvI (q0 := 0) (As := [.int (xs (i + 1))]) (rest := [.int r1]) K kv_X4_load (c_X4_load (k_l M) (k_Z M) B Y D m hm hm2 hok hY.2.2.1 hY.2.2.2.1 (xs (i + 1))) (w_C (k_Z M) A (o_load X (xs (i + 1))).2 T2 J2) [] (by rw [List.append_nil]) rfl rfl ml_L_171 rfl rfl (Nat.le_of_ble_eq_true rfl) ⟨Nat.le_of_ble_eq_true rfl, Nat.le_of_ble_eq_true rfl⟩ dL_law_1521 (fun r2 w2 h2 => ?_)
  obtain ⟨D2, e2, rfl⟩ := h2
  refine q_ws (ws' := w_C (k_Z M) A ((o_load X (xs (i + 1))).2) T2 J2 ++ w_M (k_Z M) B ((o_load Y (xs (i + 1))).2) D2) (by rw [List.append_nil]) ?_
  obtain ⟨z1, z2, z3⟩ := lw_load h hr (xs (i + 1))
  refine q_icmp_eq 1637 K dL_law_1524 (by decide) (fun c => ?_) (fun c => ?_)
  · exact nx _ _ T2 J2 D2 z2 z3
  · exact absurd (e1.trans (z1.trans e2.symm)) c
set_option maxHeartbeats 4000000 in
set_option maxRecDepth 100000 in
theorem law_judge {M : kT} {b L : Nat} {xs : Nat → Int32} (C : l_ctx M b L xs) {A : Nat → Nat → Nat} {B : Nat → Nat} {X Y : AS} {T : FS} {J : TJ} {D : DJ} {i : Nat} (hi : i + 6 ≤ L) (hL : L ≤ 3072) (h : a_inv X) (hr : a_rel X Y) (nx : ∀ (X2 Y2 : AS) (T2 : FS) (J2 : TJ) (D2 : DJ), a_inv X2 → a_rel X2 Y2 → kJ M 4 1637 [(3, .int (nI i)), (2, .ref (B 0)), (1, .ref ((A 0) 0)), (0, .ref b)] [] (w_C (k_Z M) A X2 T2 J2 ++ w_M (k_Z M) B Y2 D2)) : kJ M 4 1529 [(3, .int (nI i)), (2, .ref (B 0)), (1, .ref ((A 0) 0)), (0, .ref b)] [] (w_C (k_Z M) A X T J ++ w_M (k_Z M) B Y D) := by
  have K := C.1
  have hY := rel_inv h hr
  obtain ⟨⟨m, hm, hm2, -⟩, -⟩ := id h.1
  refine q_aload_n K 2 dL_law_1529 rfl ?_
  refine q_aload_n K 3 dL_law_1530 rfl ?_
  refine q_iload_n K 0 dL_law_1531 rfl ?_
  refine q_iconst 1 K dL_law_1532 rfl ?_
  refine q_iadd K dL_law_1533 ?_
  refine q_eqi (nI (i + 1)) (kn_add i 1) ?_
  refine q_sld (j := i + 1) C (by omega) hL dL_law_1534 ?_
  refine q_cvI (q0 := 0) (As := [.int (xs (i + 1))]) (rest := []) K kv_X3_judge (c_X3_judge (k_l M) (k_Z M) A X T J m hm hm2 h.2.2.1 (xs (i + 1))) [] (w_M (k_Z M) B Y D) rfl rfl rfl ml_L_172 rfl rfl (Nat.le_of_ble_eq_true rfl) ⟨Nat.le_of_ble_eq_true rfl, Nat.le_of_ble_eq_true rfl⟩ dL_law_1535 (fun r1 w1 h1 => ?_)
  obtain ⟨T2, J2, e1, rfl⟩ := h1
  refine q_ws (ws' := w_C (k_Z M) A ((o_judge X (xs (i + 1))).2) T2 J2 ++ w_M (k_Z M) B Y D) rfl ?_
  refine q_aload_n K 1 dL_law_1538 rfl ?_
  refine q_aload_n K 3 dL_law_1539 rfl ?_
  refine q_iload_n K 0 dL_law_1540 rfl ?_
  refine q_iconst 1 K dL_law_1541 rfl ?_
  refine q_iadd K dL_law_1542 ?_
  refine q_eqi (nI (i + 1)) (kn_add i 1) ?_
  refine q_sld (j := i + 1) C (by omega) hL dL_law_1543 ?_
  obtain ⟨⟨m, hm, hm2, hhd⟩, hok, hkd, hh⟩ := id hY.1
  refine q_cvI (q0 := 0) (As := [.int (xs (i + 1))]) (rest := [.int r1]) K kv_X4_judge (c_X4_judge (k_l M) (k_Z M) B Y D m hm hm2 hok hY.2.2.1 hY.2.2.2.1 (xs (i + 1))) (w_C (k_Z M) A (o_judge X (xs (i + 1))).2 T2 J2) [] (by rw [List.append_nil]) rfl rfl ml_L_175 rfl rfl (Nat.le_of_ble_eq_true rfl) ⟨Nat.le_of_ble_eq_true rfl, Nat.le_of_ble_eq_true rfl⟩ dL_law_1544 (fun r2 w2 h2 => ?_)
  obtain ⟨D2, e2, rfl⟩ := h2
  refine q_ws (ws' := w_C (k_Z M) A ((o_judge X (xs (i + 1))).2) T2 J2 ++ w_M (k_Z M) B ((o_judge Y (xs (i + 1))).2) D2) (by rw [List.append_nil]) ?_
  obtain ⟨z1, z2, z3⟩ := lw_judge h hr (xs (i + 1))
  refine q_icmp_eq 1637 K dL_law_1547 (by decide) (fun c => ?_) (fun c => ?_)
  · exact nx _ _ T2 J2 D2 z2 z3
  · exact absurd (e1.trans (z1.trans e2.symm)) c
set_option maxHeartbeats 4000000 in
set_option maxRecDepth 100000 in
theorem law_image {M : kT} {b L : Nat} {xs : Nat → Int32} (C : l_ctx M b L xs) {A : Nat → Nat → Nat} {B : Nat → Nat} {X Y : AS} {T : FS} {J : TJ} {D : DJ} {i : Nat} (hi : i + 6 ≤ L) (hL : L ≤ 3072) (h : a_inv X) (hr : a_rel X Y) (nx : ∀ (X2 Y2 : AS) (T2 : FS) (J2 : TJ) (D2 : DJ), a_inv X2 → a_rel X2 Y2 → kJ M 4 1637 [(3, .int (nI i)), (2, .ref (B 0)), (1, .ref ((A 0) 0)), (0, .ref b)] [] (w_C (k_Z M) A X2 T2 J2 ++ w_M (k_Z M) B Y2 D2)) : kJ M 4 1552 [(3, .int (nI i)), (2, .ref (B 0)), (1, .ref ((A 0) 0)), (0, .ref b)] [] (w_C (k_Z M) A X T J ++ w_M (k_Z M) B Y D) := by
  have K := C.1
  have hY := rel_inv h hr
  obtain ⟨⟨m, hm, hm2, -⟩, -⟩ := id h.1
  refine q_aload_n K 2 dL_law_1552 rfl ?_
  refine q_cvI (q0 := 0) (As := []) (rest := []) K kv_X3_image (c_X3_image (k_l M) (k_Z M) A X T J m hm hm2) [] (w_M (k_Z M) B Y D) rfl rfl rfl ml_L_176 rfl rfl (Nat.le_of_ble_eq_true rfl) ⟨Nat.le_of_ble_eq_true rfl, Nat.le_of_ble_eq_true rfl⟩ dL_law_1553 (fun r1 w1 h1 => ?_)
  obtain ⟨T2, J2, e1, rfl⟩ := h1
  refine q_ws (ws' := w_C (k_Z M) A ((o_image X ).2) T2 J2 ++ w_M (k_Z M) B Y D) rfl ?_
  refine q_aload_n K 1 dL_law_1556 rfl ?_
  obtain ⟨⟨m, hm, hm2, hhd⟩, hok, hkd, hh⟩ := id hY.1
  refine q_cvI (q0 := 0) (As := []) (rest := [.int r1]) K kv_X4_image (c_X4_image (k_l M) (k_Z M) B Y D m hm hm2 hok) (w_C (k_Z M) A (o_image X ).2 T2 J2) [] (by rw [List.append_nil]) rfl rfl ml_L_179 rfl rfl (Nat.le_of_ble_eq_true rfl) ⟨Nat.le_of_ble_eq_true rfl, Nat.le_of_ble_eq_true rfl⟩ dL_law_1557 (fun r2 w2 h2 => ?_)
  obtain ⟨D2, e2, rfl⟩ := h2
  refine q_ws (ws' := w_C (k_Z M) A ((o_image X ).2) T2 J2 ++ w_M (k_Z M) B ((o_image Y ).2) D2) (by rw [List.append_nil]) ?_
  obtain ⟨z1, z2, z3⟩ := lw_image h hr 
  refine q_icmp_eq 1637 K dL_law_1560 (by decide) (fun c => ?_) (fun c => ?_)
  · exact nx _ _ T2 J2 D2 z2 z3
  · exact absurd (e1.trans (z1.trans e2.symm)) c
set_option maxHeartbeats 4000000 in
set_option maxRecDepth 100000 in
theorem law_undo {M : kT} {b L : Nat} {xs : Nat → Int32} (C : l_ctx M b L xs) {A : Nat → Nat → Nat} {B : Nat → Nat} {X Y : AS} {T : FS} {J : TJ} {D : DJ} {i : Nat} (hi : i + 6 ≤ L) (hL : L ≤ 3072) (h : a_inv X) (hr : a_rel X Y) (nx : ∀ (X2 Y2 : AS) (T2 : FS) (J2 : TJ) (D2 : DJ), a_inv X2 → a_rel X2 Y2 → kJ M 4 1637 [(3, .int (nI i)), (2, .ref (B 0)), (1, .ref ((A 0) 0)), (0, .ref b)] [] (w_C (k_Z M) A X2 T2 J2 ++ w_M (k_Z M) B Y2 D2)) : kJ M 4 1565 [(3, .int (nI i)), (2, .ref (B 0)), (1, .ref ((A 0) 0)), (0, .ref b)] [] (w_C (k_Z M) A X T J ++ w_M (k_Z M) B Y D) := by
  have K := C.1
  have hY := rel_inv h hr
  obtain ⟨⟨m, hm, hm2, -⟩, -⟩ := id h.1
  refine q_aload_n K 2 dL_law_1565 rfl ?_
  refine q_cvI (q0 := 0) (As := []) (rest := []) K kv_X3_undo (c_X3_undo (k_l M) (k_Z M) A X T J m hm hm2) [] (w_M (k_Z M) B Y D) rfl rfl rfl ml_L_180 rfl rfl (Nat.le_of_ble_eq_true rfl) ⟨Nat.le_of_ble_eq_true rfl, Nat.le_of_ble_eq_true rfl⟩ dL_law_1566 (fun r1 w1 h1 => ?_)
  obtain ⟨T2, J2, e1, rfl⟩ := h1
  refine q_ws (ws' := w_C (k_Z M) A ((o_undo X ).2) T2 J2 ++ w_M (k_Z M) B Y D) rfl ?_
  refine q_aload_n K 1 dL_law_1569 rfl ?_
  obtain ⟨⟨m, hm, hm2, hhd⟩, hok, hkd, hh⟩ := id hY.1
  refine q_cvI (q0 := 0) (As := []) (rest := [.int r1]) K kv_X4_undo (c_X4_undo (k_l M) (k_Z M) B Y D m hm hm2 hok) (w_C (k_Z M) A (o_undo X ).2 T2 J2) [] (by rw [List.append_nil]) rfl rfl ml_L_183 rfl rfl (Nat.le_of_ble_eq_true rfl) ⟨Nat.le_of_ble_eq_true rfl, Nat.le_of_ble_eq_true rfl⟩ dL_law_1570 (fun r2 w2 h2 => ?_)
  obtain ⟨D2, e2, rfl⟩ := h2
  refine q_ws (ws' := w_C (k_Z M) A ((o_undo X ).2) T2 J2 ++ w_M (k_Z M) B ((o_undo Y ).2) D2) (by rw [List.append_nil]) ?_
  obtain ⟨z1, z2, z3⟩ := lw_undo h hr 
  refine q_icmp_eq 1637 K dL_law_1573 (by decide) (fun c => ?_) (fun c => ?_)
  · exact nx _ _ T2 J2 D2 z2 z3
  · exact absurd (e1.trans (z1.trans e2.symm)) c
set_option maxHeartbeats 4000000 in
set_option maxRecDepth 100000 in
theorem law_tear {M : kT} {b L : Nat} {xs : Nat → Int32} (C : l_ctx M b L xs) {A : Nat → Nat → Nat} {B : Nat → Nat} {X Y : AS} {T : FS} {J : TJ} {D : DJ} {i : Nat} (hi : i + 6 ≤ L) (hL : L ≤ 3072) (h : a_inv X) (hr : a_rel X Y) (nx : ∀ (X2 Y2 : AS) (T2 : FS) (J2 : TJ) (D2 : DJ), a_inv X2 → a_rel X2 Y2 → kJ M 4 1637 [(3, .int (nI i)), (2, .ref (B 0)), (1, .ref ((A 0) 0)), (0, .ref b)] [] (w_C (k_Z M) A X2 T2 J2 ++ w_M (k_Z M) B Y2 D2)) : kJ M 4 1578 [(3, .int (nI i)), (2, .ref (B 0)), (1, .ref ((A 0) 0)), (0, .ref b)] [] (w_C (k_Z M) A X T J ++ w_M (k_Z M) B Y D) := by
  have K := C.1
  have hY := rel_inv h hr
  obtain ⟨⟨m, hm, hm2, -⟩, -⟩ := id h.1
  refine q_aload_n K 2 dL_law_1578 rfl ?_
  refine q_cvI (q0 := 0) (As := []) (rest := []) K kv_X3_tear (c_X3_tear (k_l M) (k_Z M) A X T J m hm hm2) [] (w_M (k_Z M) B Y D) rfl rfl rfl ml_L_184 rfl rfl (Nat.le_of_ble_eq_true rfl) ⟨Nat.le_of_ble_eq_true rfl, Nat.le_of_ble_eq_true rfl⟩ dL_law_1579 (fun r1 w1 h1 => ?_)
  obtain ⟨T2, J2, e1, rfl⟩ := h1
  refine q_ws (ws' := w_C (k_Z M) A ((o_tear X ).2) T2 J2 ++ w_M (k_Z M) B Y D) rfl ?_
  refine q_aload_n K 1 dL_law_1582 rfl ?_
  obtain ⟨⟨m, hm, hm2, hhd⟩, hok, hkd, hh⟩ := id hY.1
  refine q_cvI (q0 := 0) (As := []) (rest := [.int r1]) K kv_X4_tear (c_X4_tear (k_l M) (k_Z M) B Y D m hm hm2 hok) (w_C (k_Z M) A (o_tear X ).2 T2 J2) [] (by rw [List.append_nil]) rfl rfl ml_L_187 rfl rfl (Nat.le_of_ble_eq_true rfl) ⟨Nat.le_of_ble_eq_true rfl, Nat.le_of_ble_eq_true rfl⟩ dL_law_1583 (fun r2 w2 h2 => ?_)
  obtain ⟨D2, e2, rfl⟩ := h2
  refine q_ws (ws' := w_C (k_Z M) A ((o_tear X ).2) T2 J2 ++ w_M (k_Z M) B ((o_tear Y ).2) D2) (by rw [List.append_nil]) ?_
  obtain ⟨z1, z2, z3⟩ := lw_tear h hr 
  refine q_icmp_eq 1637 K dL_law_1586 (by decide) (fun c => ?_) (fun c => ?_)
  · exact nx _ _ T2 J2 D2 z2 z3
  · exact absurd (e1.trans (z1.trans e2.symm)) c
set_option maxHeartbeats 4000000 in
set_option maxRecDepth 100000 in
theorem law_count {M : kT} {b L : Nat} {xs : Nat → Int32} (C : l_ctx M b L xs) {A : Nat → Nat → Nat} {B : Nat → Nat} {X Y : AS} {T : FS} {J : TJ} {D : DJ} {i : Nat} (hi : i + 6 ≤ L) (hL : L ≤ 3072) (h : a_inv X) (hr : a_rel X Y) (nx : ∀ (X2 Y2 : AS) (T2 : FS) (J2 : TJ) (D2 : DJ), a_inv X2 → a_rel X2 Y2 → kJ M 4 1637 [(3, .int (nI i)), (2, .ref (B 0)), (1, .ref ((A 0) 0)), (0, .ref b)] [] (w_C (k_Z M) A X2 T2 J2 ++ w_M (k_Z M) B Y2 D2)) : kJ M 4 1591 [(3, .int (nI i)), (2, .ref (B 0)), (1, .ref ((A 0) 0)), (0, .ref b)] [] (w_C (k_Z M) A X T J ++ w_M (k_Z M) B Y D) := by
  have K := C.1
  have hY := rel_inv h hr
  obtain ⟨⟨m, hm, hm2, -⟩, -⟩ := id h.1
  refine q_aload_n K 2 dL_law_1591 rfl ?_
  refine q_aload_n K 3 dL_law_1592 rfl ?_
  refine q_iload_n K 0 dL_law_1593 rfl ?_
  refine q_iconst 1 K dL_law_1594 rfl ?_
  refine q_iadd K dL_law_1595 ?_
  refine q_eqi (nI (i + 1)) (kn_add i 1) ?_
  refine q_sld (j := i + 1) C (by omega) hL dL_law_1596 ?_
  refine q_cvI (q0 := 0) (As := [.int (xs (i + 1))]) (rest := []) K kv_X3_count (c_X3_count (k_l M) (k_Z M) A X T J m hm hm2 (xs (i + 1))) [] (w_M (k_Z M) B Y D) rfl rfl rfl ml_L_188 rfl rfl (Nat.le_of_ble_eq_true rfl) ⟨Nat.le_of_ble_eq_true rfl, Nat.le_of_ble_eq_true rfl⟩ dL_law_1597 (fun r1 w1 h1 => ?_)
  obtain ⟨T2, J2, e1, rfl⟩ := h1
  refine q_ws (ws' := w_C (k_Z M) A ((o_count X (xs (i + 1))).2) T2 J2 ++ w_M (k_Z M) B Y D) rfl ?_
  refine q_aload_n K 1 dL_law_1600 rfl ?_
  refine q_aload_n K 3 dL_law_1601 rfl ?_
  refine q_iload_n K 0 dL_law_1602 rfl ?_
  refine q_iconst 1 K dL_law_1603 rfl ?_
  refine q_iadd K dL_law_1604 ?_
  refine q_eqi (nI (i + 1)) (kn_add i 1) ?_
  refine q_sld (j := i + 1) C (by omega) hL dL_law_1605 ?_
  obtain ⟨⟨m, hm, hm2, hhd⟩, hok, hkd, hh⟩ := id hY.1
  refine q_cvI (q0 := 0) (As := [.int (xs (i + 1))]) (rest := [.int r1]) K kv_X4_count (c_X4_count (k_l M) (k_Z M) B Y D m hm hm2 hok hhd (xs (i + 1))) (w_C (k_Z M) A (o_count X (xs (i + 1))).2 T2 J2) [] (by rw [List.append_nil]) rfl rfl ml_L_191 rfl rfl (Nat.le_of_ble_eq_true rfl) ⟨Nat.le_of_ble_eq_true rfl, Nat.le_of_ble_eq_true rfl⟩ dL_law_1606 (fun r2 w2 h2 => ?_)
  obtain ⟨D2, e2, rfl⟩ := h2
  refine q_ws (ws' := w_C (k_Z M) A ((o_count X (xs (i + 1))).2) T2 J2 ++ w_M (k_Z M) B ((o_count Y (xs (i + 1))).2) D2) (by rw [List.append_nil]) ?_
  obtain ⟨z1, z2, z3⟩ := lw_count h hr (xs (i + 1))
  refine q_icmp_eq 1637 K dL_law_1609 (by decide) (fun c => ?_) (fun c => ?_)
  · exact nx _ _ T2 J2 D2 z2 z3
  · exact absurd (e1.trans (z1.trans e2.symm)) c
set_option maxHeartbeats 4000000 in
set_option maxRecDepth 100000 in
theorem law_status {M : kT} {b L : Nat} {xs : Nat → Int32} (C : l_ctx M b L xs) {A : Nat → Nat → Nat} {B : Nat → Nat} {X Y : AS} {T : FS} {J : TJ} {D : DJ} {i : Nat} (hi : i + 6 ≤ L) (hL : L ≤ 3072) (h : a_inv X) (hr : a_rel X Y) (nx : ∀ (X2 Y2 : AS) (T2 : FS) (J2 : TJ) (D2 : DJ), a_inv X2 → a_rel X2 Y2 → kJ M 4 1637 [(3, .int (nI i)), (2, .ref (B 0)), (1, .ref ((A 0) 0)), (0, .ref b)] [] (w_C (k_Z M) A X2 T2 J2 ++ w_M (k_Z M) B Y2 D2)) : kJ M 4 1614 [(3, .int (nI i)), (2, .ref (B 0)), (1, .ref ((A 0) 0)), (0, .ref b)] [] (w_C (k_Z M) A X T J ++ w_M (k_Z M) B Y D) := by
  have K := C.1
  have hY := rel_inv h hr
  obtain ⟨⟨m, hm, hm2, -⟩, -⟩ := id h.1
  refine q_aload_n K 2 dL_law_1614 rfl ?_
  refine q_aload_n K 3 dL_law_1615 rfl ?_
  refine q_iload_n K 0 dL_law_1616 rfl ?_
  refine q_iconst 1 K dL_law_1617 rfl ?_
  refine q_iadd K dL_law_1618 ?_
  refine q_eqi (nI (i + 1)) (kn_add i 1) ?_
  refine q_sld (j := i + 1) C (by omega) hL dL_law_1619 ?_
  refine q_cvI (q0 := 0) (As := [.int (xs (i + 1))]) (rest := []) K kv_X3_status (c_X3_status (k_l M) (k_Z M) A X T J m hm hm2 (xs (i + 1))) [] (w_M (k_Z M) B Y D) rfl rfl rfl ml_L_192 rfl rfl (Nat.le_of_ble_eq_true rfl) ⟨Nat.le_of_ble_eq_true rfl, Nat.le_of_ble_eq_true rfl⟩ dL_law_1620 (fun r1 w1 h1 => ?_)
  obtain ⟨T2, J2, e1, rfl⟩ := h1
  refine q_ws (ws' := w_C (k_Z M) A ((o_status X (xs (i + 1))).2) T2 J2 ++ w_M (k_Z M) B Y D) rfl ?_
  refine q_aload_n K 1 dL_law_1623 rfl ?_
  refine q_aload_n K 3 dL_law_1624 rfl ?_
  refine q_iload_n K 0 dL_law_1625 rfl ?_
  refine q_iconst 1 K dL_law_1626 rfl ?_
  refine q_iadd K dL_law_1627 ?_
  refine q_eqi (nI (i + 1)) (kn_add i 1) ?_
  refine q_sld (j := i + 1) C (by omega) hL dL_law_1628 ?_
  obtain ⟨⟨m, hm, hm2, hhd⟩, hok, hkd, hh⟩ := id hY.1
  refine q_cvI (q0 := 0) (As := [.int (xs (i + 1))]) (rest := [.int r1]) K kv_X4_status (c_X4_status (k_l M) (k_Z M) B Y D m hm hm2 hok (xs (i + 1))) (w_C (k_Z M) A (o_status X (xs (i + 1))).2 T2 J2) [] (by rw [List.append_nil]) rfl rfl ml_L_195 rfl rfl (Nat.le_of_ble_eq_true rfl) ⟨Nat.le_of_ble_eq_true rfl, Nat.le_of_ble_eq_true rfl⟩ dL_law_1629 (fun r2 w2 h2 => ?_)
  obtain ⟨D2, e2, rfl⟩ := h2
  refine q_ws (ws' := w_C (k_Z M) A ((o_status X (xs (i + 1))).2) T2 J2 ++ w_M (k_Z M) B ((o_status Y (xs (i + 1))).2) D2) (by rw [List.append_nil]) ?_
  obtain ⟨z1, z2, z3⟩ := lw_status h hr (xs (i + 1))
  refine q_icmp_eq 1637 K dL_law_1632 (by decide) (fun c => ?_) (fun c => ?_)
  · exact nx _ _ T2 J2 D2 z2 z3
  · exact absurd (e1.trans (z1.trans e2.symm)) c
