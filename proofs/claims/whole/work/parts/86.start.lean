/-! THE START -/
theorem inv_new : a_inv x_new := by
  refine ⟨⟨⟨0, by omega, rfl, fun k hk => Or.inl ?_⟩, ⟨fun _ _ => ⟨0, by omega, rfl⟩, fun _ _ => ⟨0, by omega, rfl⟩⟩, fun _ _ => ⟨0, by omega, rfl⟩, 0, by omega, rfl⟩, Or.inl rfl, fun _ _ => ⟨0, by omega, rfl⟩, fun _ _ => Or.inl rfl, Nat.zero_le _, fun _ => ⟨0, by omega, rfl⟩⟩
  exact (show ∀ k : Fin 10, hd0 10 k.val = -1 by decide +kernel) ⟨k, hk⟩
theorem rel_new : a_rel x_new x_newM := Or.inr ⟨rfl, f_zero, rfl⟩
theorem str_in : ∀ j : Fin 128, Cond.eq (Term.elem (Term.field (Term.string "GateManners$Tape" 19) "java/lang/String" "value" "[B") (.int (Int32.ofNat j.val))) (.int (k_word j.val)) ∈ flatC (Jvm.Cond.and given_1 narrow_1) := by
  simp only [k_word, k_let]; decide +kernel
theorem most_in : ∀ j : Fin 5, Cond.eq (Term.elem (Term.static "GateManners" "MOST_OF_PART" "[I") (.int (Int32.ofNat j.val))) (.int (match j.val with | 0 => 6 | 1 => 8 | 2 => 1 | 3 => 9 | _ => 9999)) ∈ flatC (Jvm.Cond.and given_1 narrow_1) := by decide +kernel
theorem above_in : ∀ j : Fin 7, Cond.eq (Term.elem (Term.static "GateManners" "KIND_ABOVE" "[I") (.int (Int32.ofNat j.val))) (.int (match j.val with | 0 => -1 | 1 => 0 | 2 => 0 | 3 => 2 | 4 => 3 | 5 => 0 | _ => 1)) ∈ flatC (Jvm.Cond.and given_1 narrow_1) := by decide +kernel
theorem ls_most : Cond.laysStatic "GateManners" "MOST_OF_PART" "[I" ∈ lw_tbl := by decide +kernel
theorem ls_above : Cond.laysStatic "GateManners" "KIND_ABOVE" "[I" ∈ lw_tbl := by decide +kernel
theorem ls_compact : Cond.laysStatic "java/lang/String" "COMPACT_STRINGS" "Z" ∈ lw_tbl := by decide +kernel
theorem k_start {b : Nat} {s : State} (hts : ∀ w ∈ lw_tbl, w.before #[Value.ref b] s = true) (hgv : (Jvm.Cond.and given_1 narrow_1).before #[Value.ref b] s = true) : ∃ (Z : kz_Z) (u : Nat × Nat), va_K Z.1 vwCl (k_ty Z) s ∧ k_S Z (fun q : Nat => s.heap.size ≤ q) s s.heap ∧ k_X u (fun q : Nat => s.heap.size ≤ q) s s.heap := by
  have hs := flat_of_before _ hgv
  have hnA : ∀ a : Nat, a < s.heap.size → ¬ (fun q : Nat => s.heap.size ≤ q) a := fun a h h2 => absurd h (Nat.not_lt.mpr h2)
  obtain ⟨c0, i0, hk0⟩ := u_known (C := RX0) (T := TX0) (N := 8) (n := 8) hts (fun w hw => tw_in w (ws_X0 w hw)) (hts _ (tw_in _ it_X0))
  obtain ⟨c1, i1, hk1⟩ := u_known (C := RX1) (T := TX1) (N := 3) (n := 3) hts (fun w hw => tw_in w (ws_X1 w hw)) (hts _ (tw_in _ it_X1))
  obtain ⟨c2, i2, hk2⟩ := u_known (C := RX2) (T := TX2) (N := 7) (n := 7) hts (fun w hw => tw_in w (ws_X2 w hw)) (hts _ (tw_in _ it_X2))
  obtain ⟨c3, i3, hk3⟩ := u_known (C := RX3) (T := TX3) (N := 7) (n := 7) hts (fun w hw => tw_in w (ws_X3 w hw)) (hts _ (tw_in _ it_X3))
  obtain ⟨c4, i4, hk4⟩ := u_known (C := RX4) (T := TX4) (N := 17) (n := 17) hts (fun w hw => tw_in w (ws_X4 w hw)) (hts _ (tw_in _ it_X4))
  obtain ⟨cI, kI, pI, f1, f2, f3⟩ := Cond.arrayClass_spec (hts _ (tw_in _ ac_int))
  obtain ⟨cB, kB, pB, f4, f5, f6⟩ := Cond.arrayClass_spec (hts _ (tw_in _ ac_byte))
  obtain ⟨cC, kC, pC, f7, f8, f9⟩ := Cond.arrayClass_spec (hts _ (tw_in _ ac_char))
  obtain ⟨pA, cA, kA, g1, g2, g3, g4, g5⟩ := arrayOverA_spec (hts _ ao_I)
  obtain ⟨pO, cO, kO, g6, g7, g8, g9, g10⟩ := Cond.arrayOver_spec (hts _ ao_X1)
  obtain ⟨tM, htM, hTM⟩ := va_Tof (tm := .static "GateManners" "MOST_OF_PART" "[I") (ty := .int) (N := 5) (f := k_most) (by decide) (hs _ (by decide +kernel)) (va_eqt (hs _ (by decide +kernel))) (fun j hj => va_eqt (hs _ (most_in ⟨j, hj⟩))) hnA
  obtain ⟨tK, htK, hTK⟩ := va_Tof (tm := .static "GateManners" "KIND_ABOVE" "[I") (ty := .int) (N := 7) (f := k_above) (by decide) (hs _ (by decide +kernel)) (va_eqt (hs _ (by decide +kernel))) (fun j hj => va_eqt (hs _ (above_in ⟨j, hj⟩))) hnA
  have hex : (Cond.exactly (Term.string "GateManners$Tape" 19) "java/lang/String").before #[Value.ref b] s = true := hs _ (by decide +kernel)
  obtain ⟨a, _, _, _, q1, -⟩ := Cond.exactly_spec (args := #[Value.ref b]) (first := s) (o := none) (s := s) (idx := []) hex
  obtain ⟨tV, htV, hTV⟩ := va_Tof (tm := .field (.string "GateManners$Tape" 19) "java/lang/String" "value" "[B") (ty := .byte) (N := 128) (f := fun j => .int (k_word j)) (by decide) (hs _ (by decide +kernel)) (va_eqt (hs _ (by decide +kernel))) (fun j hj => va_eqt (hs _ (str_in ⟨j, hj⟩))) hnA
  refine ⟨((fun k => match k with | 0 => c0 | 1 => c1 | 2 => c2 | 3 => c3 | _ => c4, fun k => match k with | 0 => i0 | 1 => i1 | 2 => i2 | 3 => i3 | _ => i4), fun k => match k with | 0 => cI | 1 => cA | 2 => cB | 3 => cC | _ => cO, fun k => match k with | 0 => tM | _ => tK), (a, tV), ⟨fun k q hq => ?_, fun k q hq => ?_⟩, ⟨⟨va_Zof (hts _ ls_most) (hts _ (tw_in _ in_X3)) htM hnA, hTM⟩, va_Zof (hts _ ls_above) (hts _ (tw_in _ in_X3)) htK hnA, hTK⟩, ⟨va_Zof (hts _ ls_compact) (hts _ (tw_in _ in_J0)) (va_eqt (hs _ (by decide +kernel))) hnA, va_Oof hex q1 hnA, vk_OFof q1 (va_eqt (hs _ (by decide +kernel))) hnA, vk_OFof q1 htV hnA, hTV⟩, vk_R.of (hts _ sr_X2_19) q1, va_Nw.of rfl (hts _ mn_X3_28), va_Nw.of rfl (hts _ mn_X3_39), va_AO.of (hts _ ao_X1), hts _ ao_I⟩
  · match k, hq with
    | 0, hq => cases hq; exact hk0
    | 1, hq => cases hq; exact hk1
    | 2, hq => cases hq; exact hk2
    | 3, hq => cases hq; exact hk3
    | 4, hq => cases hq; exact hk4
    | k + 5, hq => simp [vwCl] at hq
  · match k, hq with
    | 0, hq => cases hq; exact ⟨fun n z => ⟨fun k h => (by cases h), kI, f2, pI, f3⟩, f1⟩
    | 1, hq => cases hq; exact ⟨fun n z => ⟨fun k h => (by cases h), kA, g3, pA, g4⟩, g5⟩
    | 2, hq => cases hq; exact ⟨fun n z => ⟨fun k h => (by cases h), kB, f5, pB, f6⟩, f4⟩
    | 3, hq => cases hq; exact ⟨fun n z => ⟨fun k h => (by cases h), kC, f8, pC, f9⟩, f7⟩
    | 4, hq => cases hq; exact ⟨fun n z => ⟨fun k h => (by cases h), kO, g8, pO, g9⟩, kO, pO, g8, g9, g6, g10⟩
    | k + 5, hq => simp [k_ty] at hq
set_option maxHeartbeats 4000000 in
set_option maxRecDepth 100000 in
theorem whole_start {p : Program} {e : Env} {s : State} {m : MethodId} {below : List Frame} {meth : Method} {c : Code} (l : Launch) (hflags : l.flags = flags0) {b L : Nat} {xs : Nat → Int32} (hL : L ≤ 3072) (C0 : lw_At p s m meth c b L xs) : W p l e room_1 s m #[Value.ref b] below meth c s.heap [] 0 0 (lw_Z below #[Value.ref b] s) (entryFrame m ([Value.ref b] : List Value).toArray 4) := by
  obtain ⟨hx, hb, hr, hml, hown, hts, hX, hbl, hlocks, hgv⟩ := id C0
  obtain ⟨Z, u, hK, hS0, hU⟩ := k_start hts hgv
  obtain ⟨M, hM⟩ : ∃ M : kT, M = ((p, l, e, room_1, s), (m, #[Value.ref b], below, meth, c), ((fun q : Nat => s.heap.size ≤ q), lw_Z below #[Value.ref b] s, Z, 0, 0)) := ⟨_, rfl⟩
  have K0 : kK M cL_law 4 RL 10 390 := by
    subst hM
    exact ⟨hx, hb, hml, hown, fun w h => hts w (tw_in w h), hK, fun q h => h, hS0, ⟨rfl, rfl⟩, Nat.zero_le _, Nat.zero_le _⟩
  have hcl : (k_R M).cells = 600000 := by subst hM; rfl
  have hsl : (k_R M).slots = 7302250 := by subst hM; rfl
  have hXX : k_X u (k_W M) (k_s M) (k_s M).heap := by subst hM; exact hU
  have C : l_ctx (kM M 600000 7302250) b L xs := by
    refine ⟨kK_up K0 (Nat.le_of_eq hcl.symm) (Nat.le_of_eq hsl.symm), ?_⟩
    subst hM
    exact ⟨hX, hbl, Nat.not_le.mpr hbl⟩
  have Rt : ∀ (pc : Nat) (lv : List (Nat × Value)) (w2 : va_W), decode cL_law pc = .ok (.ireturn, 1) → kJ (kM M 600000 7302250) 4 pc lv [.int 1] w2 := by
    subst hM
    exact fun pc lv w2 hdg H locs ls hP hD hS hl => va_forget (fun q hq => hS.2.2 q hq) (lw_ret hx hb hr hlocks hdg)
  have J0 : kJ (kM M 0 0) 4 0 [(0, .ref b)] [] [] := by
    have K := kK_up K0 (n := 0) (k := 0) (Nat.zero_le _) (Nat.zero_le _)
    refine q_new (ci := 3) [.null, .null, .null, .int 0, .null, .null, .null] K ws_X3 tyX3 tyX3_ok cl_L_7 it_X3 in_X3 rfl (fun j hj => by rcases (show j = 0 ∨ j = 1 ∨ j = 2 ∨ j = 3 ∨ j = 4 ∨ j = 5 ∨ j = 6 by omega) with rfl | rfl | rfl | rfl | rfl | rfl | rfl <;> rfl) (by rw [hcl]; decide) (by rw [hsl]; decide) dL_law_0 (fun q1 => ?_)
    have K := kK_up K0 (n := 1) (k := 7) (by rw [hcl]; decide) (by rw [hsl]; decide)
    refine q_dup K dL_law_3 rfl ?_
    refine q_cn (rest := [.ref q1]) K hXX (c_X3_init (k_l M) (k_Z M) u q1) rfl im_X3_init in_X3 co_X3_init (by decide +kernel) [] [] rfl ml_L_9 (Nat.le_of_ble_eq_true rfl) ⟨Nat.le_of_ble_eq_true rfl, Nat.le_of_ble_eq_true rfl⟩ (by rw [hcl]; decide) (by rw [hsl]; decide) dL_law_4 (fun w2 h => ?_)
    obtain ⟨A, T, J, rfl, rfl⟩ := h
    have K := kK_up K0 (n := 47) (k := 1048) (by rw [hcl]; decide) (by rw [hsl]; decide)
    refine q_ws (ws' := w_C (k_Z M) A x_new T J) (by rw [List.append_nil, List.nil_append]) ?_
    refine q_astore_n (lv' := [(1, .ref ((A 0) 0)), (0, .ref b)]) K dL_law_7 (by decide) rfl ?_
    refine q_new (ci := 4) [.null, .null, .null, .null, .int 0, .null, .null, .int 0, .null, .null, .null, .null, .int 0, .int 0, .int 0, .int 0, .int 0] K ws_X4 tyX4 tyX4_ok cl_L_10 it_X4 in_X4 rfl (fun j hj => by rcases (show j = 0 ∨ j = 1 ∨ j = 2 ∨ j = 3 ∨ j = 4 ∨ j = 5 ∨ j = 6 ∨ j = 7 ∨ j = 8 ∨ j = 9 ∨ j = 10 ∨ j = 11 ∨ j = 12 ∨ j = 13 ∨ j = 14 ∨ j = 15 ∨ j = 16 by omega) with rfl | rfl | rfl | rfl | rfl | rfl | rfl | rfl | rfl | rfl | rfl | rfl | rfl | rfl | rfl | rfl | rfl <;> rfl) (by rw [hcl]; decide) (by rw [hsl]; decide) dL_law_8 (fun q2 => ?_)
    have K := kK_up K0 (n := 48) (k := 1065) (by rw [hcl]; decide) (by rw [hsl]; decide)
    refine q_dup K dL_law_11 rfl ?_
    refine q_cn (rest := [.ref q2]) K hXX (c_X4_init (k_l M) (k_Z M) u q2) rfl im_X4_init in_X4 co_X4_init (by decide +kernel) (w_C (k_Z M) A x_new T J) [] (by rw [List.append_nil]) ml_L_12 (Nat.le_of_ble_eq_true rfl) ⟨Nat.le_of_ble_eq_true rfl, Nat.le_of_ble_eq_true rfl⟩ (by rw [hcl]; decide) (by rw [hsl]; decide) dL_law_12 (fun w2 h => ?_)
    obtain ⟨B, rfl, rfl⟩ := h
    have K := kK_up K0 (n := 58) (k := 1653) (by rw [hcl]; decide) (by rw [hsl]; decide)
    refine q_ws (ws' := w_C (k_Z M) A x_new T J ++ w_M (k_Z M) B x_newM d_new) (by rw [List.append_nil]) ?_
    refine q_astore_n (lv' := [(2, .ref (B 0)), (1, .ref ((A 0) 0)), (0, .ref b)]) K dL_law_15 (by decide) rfl ?_
    refine q_iconst 0 K dL_law_16 rfl ?_
    refine q_istore_n (lv' := [(3, .int 0), (2, .ref (B 0)), (1, .ref ((A 0) 0)), (0, .ref b)]) K dL_law_17 (by decide) rfl ?_
    refine q_widen (n2 := 600000) (k2 := 7302250) (by decide) (by decide) ?_
    exact law_loop C hL Rt x_new x_newM T J d_new inv_new rel_new
  have hl := lv_entry ([.ref b]) (n := 4) (Nat.le_of_ble_eq_true rfl)
  rw [lg_entry_eq]
  subst hM
  exact J0 s.heap [] _ (fun k q h => by simp at h) ⟨fun i j p q h => by simp at h, fun k q h => by simp at h⟩ va_S.rf hl
