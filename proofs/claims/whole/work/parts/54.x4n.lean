set_option maxHeartbeats 4000000 in
set_option maxRecDepth 100000 in
theorem c_X4_isLetter (l : Launch) (Z : kz_Z) (v : Int32) : KP l Z yX4_isLetter cX4_isLetter 1 .boolean 0 0 [.int v] (fun r => r = if isLt v then 1 else 0) := by
  refine ki_of (by decide) [(0, .int v)] (Nat.le_of_ble_eq_true rfl) rfl ?_
  intro M e1 e2 K Rt
  subst e1 e2
  refine q_iload_n K 0 dX4_isLetter_0 rfl ?_
  refine q_bipush 97 K dX4_isLetter_1 rfl ?_
  refine q_icmp_lt 16 K dX4_isLetter_3 (by decide) (fun c_1 => ?_) (fun c_1 => ?_)
  · refine q_iconst 0 K dX4_isLetter_16 rfl ?_
    exact Rt _ _ 0 ([]) dX4_isLetter_17 rfl (⟨(if_neg (fun h => absurd c_1 (Int32.not_lt.mpr h.1))).symm, rfl⟩)
  · refine q_iload_n K 0 dX4_isLetter_6 rfl ?_
    refine q_bipush 122 K dX4_isLetter_7 rfl ?_
    refine q_icmp_gt 16 K dX4_isLetter_9 (by decide) (fun c_2 => ?_) (fun c_2 => ?_)
    · refine q_iconst 0 K dX4_isLetter_16 rfl ?_
      exact Rt _ _ 0 ([]) dX4_isLetter_17 rfl (⟨(if_neg (fun h => absurd c_2 (Int32.not_lt.mpr h.2))).symm, rfl⟩)
    · refine q_iconst 1 K dX4_isLetter_12 rfl ?_
      refine q_goto 17 K dX4_isLetter_13 (by decide) ?_
      exact Rt _ _ 1 ([]) dX4_isLetter_17 rfl (⟨(if_pos ⟨Int32.not_lt.mp c_1, Int32.not_lt.mp c_2⟩).symm, rfl⟩)
theorem ks_X4_isLetter : k_is yX4_isLetter cX4_isLetter 1 (some .boolean) 1 := ⟨sm_X4_isLetter, in_X4, co_X4_isLetter, by decide +kernel⟩
set_option maxHeartbeats 4000000 in
set_option maxRecDepth 100000 in
theorem c_X4_isDigit (l : Launch) (Z : kz_Z) (v : Int32) : KP l Z yX4_isDigit cX4_isDigit 1 .boolean 0 0 [.int v] (fun r => r = if isDg v then 1 else 0) := by
  refine ki_of (by decide) [(0, .int v)] (Nat.le_of_ble_eq_true rfl) rfl ?_
  intro M e1 e2 K Rt
  subst e1 e2
  refine q_iload_n K 0 dX4_isDigit_0 rfl ?_
  refine q_bipush 48 K dX4_isDigit_1 rfl ?_
  refine q_icmp_lt 16 K dX4_isDigit_3 (by decide) (fun c_1 => ?_) (fun c_1 => ?_)
  · refine q_iconst 0 K dX4_isDigit_16 rfl ?_
    exact Rt _ _ 0 ([]) dX4_isDigit_17 rfl (⟨(if_neg (fun h => absurd c_1 (Int32.not_lt.mpr h.1))).symm, rfl⟩)
  · refine q_iload_n K 0 dX4_isDigit_6 rfl ?_
    refine q_bipush 57 K dX4_isDigit_7 rfl ?_
    refine q_icmp_gt 16 K dX4_isDigit_9 (by decide) (fun c_2 => ?_) (fun c_2 => ?_)
    · refine q_iconst 0 K dX4_isDigit_16 rfl ?_
      exact Rt _ _ 0 ([]) dX4_isDigit_17 rfl (⟨(if_neg (fun h => absurd c_2 (Int32.not_lt.mpr h.2))).symm, rfl⟩)
    · refine q_iconst 1 K dX4_isDigit_12 rfl ?_
      refine q_goto 17 K dX4_isDigit_13 (by decide) ?_
      exact Rt _ _ 1 ([]) dX4_isDigit_17 rfl (⟨(if_pos ⟨Int32.not_lt.mp c_1, Int32.not_lt.mp c_2⟩).symm, rfl⟩)
theorem ks_X4_isDigit : k_is yX4_isDigit cX4_isDigit 1 (some .boolean) 1 := ⟨sm_X4_isDigit, in_X4, co_X4_isDigit, by decide +kernel⟩
set_option maxHeartbeats 4000000 in
set_option maxRecDepth 100000 in
theorem c_X4_byteAt (l : Launch) (Z : kz_Z) (B : Nat → Nat) (X : AS) (D : DJ) (hq : (a_tp X).2 ≤ 120) (i : Nat) (hi : i < 1000) : KI l Z yX4_byteAt cX4_byteAt 2 .int 0 0 [.ref (B 0), .int (nI i)] (w_M Z B X D) (fun r w2 => r = p_at (a_tp X) i ∧ w2 = w_M Z B X D) := by
  refine ki_of (by decide) [(0, .ref (B 0)), (1, .int (nI i))] (Nat.le_of_ble_eq_true rfl) rfl ?_
  intro M e1 e2 K Rt
  subst e1 e2
  refine q_iload_n K 1 dX4_byteAt_0 rfl ?_
  refine q_aload_n K 0 dX4_byteAt_1 rfl ?_
  refine q_get (.int (nI ((a_tp X).2))) K ws_X4 0 rfl rfl 7 (by decide) fl_X4_193 rfl dX4_byteAt_2 ?_
  refine q_eqi (nI (a_tp X).2) rfl ?_
  refine q_icmp_ge 17 K dX4_byteAt_5 (by decide) (fun c_1 => ?_) (fun c_1 => ?_)
  · have c_1n : (a_tp X).2 ≤ i := (nI_leI (a := (a_tp X).2) (b := i) (by omega) (by omega)).mp c_1
    refine q_iconst (-1) K dX4_byteAt_17 rfl ?_
    exact Rt _ _ (-1) (w_M (k_Z M) B X D) dX4_byteAt_18 rfl (⟨(if_neg (by omega)).symm, rfl⟩)
  · have c_1n : ¬ ((a_tp X).2 ≤ i) := fun h9 => c_1 ((nI_leI (a := (a_tp X).2) (b := i) (by omega) (by omega)).mpr h9)
    refine q_aload_n K 0 dX4_byteAt_8 rfl ?_
    refine q_get (.ref (B 6)) K ws_X4 0 rfl rfl 6 (by decide) fl_X4_25 rfl dX4_byteAt_9 ?_
    refine q_iload_n K 1 dX4_byteAt_12 rfl ?_
    refine q_iald K 6 rfl (vp_in_nI (n := i) (N := 120) (by omega) (by omega)) dX4_byteAt_13 ?_
    refine q_eqi (((a_tp X).1) i) (by rw [nI_clamp (n := i) (by omega)]) ?_
    refine q_goto 18 K dX4_byteAt_14 (by decide) ?_
    exact Rt _ _ (((a_tp X).1) i) (w_M (k_Z M) B X D) dX4_byteAt_18 rfl (⟨(if_pos (by omega)).symm, rfl⟩)
theorem kv_X4_byteAt : k_iv yX4_byteAt cX4_byteAt 2 (some .int) 1 := ⟨⟨im_X4_byteAt, se_X4_byteAt⟩, in_X4, co_X4_byteAt, by decide +kernel⟩
set_option maxHeartbeats 4000000 in
set_option maxRecDepth 100000 in
theorem c_X4_nextToken (l : Launch) (Z : kz_Z) (B : Nat → Nat) (X : AS) (D : DJ) (hq : (a_tp X).2 ≤ 120) (i : Nat) (hi : i ≤ (a_tp X).2) (hto : d_to D = nI i) : KV l Z yX4_nextToken cX4_nextToken 2 1 21 [.ref (B 0)] (w_M Z B X D) (fun w2 => w2 = w_M Z B X (p_tok (a_tp X) i D)) := by
  refine kv_of (by decide) [(0, .ref (B 0))] (Nat.le_of_ble_eq_true rfl) rfl ?_
  intro M e1 e2 K Rt
  subst e1 e2
  refine q_aload_n K 0 dX4_nextToken_0 rfl ?_
  refine q_aload_n K 0 dX4_nextToken_1 rfl ?_
  refine q_get (.int (d_to D)) K ws_X4 0 rfl rfl 14 (by decide) fl_X4_197 rfl dX4_nextToken_2 ?_
  refine q_eqi (nI i) hto ?_
  refine q_put (ty := .int) (ws' := w_M (k_Z M) B X (d_bf D, d_as D, d_gn D, d_tk D, nI i, d_to D, d_vl D, d_fa D)) K ws_X4 tyX4 tyX4_ok nmX4 0 rfl rfl 13 (by decide) fl_X4_200 rfl (by decide +kernel) rfl rfl (Nat.le_of_ble_eq_true rfl) rfl dX4_nextToken_5 ?_
  refine q_loop (α := Nat) (fun n9 j => (j + n9 = (a_tp X).2) ∧ i ≤ j ∧ o_find (q_ns (a_tp X)) ((a_tp X).2 - i) i = o_find (q_ns (a_tp X)) n9 j) 8 (fun j => [(0, .ref (B 0))]) (fun j => w_M (k_Z M) B X (d_bf D, d_as D, d_gn D, d_tk D, nI j, d_to D, d_vl D, d_fa D)) (fun n_1 j hI_2 ih_3 => ?_) ((a_tp X).2 - i) i ⟨by omega, by omega, rfl⟩
  obtain ⟨hIj, hij, hFj⟩ := hI_2
  refine q_aload_n K 0 dX4_nextToken_8 rfl ?_
  refine q_aload_n K 0 dX4_nextToken_9 rfl ?_
  refine q_get (.int (nI j)) K ws_X4 0 rfl rfl 13 (by decide) fl_X4_200 rfl dX4_nextToken_10 ?_
  refine q_wI (q0 := 0) (As := [.int (nI j)]) (rest := []) K kv_X4_byteAt (c_X4_byteAt (k_l M) (k_Z M) B X (d_bf D, d_as D, d_gn D, d_tk D, nI j, d_to D, d_vl D, d_fa D) hq j (by omega)) rfl rfl ml_X4_203 rfl rfl (Nat.le_of_ble_eq_true rfl) ⟨Nat.le_of_ble_eq_true rfl, Nat.le_of_ble_eq_true rfl⟩ dX4_nextToken_13 (fun r_5 w2 h_4 => ?_)
  obtain ⟨e_r_5, rfl⟩ := h_4
  refine q_eqi (p_at (a_tp X) j) e_r_5 ?_
  refine q_bipush 32 K dX4_nextToken_16 rfl ?_
  refine q_icmp_ne 34 K dX4_nextToken_18 (by decide) (fun c_6 => ?_) (fun c_6 => ?_)
  · have hf : p_from (a_tp X) i = j := by
      rw [p_from, hFj]
      cases n_1 with
      | zero => rfl
      | succ q => rw [o_find, if_pos (by rw [q_ns, decide_eq_false c_6] <;> rfl)]
    refine q_aload_n K 0 dX4_nextToken_34 rfl ?_
    refine q_aload_n K 0 dX4_nextToken_35 rfl ?_
    refine q_get (.int (nI j)) K ws_X4 0 rfl rfl 13 (by decide) fl_X4_200 rfl dX4_nextToken_36 ?_
    refine q_put (ty := .int) (ws' := w_M (k_Z M) B X (d_bf D, d_as D, d_gn D, d_tk D, nI j, nI j, d_vl D, d_fa D)) K ws_X4 tyX4 tyX4_ok nmX4 0 rfl rfl 14 (by decide) fl_X4_197 rfl (by decide +kernel) rfl rfl (Nat.le_of_ble_eq_true rfl) rfl dX4_nextToken_39 ?_
    refine q_aload_n K 0 dX4_nextToken_42 rfl ?_
    refine q_aload_n K 0 dX4_nextToken_43 rfl ?_
    refine q_get (.int (nI j)) K ws_X4 0 rfl rfl 13 (by decide) fl_X4_200 rfl dX4_nextToken_44 ?_
    refine q_wI (q0 := 0) (As := [.int (nI j)]) (rest := []) K kv_X4_byteAt (c_X4_byteAt (k_l M) (k_Z M) B X (d_bf D, d_as D, d_gn D, d_tk D, nI j, nI j, d_vl D, d_fa D) hq j (by omega)) rfl rfl ml_X4_203 rfl rfl (Nat.le_of_ble_eq_true rfl) ⟨Nat.le_of_ble_eq_true rfl, Nat.le_of_ble_eq_true rfl⟩ dX4_nextToken_47 (fun r_8 w2 h_7 => ?_)
    obtain ⟨e_r_8, rfl⟩ := h_7
    refine q_eqi (p_at (a_tp X) j) e_r_8 ?_
    refine q_istore_n (lv' := [(1, .int (p_at (a_tp X) j)), (0, .ref (B 0))]) K dX4_nextToken_50 (by decide) rfl ?_
    refine q_aload_n K 1 dX4_nextToken_51 rfl ?_
    refine q_iload_n K 0 dX4_nextToken_52 rfl ?_
    refine q_if_ge 60 K dX4_nextToken_53 (by decide) (fun c_9 => ?_) (fun c_9 => ?_)
    · refine q_iload_n K 0 dX4_nextToken_60 rfl ?_
      refine q_cp (rest := [.ref (B 0)]) K ks_X4_isLetter (c_X4_isLetter (k_l M) (k_Z M) (p_at (a_tp X) j)) ml_X4_206 rfl rfl (Nat.le_of_ble_eq_true rfl) ⟨Nat.le_of_ble_eq_true rfl, Nat.le_of_ble_eq_true rfl⟩ dX4_nextToken_61 (fun r_10 e_r_10 => ?_)
      refine q_if_eq 71 K dX4_nextToken_64 (by decide) (fun c_11 => ?_) (fun c_11 => ?_)
      · have c_11 : ¬ (isLt (p_at (a_tp X) j)) := (kn_eq e_r_10).mp c_11
        refine q_iload_n K 0 dX4_nextToken_71 rfl ?_
        refine q_cp (rest := [.ref (B 0)]) K ks_X4_isDigit (c_X4_isDigit (k_l M) (k_Z M) (p_at (a_tp X) j)) ml_X4_209 rfl rfl (Nat.le_of_ble_eq_true rfl) ⟨Nat.le_of_ble_eq_true rfl, Nat.le_of_ble_eq_true rfl⟩ dX4_nextToken_72 (fun r_12 e_r_12 => ?_)
        refine q_if_eq 82 K dX4_nextToken_75 (by decide) (fun c_13 => ?_) (fun c_13 => ?_)
        · have c_13 : ¬ (isDg (p_at (a_tp X) j)) := (kn_eq e_r_12).mp c_13
          refine q_iload_n K 0 dX4_nextToken_82 rfl ?_
          refine q_bipush 59 K dX4_nextToken_83 rfl ?_
          refine q_icmp_ne 92 K dX4_nextToken_85 (by decide) (fun c_14 => ?_) (fun c_14 => ?_)
          · refine q_iconst 4 K dX4_nextToken_92 rfl ?_
            refine q_put (ty := .int) (ws' := w_M (k_Z M) B X (d_bf D, d_as D, d_gn D, 4, nI j, nI j, d_vl D, d_fa D)) K ws_X4 tyX4 tyX4_ok nmX4 0 rfl rfl 12 (by decide) fl_X4_212 rfl (by decide +kernel) rfl rfl (Nat.le_of_ble_eq_true rfl) rfl dX4_nextToken_93 ?_
            refine q_aload_n K 1 dX4_nextToken_96 rfl ?_
            refine q_iconst 0 K dX4_nextToken_97 rfl ?_
            refine q_put (ty := .int) (ws' := w_M (k_Z M) B X (d_bf D, d_as D, d_gn D, 4, nI j, nI j, 0, d_fa D)) K ws_X4 tyX4 tyX4_ok nmX4 0 rfl rfl 15 (by decide) fl_X4_215 rfl (by decide +kernel) rfl rfl (Nat.le_of_ble_eq_true rfl) rfl dX4_nextToken_98 ?_
            refine q_aload_n K 1 dX4_nextToken_101 rfl ?_
            refine q_get (.int 4) K ws_X4 0 rfl rfl 12 (by decide) fl_X4_212 rfl dX4_nextToken_102 ?_
            refine q_iconst 1 K dX4_nextToken_105 rfl ?_
            refine q_icmp_ne 136 K dX4_nextToken_106 (by decide) (fun c_0 => ?_) (fun c_0 => absurd c_0 (by decide))
            refine q_aload_n K 1 dX4_nextToken_136 rfl ?_
            refine q_get (.int 4) K ws_X4 0 rfl rfl 12 (by decide) fl_X4_212 rfl dX4_nextToken_137 ?_
            refine q_iconst 2 K dX4_nextToken_140 rfl ?_
            refine q_icmp_ne 211 K dX4_nextToken_141 (by decide) (fun c_0 => ?_) (fun c_0 => absurd c_0 (by decide))
            refine q_aload_n K 1 dX4_nextToken_211 rfl ?_
            refine q_dup K dX4_nextToken_212 rfl ?_
            refine q_get (.int (nI j)) K ws_X4 0 rfl rfl 14 (by decide) fl_X4_197 rfl dX4_nextToken_213 ?_
            refine q_aload_n K 1 dX4_nextToken_216 rfl ?_
            refine q_get (.int 4) K ws_X4 0 rfl rfl 12 (by decide) fl_X4_212 rfl dX4_nextToken_217 ?_
            refine q_iconst 2 K dX4_nextToken_220 rfl ?_
            refine q_icmp_le 228 K dX4_nextToken_221 (by decide) (fun c_0 => absurd c_0 (by decide)) (fun c_0 => ?_)
            refine q_iconst 1 K dX4_nextToken_224 rfl ?_
            refine q_goto 229 K dX4_nextToken_225 (by decide) ?_
            refine q_iadd K dX4_nextToken_229 ?_
            refine q_eqi (nI (j + 1)) (kn_add j 1) ?_
            refine q_put (ty := .int) (ws' := w_M (k_Z M) B X (d_bf D, d_as D, d_gn D, 4, nI j, nI (j + 1), 0, d_fa D)) K ws_X4 tyX4 tyX4_ok nmX4 0 rfl rfl 14 (by decide) fl_X4_197 rfl (by decide +kernel) rfl rfl (Nat.le_of_ble_eq_true rfl) rfl dX4_nextToken_230 ?_
            exact Rt _ _ (w_M (k_Z M) B X (d_bf D, d_as D, d_gn D, 4, nI j, nI (j + 1), 0, d_fa D)) dX4_nextToken_233 (by rw [p_tok_4 hf (Int32.not_lt.mpr c_9) c_11 c_13 c_14] <;> rfl)
          · refine q_iconst 3 K dX4_nextToken_88 rfl ?_
            refine q_goto 93 K dX4_nextToken_89 (by decide) ?_
            refine q_put (ty := .int) (ws' := w_M (k_Z M) B X (d_bf D, d_as D, d_gn D, 3, nI j, nI j, d_vl D, d_fa D)) K ws_X4 tyX4 tyX4_ok nmX4 0 rfl rfl 12 (by decide) fl_X4_212 rfl (by decide +kernel) rfl rfl (Nat.le_of_ble_eq_true rfl) rfl dX4_nextToken_93 ?_
            refine q_aload_n K 1 dX4_nextToken_96 rfl ?_
            refine q_iconst 0 K dX4_nextToken_97 rfl ?_
            refine q_put (ty := .int) (ws' := w_M (k_Z M) B X (d_bf D, d_as D, d_gn D, 3, nI j, nI j, 0, d_fa D)) K ws_X4 tyX4 tyX4_ok nmX4 0 rfl rfl 15 (by decide) fl_X4_215 rfl (by decide +kernel) rfl rfl (Nat.le_of_ble_eq_true rfl) rfl dX4_nextToken_98 ?_
            refine q_aload_n K 1 dX4_nextToken_101 rfl ?_
            refine q_get (.int 3) K ws_X4 0 rfl rfl 12 (by decide) fl_X4_212 rfl dX4_nextToken_102 ?_
            refine q_iconst 1 K dX4_nextToken_105 rfl ?_
            refine q_icmp_ne 136 K dX4_nextToken_106 (by decide) (fun c_0 => ?_) (fun c_0 => absurd c_0 (by decide))
            refine q_aload_n K 1 dX4_nextToken_136 rfl ?_
            refine q_get (.int 3) K ws_X4 0 rfl rfl 12 (by decide) fl_X4_212 rfl dX4_nextToken_137 ?_
            refine q_iconst 2 K dX4_nextToken_140 rfl ?_
            refine q_icmp_ne 211 K dX4_nextToken_141 (by decide) (fun c_0 => ?_) (fun c_0 => absurd c_0 (by decide))
            refine q_aload_n K 1 dX4_nextToken_211 rfl ?_
            refine q_dup K dX4_nextToken_212 rfl ?_
            refine q_get (.int (nI j)) K ws_X4 0 rfl rfl 14 (by decide) fl_X4_197 rfl dX4_nextToken_213 ?_
            refine q_aload_n K 1 dX4_nextToken_216 rfl ?_
            refine q_get (.int 3) K ws_X4 0 rfl rfl 12 (by decide) fl_X4_212 rfl dX4_nextToken_217 ?_
            refine q_iconst 2 K dX4_nextToken_220 rfl ?_
            refine q_icmp_le 228 K dX4_nextToken_221 (by decide) (fun c_0 => absurd c_0 (by decide)) (fun c_0 => ?_)
            refine q_iconst 1 K dX4_nextToken_224 rfl ?_
            refine q_goto 229 K dX4_nextToken_225 (by decide) ?_
            refine q_iadd K dX4_nextToken_229 ?_
            refine q_eqi (nI (j + 1)) (kn_add j 1) ?_
            refine q_put (ty := .int) (ws' := w_M (k_Z M) B X (d_bf D, d_as D, d_gn D, 3, nI j, nI (j + 1), 0, d_fa D)) K ws_X4 tyX4 tyX4_ok nmX4 0 rfl rfl 14 (by decide) fl_X4_197 rfl (by decide +kernel) rfl rfl (Nat.le_of_ble_eq_true rfl) rfl dX4_nextToken_230 ?_
            exact Rt _ _ (w_M (k_Z M) B X (d_bf D, d_as D, d_gn D, 3, nI j, nI (j + 1), 0, d_fa D)) dX4_nextToken_233 (by rw [p_tok_3 hf (Int32.not_lt.mpr c_9) c_11 c_13 c_14] <;> rfl)
        · have c_13 : isDg (p_at (a_tp X) j) := (kn_ne e_r_12).mp c_13
          refine q_iconst 2 K dX4_nextToken_78 rfl ?_
          refine q_goto 93 K dX4_nextToken_79 (by decide) ?_
          refine q_put (ty := .int) (ws' := w_M (k_Z M) B X (d_bf D, d_as D, d_gn D, 2, nI j, nI j, d_vl D, d_fa D)) K ws_X4 tyX4 tyX4_ok nmX4 0 rfl rfl 12 (by decide) fl_X4_212 rfl (by decide +kernel) rfl rfl (Nat.le_of_ble_eq_true rfl) rfl dX4_nextToken_93 ?_
          refine q_aload_n K 1 dX4_nextToken_96 rfl ?_
          refine q_iconst 0 K dX4_nextToken_97 rfl ?_
          refine q_put (ty := .int) (ws' := w_M (k_Z M) B X (d_bf D, d_as D, d_gn D, 2, nI j, nI j, 0, d_fa D)) K ws_X4 tyX4 tyX4_ok nmX4 0 rfl rfl 15 (by decide) fl_X4_215 rfl (by decide +kernel) rfl rfl (Nat.le_of_ble_eq_true rfl) rfl dX4_nextToken_98 ?_
          refine q_ws (ws' := w_M (k_Z M) B X (d_bf D, d_as D, d_gn D, 2, nI j, nI j, p_num (a_tp X) j (j - j), d_fa D)) (by rw [show j - j = 0 by omega]; rfl) ?_
          refine q_aload_n K 1 dX4_nextToken_101 rfl ?_
          refine q_get (.int 2) K ws_X4 0 rfl rfl 12 (by decide) fl_X4_212 rfl dX4_nextToken_102 ?_
          refine q_iconst 1 K dX4_nextToken_105 rfl ?_
          refine q_icmp_ne 136 K dX4_nextToken_106 (by decide) (fun c_0 => ?_) (fun c_0 => absurd c_0 (by decide))
          refine q_loop (α := Nat) (fun n9 e => (e + n9 = (a_tp X).2) ∧ j ≤ e ∧ o_find (q_nd (a_tp X)) ((a_tp X).2 - j) j = o_find (q_nd (a_tp X)) n9 e) 136 (fun e => [(1, .int (p_at (a_tp X) j)), (0, .ref (B 0))]) (fun e => w_M (k_Z M) B X (d_bf D, d_as D, d_gn D, 2, nI j, nI e, p_num (a_tp X) j (e - j), d_fa D)) (fun n_15 e hI_16 ih_17 => ?_) ((a_tp X).2 - j) j ⟨by omega, by omega, rfl⟩
          obtain ⟨hIe, hje, hFe⟩ := hI_16
          refine q_aload_n K 1 dX4_nextToken_136 rfl ?_
          refine q_get (.int 2) K ws_X4 0 rfl rfl 12 (by decide) fl_X4_212 rfl dX4_nextToken_137 ?_
          refine q_iconst 2 K dX4_nextToken_140 rfl ?_
          refine q_icmp_ne 211 K dX4_nextToken_141 (by decide) (fun c_0 => absurd c_0 (by decide)) (fun c_0 => ?_)
          refine q_aload_n K 1 dX4_nextToken_144 rfl ?_
          refine q_aload_n K 1 dX4_nextToken_145 rfl ?_
          refine q_get (.int (nI e)) K ws_X4 0 rfl rfl 14 (by decide) fl_X4_197 rfl dX4_nextToken_146 ?_
          refine q_wI (q0 := 0) (As := [.int (nI e)]) (rest := []) K kv_X4_byteAt (c_X4_byteAt (k_l M) (k_Z M) B X (d_bf D, d_as D, d_gn D, 2, nI j, nI e, p_num (a_tp X) j (e - j), d_fa D) hq e (by omega)) rfl rfl ml_X4_203 rfl rfl (Nat.le_of_ble_eq_true rfl) ⟨Nat.le_of_ble_eq_true rfl, Nat.le_of_ble_eq_true rfl⟩ dX4_nextToken_149 (fun r_19 w2 h_18 => ?_)
          obtain ⟨e_r_19, rfl⟩ := h_18
          refine q_eqi (p_at (a_tp X) e) e_r_19 ?_
          refine q_cp (rest := []) K ks_X4_isDigit (c_X4_isDigit (k_l M) (k_Z M) (p_at (a_tp X) e)) ml_X4_209 rfl rfl (Nat.le_of_ble_eq_true rfl) ⟨Nat.le_of_ble_eq_true rfl, Nat.le_of_ble_eq_true rfl⟩ dX4_nextToken_152 (fun r_20 e_r_20 => ?_)
          refine q_if_eq 211 K dX4_nextToken_155 (by decide) (fun c_21 => ?_) (fun c_21 => ?_)
          · have c_21 : ¬ (isDg (p_at (a_tp X) e)) := (kn_eq e_r_20).mp c_21
            refine q_aload_n K 1 dX4_nextToken_211 rfl ?_
            refine q_dup K dX4_nextToken_212 rfl ?_
            refine q_get (.int (nI e)) K ws_X4 0 rfl rfl 14 (by decide) fl_X4_197 rfl dX4_nextToken_213 ?_
            refine q_aload_n K 1 dX4_nextToken_216 rfl ?_
            refine q_get (.int 2) K ws_X4 0 rfl rfl 12 (by decide) fl_X4_212 rfl dX4_nextToken_217 ?_
            refine q_iconst 2 K dX4_nextToken_220 rfl ?_
            refine q_icmp_le 228 K dX4_nextToken_221 (by decide) (fun c_0 => ?_) (fun c_0 => absurd c_0 (by decide))
            refine q_iconst 0 K dX4_nextToken_228 rfl ?_
            refine q_iadd K dX4_nextToken_229 ?_
            refine q_eqi (nI (e + 0)) (kn_add e 0) ?_
            refine q_put (ty := .int) (ws' := w_M (k_Z M) B X (d_bf D, d_as D, d_gn D, 2, nI j, nI (e + 0), p_num (a_tp X) j (e - j), d_fa D)) K ws_X4 tyX4 tyX4_ok nmX4 0 rfl rfl 14 (by decide) fl_X4_197 rfl (by decide +kernel) rfl rfl (Nat.le_of_ble_eq_true rfl) rfl dX4_nextToken_230 ?_
            exact Rt _ _ (w_M (k_Z M) B X (d_bf D, d_as D, d_gn D, 2, nI j, nI (e + 0), p_num (a_tp X) j (e - j), d_fa D)) dX4_nextToken_233 (by rw [p_tok_2 (e := e) hf (Int32.not_lt.mpr c_9) c_11 c_13 (by rw [hFe]; cases n_15 with | zero => rfl | succ q => rw [o_find, if_pos (by rw [q_nd, decide_eq_false c_21] <;> rfl)])] <;> rfl)
          · have c_21 : isDg (p_at (a_tp X) e) := (kn_ne e_r_20).mp c_21
            refine q_aload_n K 1 dX4_nextToken_158 rfl ?_
            refine q_aload_n K 1 dX4_nextToken_159 rfl ?_
            refine q_get (.int (p_num (a_tp X) j (e - j))) K ws_X4 0 rfl rfl 15 (by decide) fl_X4_215 rfl dX4_nextToken_160 ?_
            refine q_sipush 9999 K dX4_nextToken_163 rfl ?_
            refine q_icmp_le 176 K dX4_nextToken_166 (by decide) (fun c_22 => ?_) (fun c_22 => ?_)
            · refine q_bipush 10 K dX4_nextToken_176 rfl ?_
              refine q_aload_n K 1 dX4_nextToken_178 rfl ?_
              refine q_get (.int (p_num (a_tp X) j (e - j))) K ws_X4 0 rfl rfl 15 (by decide) fl_X4_215 rfl dX4_nextToken_179 ?_
              refine q_imul K dX4_nextToken_182 ?_
              refine q_aload_n K 1 dX4_nextToken_183 rfl ?_
              refine q_aload_n K 1 dX4_nextToken_184 rfl ?_
              refine q_get (.int (nI e)) K ws_X4 0 rfl rfl 14 (by decide) fl_X4_197 rfl dX4_nextToken_185 ?_
              refine q_wI (q0 := 0) (As := [.int (nI e)]) (rest := [.int (10 * (p_num (a_tp X) j (e - j))), .ref (B 0)]) K kv_X4_byteAt (c_X4_byteAt (k_l M) (k_Z M) B X (d_bf D, d_as D, d_gn D, 2, nI j, nI e, p_num (a_tp X) j (e - j), d_fa D) hq e (by omega)) rfl rfl ml_X4_203 rfl rfl (Nat.le_of_ble_eq_true rfl) ⟨Nat.le_of_ble_eq_true rfl, Nat.le_of_ble_eq_true rfl⟩ dX4_nextToken_188 (fun r_24 w2 h_23 => ?_)
              obtain ⟨e_r_24, rfl⟩ := h_23
              refine q_eqi (p_at (a_tp X) e) e_r_24 ?_
              refine q_iadd K dX4_nextToken_191 ?_
              refine q_bipush 48 K dX4_nextToken_192 rfl ?_
              refine q_isub K dX4_nextToken_194 ?_
              refine q_eqi (p_num (a_tp X) j (e + 1 - j)) (by rw [show e + 1 - j = (e - j) + 1 by omega, p_num, if_pos c_22, show j + (e - j) = e by omega]) ?_
              refine q_put (ty := .int) (ws' := w_M (k_Z M) B X (d_bf D, d_as D, d_gn D, 2, nI j, nI e, p_num (a_tp X) j (e + 1 - j), d_fa D)) K ws_X4 tyX4 tyX4_ok nmX4 0 rfl rfl 15 (by decide) fl_X4_215 rfl (by decide +kernel) rfl rfl (Nat.le_of_ble_eq_true rfl) rfl dX4_nextToken_195 ?_
              refine q_aload_n K 1 dX4_nextToken_198 rfl ?_
              refine q_dup K dX4_nextToken_199 rfl ?_
              refine q_get (.int (nI e)) K ws_X4 0 rfl rfl 14 (by decide) fl_X4_197 rfl dX4_nextToken_200 ?_
              refine q_iconst 1 K dX4_nextToken_203 rfl ?_
              refine q_iadd K dX4_nextToken_204 ?_
              refine q_eqi (nI (e + 1)) (kn_add e 1) ?_
              refine q_put (ty := .int) (ws' := w_M (k_Z M) B X (d_bf D, d_as D, d_gn D, 2, nI j, nI (e + 1), p_num (a_tp X) j (e + 1 - j), d_fa D)) K ws_X4 tyX4 tyX4_ok nmX4 0 rfl rfl 14 (by decide) fl_X4_197 rfl (by decide +kernel) rfl rfl (Nat.le_of_ble_eq_true rfl) rfl dX4_nextToken_205 ?_
              refine q_goto 136 K dX4_nextToken_208 (by decide) ?_
              have hj9 := p_at_lt' (p := (a_tp X)) (Or.inr c_21)
              exact ih_17 (n_15 - 1) (e + 1) (by omega) ⟨by omega, by omega, by rw [hFe, show n_15 = (n_15 - 1) + 1 by omega, o_find, if_neg (by rw [q_nd, decide_eq_true c_21]; decide)] <;> rfl⟩
            · refine q_aload_n K 1 dX4_nextToken_169 rfl ?_
              refine q_get (.int (p_num (a_tp X) j (e - j))) K ws_X4 0 rfl rfl 15 (by decide) fl_X4_215 rfl dX4_nextToken_170 ?_
              refine q_goto 195 K dX4_nextToken_173 (by decide) ?_
              refine q_eqi (p_num (a_tp X) j (e + 1 - j)) (by rw [show e + 1 - j = (e - j) + 1 by omega, p_num, if_neg c_22]) ?_
              refine q_put (ty := .int) (ws' := w_M (k_Z M) B X (d_bf D, d_as D, d_gn D, 2, nI j, nI e, p_num (a_tp X) j (e + 1 - j), d_fa D)) K ws_X4 tyX4 tyX4_ok nmX4 0 rfl rfl 15 (by decide) fl_X4_215 rfl (by decide +kernel) rfl rfl (Nat.le_of_ble_eq_true rfl) rfl dX4_nextToken_195 ?_
              refine q_aload_n K 1 dX4_nextToken_198 rfl ?_
              refine q_dup K dX4_nextToken_199 rfl ?_
              refine q_get (.int (nI e)) K ws_X4 0 rfl rfl 14 (by decide) fl_X4_197 rfl dX4_nextToken_200 ?_
              refine q_iconst 1 K dX4_nextToken_203 rfl ?_
              refine q_iadd K dX4_nextToken_204 ?_
              refine q_eqi (nI (e + 1)) (kn_add e 1) ?_
              refine q_put (ty := .int) (ws' := w_M (k_Z M) B X (d_bf D, d_as D, d_gn D, 2, nI j, nI (e + 1), p_num (a_tp X) j (e + 1 - j), d_fa D)) K ws_X4 tyX4 tyX4_ok nmX4 0 rfl rfl 14 (by decide) fl_X4_197 rfl (by decide +kernel) rfl rfl (Nat.le_of_ble_eq_true rfl) rfl dX4_nextToken_205 ?_
              refine q_goto 136 K dX4_nextToken_208 (by decide) ?_
              have hj9 := p_at_lt' (p := (a_tp X)) (Or.inr c_21)
              exact ih_17 (n_15 - 1) (e + 1) (by omega) ⟨by omega, by omega, by rw [hFe, show n_15 = (n_15 - 1) + 1 by omega, o_find, if_neg (by rw [q_nd, decide_eq_true c_21]; decide)] <;> rfl⟩
      · have c_11 : isLt (p_at (a_tp X) j) := (kn_ne e_r_10).mp c_11
        refine q_iconst 1 K dX4_nextToken_67 rfl ?_
        refine q_goto 93 K dX4_nextToken_68 (by decide) ?_
        refine q_put (ty := .int) (ws' := w_M (k_Z M) B X (d_bf D, d_as D, d_gn D, 1, nI j, nI j, d_vl D, d_fa D)) K ws_X4 tyX4 tyX4_ok nmX4 0 rfl rfl 12 (by decide) fl_X4_212 rfl (by decide +kernel) rfl rfl (Nat.le_of_ble_eq_true rfl) rfl dX4_nextToken_93 ?_
        refine q_aload_n K 1 dX4_nextToken_96 rfl ?_
        refine q_iconst 0 K dX4_nextToken_97 rfl ?_
        refine q_put (ty := .int) (ws' := w_M (k_Z M) B X (d_bf D, d_as D, d_gn D, 1, nI j, nI j, 0, d_fa D)) K ws_X4 tyX4 tyX4_ok nmX4 0 rfl rfl 15 (by decide) fl_X4_215 rfl (by decide +kernel) rfl rfl (Nat.le_of_ble_eq_true rfl) rfl dX4_nextToken_98 ?_
        refine q_loop (α := Nat) (fun n9 e => (e + n9 = (a_tp X).2) ∧ j ≤ e ∧ o_find (q_nl (a_tp X)) ((a_tp X).2 - j) j = o_find (q_nl (a_tp X)) n9 e) 101 (fun e => [(1, .int (p_at (a_tp X) j)), (0, .ref (B 0))]) (fun e => w_M (k_Z M) B X (d_bf D, d_as D, d_gn D, 1, nI j, nI e, 0, d_fa D)) (fun n_25 e hI_26 ih_27 => ?_) ((a_tp X).2 - j) j ⟨by omega, by omega, rfl⟩
        obtain ⟨hIe, hje, hFe⟩ := hI_26
        refine q_aload_n K 1 dX4_nextToken_101 rfl ?_
        refine q_get (.int 1) K ws_X4 0 rfl rfl 12 (by decide) fl_X4_212 rfl dX4_nextToken_102 ?_
        refine q_iconst 1 K dX4_nextToken_105 rfl ?_
        refine q_icmp_ne 136 K dX4_nextToken_106 (by decide) (fun c_0 => absurd c_0 (by decide)) (fun c_0 => ?_)
        refine q_aload_n K 1 dX4_nextToken_109 rfl ?_
        refine q_aload_n K 1 dX4_nextToken_110 rfl ?_
        refine q_get (.int (nI e)) K ws_X4 0 rfl rfl 14 (by decide) fl_X4_197 rfl dX4_nextToken_111 ?_
        refine q_wI (q0 := 0) (As := [.int (nI e)]) (rest := []) K kv_X4_byteAt (c_X4_byteAt (k_l M) (k_Z M) B X (d_bf D, d_as D, d_gn D, 1, nI j, nI e, 0, d_fa D) hq e (by omega)) rfl rfl ml_X4_203 rfl rfl (Nat.le_of_ble_eq_true rfl) ⟨Nat.le_of_ble_eq_true rfl, Nat.le_of_ble_eq_true rfl⟩ dX4_nextToken_114 (fun r_29 w2 h_28 => ?_)
        obtain ⟨e_r_29, rfl⟩ := h_28
        refine q_eqi (p_at (a_tp X) e) e_r_29 ?_
        refine q_cp (rest := []) K ks_X4_isLetter (c_X4_isLetter (k_l M) (k_Z M) (p_at (a_tp X) e)) ml_X4_206 rfl rfl (Nat.le_of_ble_eq_true rfl) ⟨Nat.le_of_ble_eq_true rfl, Nat.le_of_ble_eq_true rfl⟩ dX4_nextToken_117 (fun r_30 e_r_30 => ?_)
        refine q_if_eq 136 K dX4_nextToken_120 (by decide) (fun c_31 => ?_) (fun c_31 => ?_)
        · have c_31 : ¬ (isLt (p_at (a_tp X) e)) := (kn_eq e_r_30).mp c_31
          refine q_aload_n K 1 dX4_nextToken_136 rfl ?_
          refine q_get (.int 1) K ws_X4 0 rfl rfl 12 (by decide) fl_X4_212 rfl dX4_nextToken_137 ?_
          refine q_iconst 2 K dX4_nextToken_140 rfl ?_
          refine q_icmp_ne 211 K dX4_nextToken_141 (by decide) (fun c_0 => ?_) (fun c_0 => absurd c_0 (by decide))
          refine q_aload_n K 1 dX4_nextToken_211 rfl ?_
          refine q_dup K dX4_nextToken_212 rfl ?_
          refine q_get (.int (nI e)) K ws_X4 0 rfl rfl 14 (by decide) fl_X4_197 rfl dX4_nextToken_213 ?_
          refine q_aload_n K 1 dX4_nextToken_216 rfl ?_
          refine q_get (.int 1) K ws_X4 0 rfl rfl 12 (by decide) fl_X4_212 rfl dX4_nextToken_217 ?_
          refine q_iconst 2 K dX4_nextToken_220 rfl ?_
          refine q_icmp_le 228 K dX4_nextToken_221 (by decide) (fun c_0 => ?_) (fun c_0 => absurd c_0 (by decide))
          refine q_iconst 0 K dX4_nextToken_228 rfl ?_
          refine q_iadd K dX4_nextToken_229 ?_
          refine q_eqi (nI (e + 0)) (kn_add e 0) ?_
          refine q_put (ty := .int) (ws' := w_M (k_Z M) B X (d_bf D, d_as D, d_gn D, 1, nI j, nI (e + 0), 0, d_fa D)) K ws_X4 tyX4 tyX4_ok nmX4 0 rfl rfl 14 (by decide) fl_X4_197 rfl (by decide +kernel) rfl rfl (Nat.le_of_ble_eq_true rfl) rfl dX4_nextToken_230 ?_
          exact Rt _ _ (w_M (k_Z M) B X (d_bf D, d_as D, d_gn D, 1, nI j, nI (e + 0), 0, d_fa D)) dX4_nextToken_233 (by rw [p_tok_1 (e := e) hf (Int32.not_lt.mpr c_9) c_11 (by rw [hFe]; cases n_25 with | zero => rfl | succ q => rw [o_find, if_pos (by rw [q_nl, decide_eq_false c_31] <;> rfl)])] <;> rfl)
        · have c_31 : isLt (p_at (a_tp X) e) := (kn_ne e_r_30).mp c_31
          refine q_aload_n K 1 dX4_nextToken_123 rfl ?_
          refine q_dup K dX4_nextToken_124 rfl ?_
          refine q_get (.int (nI e)) K ws_X4 0 rfl rfl 14 (by decide) fl_X4_197 rfl dX4_nextToken_125 ?_
          refine q_iconst 1 K dX4_nextToken_128 rfl ?_
          refine q_iadd K dX4_nextToken_129 ?_
          refine q_eqi (nI (e + 1)) (kn_add e 1) ?_
          refine q_put (ty := .int) (ws' := w_M (k_Z M) B X (d_bf D, d_as D, d_gn D, 1, nI j, nI (e + 1), 0, d_fa D)) K ws_X4 tyX4 tyX4_ok nmX4 0 rfl rfl 14 (by decide) fl_X4_197 rfl (by decide +kernel) rfl rfl (Nat.le_of_ble_eq_true rfl) rfl dX4_nextToken_130 ?_
          refine q_goto 101 K dX4_nextToken_133 (by decide) ?_
          have hj9 := p_at_lt' (p := (a_tp X)) (Or.inl c_31)
          exact ih_27 (n_25 - 1) (e + 1) (by omega) ⟨by omega, by omega, by rw [hFe, show n_25 = (n_25 - 1) + 1 by omega, o_find, if_neg (by rw [q_nl, decide_eq_true c_31]; decide)] <;> rfl⟩
    · refine q_iconst 0 K dX4_nextToken_56 rfl ?_
      refine q_goto 93 K dX4_nextToken_57 (by decide) ?_
      refine q_put (ty := .int) (ws' := w_M (k_Z M) B X (d_bf D, d_as D, d_gn D, 0, nI j, nI j, d_vl D, d_fa D)) K ws_X4 tyX4 tyX4_ok nmX4 0 rfl rfl 12 (by decide) fl_X4_212 rfl (by decide +kernel) rfl rfl (Nat.le_of_ble_eq_true rfl) rfl dX4_nextToken_93 ?_
      refine q_aload_n K 1 dX4_nextToken_96 rfl ?_
      refine q_iconst 0 K dX4_nextToken_97 rfl ?_
      refine q_put (ty := .int) (ws' := w_M (k_Z M) B X (d_bf D, d_as D, d_gn D, 0, nI j, nI j, 0, d_fa D)) K ws_X4 tyX4 tyX4_ok nmX4 0 rfl rfl 15 (by decide) fl_X4_215 rfl (by decide +kernel) rfl rfl (Nat.le_of_ble_eq_true rfl) rfl dX4_nextToken_98 ?_
      refine q_aload_n K 1 dX4_nextToken_101 rfl ?_
      refine q_get (.int 0) K ws_X4 0 rfl rfl 12 (by decide) fl_X4_212 rfl dX4_nextToken_102 ?_
      refine q_iconst 1 K dX4_nextToken_105 rfl ?_
      refine q_icmp_ne 136 K dX4_nextToken_106 (by decide) (fun c_0 => ?_) (fun c_0 => absurd c_0 (by decide))
      refine q_aload_n K 1 dX4_nextToken_136 rfl ?_
      refine q_get (.int 0) K ws_X4 0 rfl rfl 12 (by decide) fl_X4_212 rfl dX4_nextToken_137 ?_
      refine q_iconst 2 K dX4_nextToken_140 rfl ?_
      refine q_icmp_ne 211 K dX4_nextToken_141 (by decide) (fun c_0 => ?_) (fun c_0 => absurd c_0 (by decide))
      refine q_aload_n K 1 dX4_nextToken_211 rfl ?_
      refine q_dup K dX4_nextToken_212 rfl ?_
      refine q_get (.int (nI j)) K ws_X4 0 rfl rfl 14 (by decide) fl_X4_197 rfl dX4_nextToken_213 ?_
      refine q_aload_n K 1 dX4_nextToken_216 rfl ?_
      refine q_get (.int 0) K ws_X4 0 rfl rfl 12 (by decide) fl_X4_212 rfl dX4_nextToken_217 ?_
      refine q_iconst 2 K dX4_nextToken_220 rfl ?_
      refine q_icmp_le 228 K dX4_nextToken_221 (by decide) (fun c_0 => ?_) (fun c_0 => absurd c_0 (by decide))
      refine q_iconst 0 K dX4_nextToken_228 rfl ?_
      refine q_iadd K dX4_nextToken_229 ?_
      refine q_eqi (nI (j + 0)) (kn_add j 0) ?_
      refine q_put (ty := .int) (ws' := w_M (k_Z M) B X (d_bf D, d_as D, d_gn D, 0, nI j, nI (j + 0), 0, d_fa D)) K ws_X4 tyX4 tyX4_ok nmX4 0 rfl rfl 14 (by decide) fl_X4_197 rfl (by decide +kernel) rfl rfl (Nat.le_of_ble_eq_true rfl) rfl dX4_nextToken_230 ?_
      exact Rt _ _ (w_M (k_Z M) B X (d_bf D, d_as D, d_gn D, 0, nI j, nI (j + 0), 0, d_fa D)) dX4_nextToken_233 (by rw [p_tok_0 hf (Int32.not_le.mp c_9)] <;> rfl)
  · refine q_aload_n K 0 dX4_nextToken_21 rfl ?_
    refine q_dup K dX4_nextToken_22 rfl ?_
    refine q_get (.int (nI j)) K ws_X4 0 rfl rfl 13 (by decide) fl_X4_200 rfl dX4_nextToken_23 ?_
    refine q_iconst 1 K dX4_nextToken_26 rfl ?_
    refine q_iadd K dX4_nextToken_27 ?_
    refine q_eqi (nI (j + 1)) (kn_add j 1) ?_
    refine q_put (ty := .int) (ws' := w_M (k_Z M) B X (d_bf D, d_as D, d_gn D, d_tk D, nI (j + 1), d_to D, d_vl D, d_fa D)) K ws_X4 tyX4 tyX4_ok nmX4 0 rfl rfl 13 (by decide) fl_X4_200 rfl (by decide +kernel) rfl rfl (Nat.le_of_ble_eq_true rfl) rfl dX4_nextToken_28 ?_
    refine q_goto 8 K dX4_nextToken_31 (by decide) ?_
    have hj9 := p_at_lt (p := (a_tp X)) c_6 (by decide)
    exact ih_3 (n_1 - 1) (j + 1) (by omega) ⟨by omega, by omega, by rw [hFj, show n_1 = (n_1 - 1) + 1 by omega, o_find, if_neg (by rw [q_ns, decide_eq_true c_6]; decide)] <;> rfl⟩
theorem kv_X4_nextToken : k_iv yX4_nextToken cX4_nextToken 2 none 0 := ⟨⟨im_X4_nextToken, se_X4_nextToken⟩, in_X4, co_X4_nextToken, by decide +kernel⟩
