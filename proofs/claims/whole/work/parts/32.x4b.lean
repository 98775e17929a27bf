set_option maxHeartbeats 4000000 in
set_option maxRecDepth 100000 in
theorem c_X4_finds (l : Launch) (Z : kz_Z) (B : Nat → Nat) (X : AS) (D : DJ) (k : Nat) (hk : k < 7) : KI l Z yX4_finds cX4_finds 2 .int 0 0 [.ref (B 0), .int (r_fin k)] (w_M Z B X D) (fun r w2 => r = r_fin k ∧ w2 = w_M Z B (a_setfd X (fd_up (a_fd X) k)) D) := by
  refine ki_of (by decide) [(0, .ref (B 0)), (1, .int (r_fin k))] (Nat.le_of_ble_eq_true rfl) rfl ?_
  intro M e1 e2 K Rt
  subst e1 e2
  refine q_aload_n K 0 dX4_finds_0 rfl ?_
  refine q_get (.ref (B 5)) K ws_X4 0 rfl rfl 5 (by decide) fl_X4_22 rfl dX4_finds_1 ?_
  refine q_iconst 0 K dX4_finds_4 rfl ?_
  refine q_dup2 K dX4_finds_5 rfl rfl ?_
  refine q_iald K 5 rfl (vp_in_nI (n := 0) (N := 8) (by omega) (by omega)) dX4_finds_6 ?_
  refine q_eqi ((m_fd (a_fd X)) 0) rfl ?_
  refine q_iconst 1 K dX4_finds_7 rfl ?_
  refine q_iadd K dX4_finds_8 ?_
  refine q_iast (ws' := (w_M (k_Z M) B X D).set 5 (B 5, .inl ((k_Z M).2.1 0, 8, .inl (upd (m_fd (a_fd X)) 0 (((m_fd (a_fd X)) 0) + 1))))) K 5 rfl (vp_in_nI (n := 0) (N := 8) (by omega) (by omega)) rfl dX4_finds_9 ?_
  refine q_aload_n K 0 dX4_finds_10 rfl ?_
  refine q_get (.ref (B 5)) K ws_X4 0 rfl rfl 5 (by decide) fl_X4_22 rfl dX4_finds_11 ?_
  refine q_ldc K dX4_finds_14 ct_X4_40 ?_
  refine q_iload_n K 1 dX4_finds_16 rfl ?_
  refine q_isub K dX4_finds_17 ?_
  refine q_iconst 1 K dX4_finds_18 rfl ?_
  refine q_iadd K dX4_finds_19 ?_
  refine q_eqi (nI (k + 1)) (r_fin_ix k hk) ?_
  refine q_dup2 K dX4_finds_20 rfl rfl ?_
  refine q_iald K 5 rfl (vp_in_nI (n := k + 1) (N := 8) (by omega) (by omega)) dX4_finds_21 ?_
  refine q_eqi ((upd (m_fd (a_fd X)) 0 (((m_fd (a_fd X)) 0) + 1)) (k + 1)) (by rw [nI_clamp (n := k + 1) (by omega)]) ?_
  refine q_iconst 1 K dX4_finds_22 rfl ?_
  refine q_iadd K dX4_finds_23 ?_
  refine q_iast (ws' := (w_M (k_Z M) B X D).set 5 (B 5, .inl ((k_Z M).2.1 0, 8, .inl (upd (upd (m_fd (a_fd X)) 0 (((m_fd (a_fd X)) 0) + 1)) (k + 1) (((upd (m_fd (a_fd X)) 0 (((m_fd (a_fd X)) 0) + 1)) (k + 1)) + 1))))) K 5 rfl (vp_in_nI (n := k + 1) (N := 8) (by omega) (by omega)) (by rw [nI_clamp (n := k + 1) (by omega)] <;> rfl) dX4_finds_24 ?_
  refine q_iload_n K 1 dX4_finds_25 rfl ?_
  exact Rt _ _ (r_fin k) ((w_M (k_Z M) B X D).set 5 (B 5, .inl ((k_Z M).2.1 0, 8, .inl (upd (upd (m_fd (a_fd X)) 0 (((m_fd (a_fd X)) 0) + 1)) (k + 1) (((upd (m_fd (a_fd X)) 0 (((m_fd (a_fd X)) 0) + 1)) (k + 1)) + 1))))) dX4_finds_26 rfl (⟨rfl, by show _ = (w_M (k_Z M) B X D).set 5 (B 5, .inl ((k_Z M).2.1 0, 8, .inl (m_fd (fd_up (a_fd X) k)))); rw [← m_fd_up (a_fd X) hk]⟩)
theorem kv_X4_finds : k_iv yX4_finds cX4_finds 2 (some .int) 1 := ⟨⟨im_X4_finds, se_X4_finds⟩, in_X4, co_X4_finds, by decide +kernel⟩
set_option maxHeartbeats 4000000 in
set_option maxRecDepth 100000 in
theorem c_X4_becomes (l : Launch) (Z : kz_Z) (B : Nat → Nat) (X : AS) (D : DJ) (i : Nat) (hi : i < 71) (v : Int32) : KI l Z yX4_becomes cX4_becomes 4 .int 0 0 [.ref (B 0), .int (nI i), .int v] (w_M Z B X D) (fun r w2 => r = f_rw (a_F X) i ∧ w2 = (w_M Z B X D).set 1 (B 1, .inl (Z.2.1 0, 71, .inl (upd (f_rw (a_F X)) i v)))) := by
  refine ki_of (by decide) [(0, .ref (B 0)), (1, .int (nI i)), (2, .int v)] (Nat.le_of_ble_eq_true rfl) rfl ?_
  intro M e1 e2 K Rt
  subst e1 e2
  refine q_aload_n K 0 dX4_becomes_0 rfl ?_
  refine q_get (.ref (B 1)) K ws_X4 0 rfl rfl 0 (by decide) fl_X4_7 rfl dX4_becomes_1 ?_
  refine q_iload_n K 1 dX4_becomes_4 rfl ?_
  refine q_iald K 1 rfl (vp_in_nI (n := i) (N := 71) (by omega) (by omega)) dX4_becomes_5 ?_
  refine q_eqi ((f_rw (a_F X)) i) (by rw [nI_clamp (n := i) (by omega)]) ?_
  refine q_istore_n (lv' := [(3, .int ((f_rw (a_F X)) i)), (0, .ref (B 0)), (1, .int (nI i)), (2, .int v)]) K dX4_becomes_6 (by decide) rfl ?_
  refine q_aload_n K 1 dX4_becomes_7 rfl ?_
  refine q_get (.ref (B 1)) K ws_X4 0 rfl rfl 0 (by decide) fl_X4_7 rfl dX4_becomes_8 ?_
  refine q_iload_n K 2 dX4_becomes_11 rfl ?_
  refine q_iload_n K 3 dX4_becomes_12 rfl ?_
  refine q_iast (ws' := (w_M (k_Z M) B X D).set 1 (B 1, .inl ((k_Z M).2.1 0, 71, .inl (upd (f_rw (a_F X)) i v)))) K 1 rfl (vp_in_nI (n := i) (N := 71) (by omega) (by omega)) (by rw [nI_clamp (n := i) (by omega)] <;> rfl) dX4_becomes_13 ?_
  refine q_iload_n K 0 dX4_becomes_14 rfl ?_
  exact Rt _ _ ((f_rw (a_F X)) i) ((w_M (k_Z M) B X D).set 1 (B 1, .inl ((k_Z M).2.1 0, 71, .inl (upd (f_rw (a_F X)) i v)))) dX4_becomes_15 rfl (⟨rfl, rfl⟩)
theorem kv_X4_becomes : k_iv yX4_becomes cX4_becomes 4 (some .int) 2 := ⟨⟨im_X4_becomes, se_X4_becomes⟩, in_X4, co_X4_becomes, by decide +kernel⟩
set_option maxHeartbeats 4000000 in
set_option maxRecDepth 100000 in
theorem c_X4_isWalker (l : Launch) (Z : kz_Z) (B : Nat → Nat) (X : AS) (D : DJ) (m : Nat) (hm : m ≤ 8) (hm2 : f_wk (a_F X) = nI m) (w : Int32) : KI l Z yX4_isWalker cX4_isWalker 2 .boolean 0 0 [.ref (B 0), .int w] (w_M Z B X D) (fun r w2 => (r = if isW X w then 1 else 0) ∧ w2 = w_M Z B X D) := by
  refine ki_of (by decide) [(0, .ref (B 0)), (1, .int w)] (Nat.le_of_ble_eq_true rfl) rfl ?_
  intro M e1 e2 K Rt
  subst e1 e2
  refine q_iload_n K 1 dX4_isWalker_0 rfl ?_
  refine q_if_lt 18 K dX4_isWalker_1 (by decide) (fun c_1 => ?_) (fun c_1 => ?_)
  · refine q_iconst 0 K dX4_isWalker_18 rfl ?_
    exact Rt _ _ 0 (w_M (k_Z M) B X D) dX4_isWalker_19 rfl (⟨(if_neg (fun h => absurd c_1 (Int32.not_lt.mpr h.1))).symm, rfl⟩)
  · refine q_iload_n K 1 dX4_isWalker_4 rfl ?_
    refine q_aload_n K 0 dX4_isWalker_5 rfl ?_
    refine q_get (.ref (B 1)) K ws_X4 0 rfl rfl 0 (by decide) fl_X4_7 rfl dX4_isWalker_6 ?_
    refine q_iconst 0 K dX4_isWalker_9 rfl ?_
    refine q_iald K 1 rfl (vp_in_nI (n := 0) (N := 71) (by omega) (by omega)) dX4_isWalker_10 ?_
    refine q_eqi (f_wk (a_F X)) rfl ?_
    refine q_eqi (nI m) hm2 ?_
    refine q_icmp_ge 18 K dX4_isWalker_11 (by decide) (fun c_2 => ?_) (fun c_2 => ?_)
    · refine q_iconst 0 K dX4_isWalker_18 rfl ?_
      exact Rt _ _ 0 (w_M (k_Z M) B X D) dX4_isWalker_19 rfl (⟨(if_neg (isW_no hm hm2 c_2)).symm, rfl⟩)
    · refine q_iconst 1 K dX4_isWalker_14 rfl ?_
      refine q_goto 19 K dX4_isWalker_15 (by decide) ?_
      exact Rt _ _ 1 (w_M (k_Z M) B X D) dX4_isWalker_19 rfl (⟨(if_pos (isW_of hm hm2 c_1 c_2)).symm, rfl⟩)
theorem kv_X4_isWalker : k_iv yX4_isWalker cX4_isWalker 2 (some .boolean) 1 := ⟨⟨im_X4_isWalker, se_X4_isWalker⟩, in_X4, co_X4_isWalker, by decide +kernel⟩
set_option maxHeartbeats 4000000 in
set_option maxRecDepth 100000 in
theorem c_X4_leavesIt (l : Launch) (Z : kz_Z) (B : Nat → Nat) (X : AS) (D : DJ) (w : Nat) (hw : w < 8) (s : Int32) : KI l Z yX4_leavesIt cX4_leavesIt 6 .int 1 22 [.ref (B 0), .int (nI w), .int s] (w_M Z B X D) (fun r w2 => r = f_leaves (a_F X) w s ∧ w2 = w_M Z B X D) := by
  refine ki_of (by decide) [(0, .ref (B 0)), (1, .int (nI w)), (2, .int s)] (Nat.le_of_ble_eq_true rfl) rfl ?_
  intro M e1 e2 K Rt
  subst e1 e2
  refine q_aload_n K 0 dX4_leavesIt_0 rfl ?_
  refine q_get (.ref (B 1)) K ws_X4 0 rfl rfl 0 (by decide) fl_X4_7 rfl dX4_leavesIt_1 ?_
  refine q_iconst 3 K dX4_leavesIt_4 rfl ?_
  refine q_iald K 1 rfl (vp_in_nI (n := 3) (N := 71) (by omega) (by omega)) dX4_leavesIt_5 ?_
  refine q_eqi (f_wd (a_F X)) rfl ?_
  refine q_iconst 5 K dX4_leavesIt_6 rfl ?_
  refine q_cuti (fun v9 : Int32 => v9 = (if (f_wd (a_F X)) < 5 then s else 0)) 15 (st := []) (fun v_1 e_v_1 => ?_) (fun j_v_1 => ?_)
  · refine q_eqi (f_pl (a_F X) s) e_v_1 ?_
    refine q_istore_n (lv' := [(3, .int (f_pl (a_F X) s)), (0, .ref (B 0)), (1, .int (nI w)), (2, .int s)]) K dX4_leavesIt_15 (by decide) rfl ?_
    refine q_iload_n K 0 dX4_leavesIt_16 rfl ?_
    refine q_iconst 1 K dX4_leavesIt_17 rfl ?_
    refine q_cuti (fun v9 : Int32 => v9 = (if (f_pl (a_F X) s) = 1 then 2 else f_pl (a_F X) s)) 26 (st := []) (fun v_3 e_v_3 => ?_) (fun j_v_3 => ?_)
    · refine q_eqi (f_dg (a_F X) s) e_v_3 ?_
      refine q_istore (lv' := [(4, .int (f_dg (a_F X) s)), (3, .int (f_pl (a_F X) s)), (0, .ref (B 0)), (1, .int (nI w)), (2, .int s)]) K dX4_leavesIt_26 (by decide) rfl ?_
      refine q_iload K 0 dX4_leavesIt_28 rfl ?_
      refine q_aload_n K 2 dX4_leavesIt_30 rfl ?_
      refine q_iload_n K 3 dX4_leavesIt_31 rfl ?_
      refine q_iconst 3 K dX4_leavesIt_32 rfl ?_
      refine q_wI (q0 := 0) (As := [.int (nI w), .int 3]) (rest := [.int (f_dg (a_F X) s)]) K kv_X4_its (c_X4_its (k_l M) (k_Z M) B X D w 3 (by omega) (by omega)) rfl rfl ml_X4_62 rfl rfl (Nat.le_of_ble_eq_true rfl) ⟨Nat.le_of_ble_eq_true rfl, Nat.le_of_ble_eq_true rfl⟩ dX4_leavesIt_33 (fun r_6 w2 h_5 => ?_)
      obtain ⟨e_r_6, rfl⟩ := h_5
      refine q_eqi (f_md (a_F X) w) e_r_6 ?_
      refine q_iadd K dX4_leavesIt_36 ?_
      refine q_iconst 4 K dX4_leavesIt_37 rfl ?_
      refine q_irem K dX4_leavesIt_38 (by decide) ?_
      refine q_eqi (f_ch (a_F X) w s) rfl ?_
      refine q_istore (lv' := [(5, .int (f_ch (a_F X) w s)), (4, .int (f_dg (a_F X) s)), (3, .int (f_pl (a_F X) s)), (0, .ref (B 0)), (1, .int (nI w)), (2, .int s)]) K dX4_leavesIt_39 (by decide) rfl ?_
      refine q_aload_n K 3 dX4_leavesIt_41 rfl ?_
      refine q_iload_n K 4 dX4_leavesIt_42 rfl ?_
      refine q_iconst 0 K dX4_leavesIt_43 rfl ?_
      refine q_wI (q0 := 0) (As := [.int (nI w), .int 0]) (rest := []) K kv_X4_its (c_X4_its (k_l M) (k_Z M) B X D w 0 (by omega) (by omega)) rfl rfl ml_X4_62 rfl rfl (Nat.le_of_ble_eq_true rfl) ⟨Nat.le_of_ble_eq_true rfl, Nat.le_of_ble_eq_true rfl⟩ dX4_leavesIt_44 (fun r_8 w2 h_7 => ?_)
      obtain ⟨e_r_8, rfl⟩ := h_7
      refine q_eqi (f_kd (a_F X) w) e_r_8 ?_
      by_cases c_9 : (f_kd (a_F X) w) = 1
      · refine q_tableIn (off := 37) 84 K dX4_leavesIt_47 (by rw [c_9]; decide) (by rw [c_9]; decide) (by rw [c_9]; rfl) (by decide) ?_
        refine q_iconst 3 K dX4_leavesIt_84 rfl ?_
        exact Rt _ _ 3 (w_M (k_Z M) B X D) dX4_leavesIt_85 rfl (⟨by simp only [f_leaves, e_v_1, e_v_3, if_pos c_9], rfl⟩)
      by_cases c_10 : (f_kd (a_F X) w) = 2
      · refine q_tableIn (off := 39) 86 K dX4_leavesIt_47 (by rw [c_10]; decide) (by rw [c_10]; decide) (by rw [c_10]; rfl) (by decide) ?_
        refine q_iload K 1 dX4_leavesIt_86 rfl ?_
        exact Rt _ _ (f_dg (a_F X) s) (w_M (k_Z M) B X D) dX4_leavesIt_88 rfl (⟨by simp only [f_leaves, e_v_1, e_v_3, if_neg c_9, if_pos c_10], rfl⟩)
      by_cases c_11 : (f_kd (a_F X) w) = 3
      · refine q_tableIn (off := 42) 89 K dX4_leavesIt_47 (by rw [c_11]; decide) (by rw [c_11]; decide) (by rw [c_11]; rfl) (by decide) ?_
        refine q_iload K 0 dX4_leavesIt_89 rfl ?_
        exact Rt _ _ (f_ch (a_F X) w s) (w_M (k_Z M) B X D) dX4_leavesIt_91 rfl (⟨by simp only [f_leaves, e_v_1, e_v_3, if_neg c_9, if_neg c_10, if_pos c_11], rfl⟩)
      by_cases c_12 : (f_kd (a_F X) w) = 4
      · refine q_tableIn (off := 45) 92 K dX4_leavesIt_47 (by rw [c_12]; decide) (by rw [c_12]; decide) (by rw [c_12]; rfl) (by decide) ?_
        refine q_iconst 3 K dX4_leavesIt_92 rfl ?_
        refine q_iload K 0 dX4_leavesIt_93 rfl ?_
        refine q_isub K dX4_leavesIt_95 ?_
        exact Rt _ _ (3 - (f_ch (a_F X) w s)) (w_M (k_Z M) B X D) dX4_leavesIt_96 rfl (⟨by simp only [f_leaves, e_v_1, e_v_3, if_neg c_9, if_neg c_10, if_neg c_11, if_pos c_12], rfl⟩)
      by_cases c_13 : (f_kd (a_F X) w) = 5
      · refine q_tableIn (off := 50) 97 K dX4_leavesIt_47 (by rw [c_13]; decide) (by rw [c_13]; decide) (by rw [c_13]; rfl) (by decide) ?_
        refine q_iconst 0 K dX4_leavesIt_97 rfl ?_
        exact Rt _ _ 0 (w_M (k_Z M) B X D) dX4_leavesIt_98 rfl (⟨by simp only [f_leaves, e_v_1, e_v_3, if_neg c_9, if_neg c_10, if_neg c_11, if_neg c_12, if_pos c_13], rfl⟩)
      by_cases c_14 : (f_kd (a_F X) w) = 6
      · refine q_tableIn (off := 52) 99 K dX4_leavesIt_47 (by rw [c_14]; decide) (by rw [c_14]; decide) (by rw [c_14]; rfl) (by decide) ?_
        refine q_iload_n K 5 dX4_leavesIt_99 rfl ?_
        refine q_cuti (fun v9 : Int32 => v9 = (if s = 0 then 1 else 3)) 108 (st := []) (fun v_15 e_v_15 => ?_) (fun j_v_15 => ?_)
        · exact Rt _ _ v_15 (w_M (k_Z M) B X D) dX4_leavesIt_108 rfl (⟨by simp only [f_leaves, e_v_1, e_v_3, e_v_15, if_neg c_9, if_neg c_10, if_neg c_11, if_neg c_12, if_neg c_13, if_pos c_14], rfl⟩)
        · refine q_if_ne 107 K dX4_leavesIt_100 (by decide) (fun c_16 => ?_) (fun c_16 => ?_)
          · refine q_iconst 3 K dX4_leavesIt_107 rfl ?_
            exact j_v_15 _ (if_neg c_16).symm
          · refine q_iconst 1 K dX4_leavesIt_103 rfl ?_
            refine q_goto 108 K dX4_leavesIt_104 (by decide) ?_
            exact j_v_15 _ (if_pos c_16).symm
      refine q_tableOut 109 K dX4_leavesIt_47 (by have := lv_neT (a := 1) c_9 rfl; have := lv_neT (a := 2) c_10 rfl; have := lv_neT (a := 3) c_11 rfl; have := lv_neT (a := 4) c_12 rfl; have := lv_neT (a := 5) c_13 rfl; have := lv_neT (a := 6) c_14 rfl; omega) (by decide) ?_
      refine q_iload_n K 2 dX4_leavesIt_109 rfl ?_
      exact Rt _ _ (f_pl (a_F X) s) (w_M (k_Z M) B X D) dX4_leavesIt_110 rfl (⟨by simp only [f_leaves, e_v_1, e_v_3, if_neg c_9, if_neg c_10, if_neg c_11, if_neg c_12, if_neg c_13, if_neg c_14], rfl⟩)
    · refine q_icmp_ne 25 K dX4_leavesIt_18 (by decide) (fun c_4 => ?_) (fun c_4 => ?_)
      · refine q_iload_n K 0 dX4_leavesIt_25 rfl ?_
        exact j_v_3 _ (if_neg c_4).symm
      · refine q_iconst 2 K dX4_leavesIt_21 rfl ?_
        refine q_goto 26 K dX4_leavesIt_22 (by decide) ?_
        exact j_v_3 _ (if_pos c_4).symm
  · refine q_icmp_lt 14 K dX4_leavesIt_7 (by decide) (fun c_2 => ?_) (fun c_2 => ?_)
    · refine q_iload_n K 2 dX4_leavesIt_14 rfl ?_
      exact j_v_1 _ (if_pos c_2).symm
    · refine q_iconst 0 K dX4_leavesIt_10 rfl ?_
      refine q_goto 15 K dX4_leavesIt_11 (by decide) ?_
      exact j_v_1 _ (if_neg c_2).symm
theorem kv_X4_leavesIt : k_iv yX4_leavesIt cX4_leavesIt 6 (some .int) 2 := ⟨⟨im_X4_leavesIt, se_X4_leavesIt⟩, in_X4, co_X4_leavesIt, by decide +kernel⟩
set_option maxHeartbeats 4000000 in
set_option maxRecDepth 100000 in
theorem c_X4_feels (l : Launch) (Z : kz_Z) (B : Nat → Nat) (X : AS) (D : DJ) (w : Nat) (hw : w < 8) (s : Int32) (hok : f_ok (a_F X)) : KI l Z yX4_feels cX4_feels 6 .int 1 22 [.ref (B 0), .int (nI w), .int s] (w_M Z B X D) (fun r w2 => r = f_feels (a_F X) w s ∧ w2 = w_M Z B X D) := by
  refine ki_of (by decide) [(0, .ref (B 0)), (1, .int (nI w)), (2, .int s)] (Nat.le_of_ble_eq_true rfl) rfl ?_
  intro M e1 e2 K Rt
  subst e1 e2
  refine q_aload_n K 0 dX4_feels_0 rfl ?_
  refine q_iload_n K 1 dX4_feels_1 rfl ?_
  refine q_iconst 3 K dX4_feels_2 rfl ?_
  refine q_wI (q0 := 0) (As := [.int (nI w), .int 3]) (rest := []) K kv_X4_its (c_X4_its (k_l M) (k_Z M) B X D w 3 (by omega) (by omega)) rfl rfl ml_X4_62 rfl rfl (Nat.le_of_ble_eq_true rfl) ⟨Nat.le_of_ble_eq_true rfl, Nat.le_of_ble_eq_true rfl⟩ dX4_feels_3 (fun r_2 w2 h_1 => ?_)
  obtain ⟨e_r_2, rfl⟩ := h_1
  refine q_eqi (f_md (a_F X) w) e_r_2 ?_
  refine q_istore_n (lv' := [(3, .int (f_md (a_F X) w)), (0, .ref (B 0)), (1, .int (nI w)), (2, .int s)]) K dX4_feels_6 (by decide) rfl ?_
  refine q_bipush 9 K dX4_feels_7 rfl ?_
  refine q_iload_n K 0 dX4_feels_9 rfl ?_
  refine q_iload_n K 3 dX4_feels_10 rfl ?_
  refine q_iadd K dX4_feels_11 ?_
  refine q_cp (rest := []) K ks_X4_least (c_X4_least (k_l M) (k_Z M) 9 ((f_md (a_F X) w) + s)) ml_X4_86 rfl rfl (Nat.le_of_ble_eq_true rfl) ⟨Nat.le_of_ble_eq_true rfl, Nat.le_of_ble_eq_true rfl⟩ dX4_feels_12 (fun r_3 e_r_3 => ?_)
  refine q_eqi (f_mn ((f_md (a_F X) w) + s) 9) e_r_3 ?_
  refine q_eqi (f_fdg (a_F X) w s) rfl ?_
  refine q_istore (lv' := [(4, .int (f_fdg (a_F X) w s)), (3, .int (f_md (a_F X) w)), (0, .ref (B 0)), (1, .int (nI w)), (2, .int s)]) K dX4_feels_15 (by decide) rfl ?_
  refine q_bipush 9 K dX4_feels_17 rfl ?_
  refine q_iload K 0 dX4_feels_19 rfl ?_
  refine q_iconst 1 K dX4_feels_21 rfl ?_
  refine q_iadd K dX4_feels_22 ?_
  refine q_cp (rest := []) K ks_X4_least (c_X4_least (k_l M) (k_Z M) 9 ((f_fdg (a_F X) w s) + 1)) ml_X4_86 rfl rfl (Nat.le_of_ble_eq_true rfl) ⟨Nat.le_of_ble_eq_true rfl, Nat.le_of_ble_eq_true rfl⟩ dX4_feels_23 (fun r_4 e_r_4 => ?_)
  refine q_eqi (f_mn ((f_fdg (a_F X) w s) + 1) 9) e_r_4 ?_
  refine q_eqi (f_fch (a_F X) w s) rfl ?_
  refine q_istore (lv' := [(5, .int (f_fch (a_F X) w s)), (4, .int (f_fdg (a_F X) w s)), (3, .int (f_md (a_F X) w)), (0, .ref (B 0)), (1, .int (nI w)), (2, .int s)]) K dX4_feels_26 (by decide) rfl ?_
  refine q_aload_n K 3 dX4_feels_28 rfl ?_
  refine q_iload_n K 4 dX4_feels_29 rfl ?_
  refine q_iconst 0 K dX4_feels_30 rfl ?_
  refine q_wI (q0 := 0) (As := [.int (nI w), .int 0]) (rest := []) K kv_X4_its (c_X4_its (k_l M) (k_Z M) B X D w 0 (by omega) (by omega)) rfl rfl ml_X4_62 rfl rfl (Nat.le_of_ble_eq_true rfl) ⟨Nat.le_of_ble_eq_true rfl, Nat.le_of_ble_eq_true rfl⟩ dX4_feels_31 (fun r_6 w2 h_5 => ?_)
  obtain ⟨e_r_6, rfl⟩ := h_5
  refine q_eqi (f_kd (a_F X) w) e_r_6 ?_
  by_cases c_7 : (f_kd (a_F X) w) = 1
  · refine q_tableIn (off := 38) 72 K dX4_feels_34 (by rw [c_7]; decide) (by rw [c_7]; decide) (by rw [c_7]; rfl) (by decide) ?_
    refine q_bipush 9 K dX4_feels_72 rfl ?_
    exact Rt _ _ 9 (w_M (k_Z M) B X D) dX4_feels_74 rfl (⟨by simp only [f_feels, if_pos c_7], rfl⟩)
  by_cases c_8 : (f_kd (a_F X) w) = 2
  · refine q_tableIn (off := 41) 75 K dX4_feels_34 (by rw [c_8]; decide) (by rw [c_8]; decide) (by rw [c_8]; rfl) (by decide) ?_
    refine q_iload K 1 dX4_feels_75 rfl ?_
    exact Rt _ _ (f_fdg (a_F X) w s) (w_M (k_Z M) B X D) dX4_feels_77 rfl (⟨by simp only [f_feels, if_neg c_7, if_pos c_8], rfl⟩)
  by_cases c_9 : (f_kd (a_F X) w) = 3
  · refine q_tableIn (off := 44) 78 K dX4_feels_34 (by rw [c_9]; decide) (by rw [c_9]; decide) (by rw [c_9]; rfl) (by decide) ?_
    refine q_iload K 0 dX4_feels_78 rfl ?_
    exact Rt _ _ (f_fch (a_F X) w s) (w_M (k_Z M) B X D) dX4_feels_80 rfl (⟨by simp only [f_feels, if_neg c_7, if_neg c_8, if_pos c_9], rfl⟩)
  by_cases c_10 : (f_kd (a_F X) w) = 4
  · refine q_tableIn (off := 47) 81 K dX4_feels_34 (by rw [c_10]; decide) (by rw [c_10]; decide) (by rw [c_10]; rfl) (by decide) ?_
    refine q_iload K 0 dX4_feels_81 rfl ?_
    refine q_iconst 2 K dX4_feels_83 rfl ?_
    refine q_idiv K dX4_feels_84 (by decide) ?_
    exact Rt _ _ ((f_fch (a_F X) w s) / 2) (w_M (k_Z M) B X D) dX4_feels_85 rfl (⟨by simp only [f_feels, if_neg c_7, if_neg c_8, if_neg c_9, if_pos c_10], rfl⟩)
  by_cases c_11 : (f_kd (a_F X) w) = 5
  · refine q_tableIn (off := 52) 86 K dX4_feels_34 (by rw [c_11]; decide) (by rw [c_11]; decide) (by rw [c_11]; rfl) (by decide) ?_
    refine q_iload_n K 2 dX4_feels_86 rfl ?_
    refine q_cuti (fun v9 : Int32 => v9 = (if (f_md (a_F X) w) = 0 then 0 else (f_md (a_F X) w) - 1)) 97 (st := []) (fun v_12 e_v_12 => ?_) (fun j_v_12 => ?_)
    · obtain ⟨a9, ha9, ea9⟩ := hok.1 w hw
      refine q_eqi (f_mx (f_md (a_F X) w - 1) 0) (e_v_12.trans (f_mean ha9 ea9)) ?_
      exact Rt _ _ (f_mx (f_md (a_F X) w - 1) 0) (w_M (k_Z M) B X D) dX4_feels_97 rfl (⟨by simp only [f_feels, e_v_12, if_neg c_7, if_neg c_8, if_neg c_9, if_neg c_10, if_pos c_11], rfl⟩)
    · refine q_if_ne 94 K dX4_feels_87 (by decide) (fun c_13 => ?_) (fun c_13 => ?_)
      · refine q_iload_n K 2 dX4_feels_94 rfl ?_
        refine q_iconst 1 K dX4_feels_95 rfl ?_
        refine q_isub K dX4_feels_96 ?_
        exact j_v_12 _ (if_neg c_13).symm
      · refine q_iconst 0 K dX4_feels_90 rfl ?_
        refine q_goto 97 K dX4_feels_91 (by decide) ?_
        exact j_v_12 _ (if_pos c_13).symm
  by_cases c_14 : (f_kd (a_F X) w) = 6
  · refine q_tableIn (off := 64) 98 K dX4_feels_34 (by rw [c_14]; decide) (by rw [c_14]; decide) (by rw [c_14]; rfl) (by decide) ?_
    refine q_bipush 9 K dX4_feels_98 rfl ?_
    refine q_iload_n K 5 dX4_feels_100 rfl ?_
    refine q_isub K dX4_feels_101 ?_
    exact Rt _ _ (9 - s) (w_M (k_Z M) B X D) dX4_feels_102 rfl (⟨by simp only [f_feels, if_neg c_7, if_neg c_8, if_neg c_9, if_neg c_10, if_neg c_11, if_pos c_14], rfl⟩)
  refine q_tableOut 103 K dX4_feels_34 (by have := lv_neT (a := 1) c_7 rfl; have := lv_neT (a := 2) c_8 rfl; have := lv_neT (a := 3) c_9 rfl; have := lv_neT (a := 4) c_10 rfl; have := lv_neT (a := 5) c_11 rfl; have := lv_neT (a := 6) c_14 rfl; omega) (by decide) ?_
  refine q_iload_n K 2 dX4_feels_103 rfl ?_
  exact Rt _ _ (f_md (a_F X) w) (w_M (k_Z M) B X D) dX4_feels_104 rfl (⟨by simp only [f_feels, if_neg c_7, if_neg c_8, if_neg c_9, if_neg c_10, if_neg c_11, if_neg c_14], rfl⟩)
theorem kv_X4_feels : k_iv yX4_feels cX4_feels 6 (some .int) 2 := ⟨⟨im_X4_feels, se_X4_feels⟩, in_X4, co_X4_feels, by decide +kernel⟩
set_option maxHeartbeats 4000000 in
set_option maxRecDepth 100000 in
theorem c_X4_goesFar (l : Launch) (Z : kz_Z) (B : Nat → Nat) (X : AS) (D : DJ) (w : Nat) (hw : w < 8) : KI l Z yX4_goesFar cX4_goesFar 3 .int 1 22 [.ref (B 0), .int (nI w)] (w_M Z B X D) (fun r w2 => r = f_goes (a_F X) w ∧ w2 = w_M Z B X D) := by
  refine ki_of (by decide) [(0, .ref (B 0)), (1, .int (nI w))] (Nat.le_of_ble_eq_true rfl) rfl ?_
  intro M e1 e2 K Rt
  subst e1 e2
  refine q_aload_n K 0 dX4_goesFar_0 rfl ?_
  refine q_iload_n K 1 dX4_goesFar_1 rfl ?_
  refine q_iconst 3 K dX4_goesFar_2 rfl ?_
  refine q_wI (q0 := 0) (As := [.int (nI w), .int 3]) (rest := []) K kv_X4_its (c_X4_its (k_l M) (k_Z M) B X D w 3 (by omega) (by omega)) rfl rfl ml_X4_62 rfl rfl (Nat.le_of_ble_eq_true rfl) ⟨Nat.le_of_ble_eq_true rfl, Nat.le_of_ble_eq_true rfl⟩ dX4_goesFar_3 (fun r_2 w2 h_1 => ?_)
  obtain ⟨e_r_2, rfl⟩ := h_1
  refine q_eqi (f_md (a_F X) w) e_r_2 ?_
  refine q_iconst 5 K dX4_goesFar_6 rfl ?_
  refine q_cuti (fun v9 : Int32 => v9 = (if (f_md (a_F X) w) < 5 then 1 else 3)) 15 (st := []) (fun v_3 e_v_3 => ?_) (fun j_v_3 => ?_)
  · refine q_eqi (f_gdg (a_F X) w) e_v_3 ?_
    refine q_istore_n (lv' := [(2, .int (f_gdg (a_F X) w)), (0, .ref (B 0)), (1, .int (nI w))]) K dX4_goesFar_15 (by decide) rfl ?_
    refine q_aload_n K 1 dX4_goesFar_16 rfl ?_
    refine q_iload_n K 2 dX4_goesFar_17 rfl ?_
    refine q_iconst 0 K dX4_goesFar_18 rfl ?_
    refine q_wI (q0 := 0) (As := [.int (nI w), .int 0]) (rest := []) K kv_X4_its (c_X4_its (k_l M) (k_Z M) B X D w 0 (by omega) (by omega)) rfl rfl ml_X4_62 rfl rfl (Nat.le_of_ble_eq_true rfl) ⟨Nat.le_of_ble_eq_true rfl, Nat.le_of_ble_eq_true rfl⟩ dX4_goesFar_19 (fun r_6 w2 h_5 => ?_)
    obtain ⟨e_r_6, rfl⟩ := h_5
    refine q_eqi (f_kd (a_F X) w) e_r_6 ?_
    by_cases c_7 : (f_kd (a_F X) w) = 1
    · refine q_tableIn (off := 38) 60 K dX4_goesFar_22 (by rw [c_7]; decide) (by rw [c_7]; decide) (by rw [c_7]; rfl) (by decide) ?_
      refine q_iconst 2 K dX4_goesFar_60 rfl ?_
      exact Rt _ _ 2 (w_M (k_Z M) B X D) dX4_goesFar_61 rfl (⟨by simp only [f_goes, e_v_3, if_pos c_7], rfl⟩)
    by_cases c_8 : (f_kd (a_F X) w) = 2
    · refine q_tableIn (off := 40) 62 K dX4_goesFar_22 (by rw [c_8]; decide) (by rw [c_8]; decide) (by rw [c_8]; rfl) (by decide) ?_
      refine q_iload_n K 0 dX4_goesFar_62 rfl ?_
      exact Rt _ _ (f_gdg (a_F X) w) (w_M (k_Z M) B X D) dX4_goesFar_63 rfl (⟨by simp only [f_goes, e_v_3, if_neg c_7, if_pos c_8], rfl⟩)
    by_cases c_9 : (f_kd (a_F X) w) = 3
    · refine q_tableIn (off := 42) 64 K dX4_goesFar_22 (by rw [c_9]; decide) (by rw [c_9]; decide) (by rw [c_9]; rfl) (by decide) ?_
      refine q_iload_n K 0 dX4_goesFar_64 rfl ?_
      refine q_iconst 1 K dX4_goesFar_65 rfl ?_
      refine q_isub K dX4_goesFar_66 ?_
      exact Rt _ _ ((f_gdg (a_F X) w) - 1) (w_M (k_Z M) B X D) dX4_goesFar_67 rfl (⟨by simp only [f_goes, e_v_3, if_neg c_7, if_neg c_8, if_pos c_9], rfl⟩)
    by_cases c_10 : (f_kd (a_F X) w) = 4
    · refine q_tableIn (off := 42) 64 K dX4_goesFar_22 (by rw [c_10]; decide) (by rw [c_10]; decide) (by rw [c_10]; rfl) (by decide) ?_
      refine q_iload_n K 0 dX4_goesFar_64 rfl ?_
      refine q_iconst 1 K dX4_goesFar_65 rfl ?_
      refine q_isub K dX4_goesFar_66 ?_
      exact Rt _ _ ((f_gdg (a_F X) w) - 1) (w_M (k_Z M) B X D) dX4_goesFar_67 rfl (⟨by simp only [f_goes, e_v_3, if_neg c_7, if_neg c_8, if_neg c_9, if_pos c_10], rfl⟩)
    by_cases c_11 : (f_kd (a_F X) w) = 6
    · refine q_tableIn (off := 38) 60 K dX4_goesFar_22 (by rw [c_11]; decide) (by rw [c_11]; decide) (by rw [c_11]; rfl) (by decide) ?_
      refine q_iconst 2 K dX4_goesFar_60 rfl ?_
      exact Rt _ _ 2 (w_M (k_Z M) B X D) dX4_goesFar_61 rfl (⟨by simp only [f_goes, e_v_3, if_neg c_7, if_neg c_8, if_neg c_9, if_neg c_10, if_pos c_11], rfl⟩)
    have j_12 : kJ M 3 68 [(2, .int (f_gdg (a_F X) w)), (0, .ref (B 0)), (1, .int (nI w))] [] (w_M (k_Z M) B X D) := by
      refine q_iconst 1 K dX4_goesFar_68 rfl ?_
      exact Rt _ _ 1 (w_M (k_Z M) B X D) dX4_goesFar_69 rfl (⟨by simp only [f_goes, e_v_3, if_neg c_7, if_neg c_8, if_neg c_9, if_neg c_10, if_neg c_11], rfl⟩)
    by_cases c_13 : (f_kd (a_F X) w) = 5
    · exact q_tableIn (off := 46) 68 K dX4_goesFar_22 (by rw [c_13]; decide) (by rw [c_13]; decide) (by rw [c_13]; rfl) (by decide) j_12
    exact q_tableOut 68 K dX4_goesFar_22 (by have := lv_neT (a := 1) c_7 rfl; have := lv_neT (a := 2) c_8 rfl; have := lv_neT (a := 3) c_9 rfl; have := lv_neT (a := 4) c_10 rfl; have := lv_neT (a := 6) c_11 rfl; have := lv_neT (a := 5) c_13 rfl; omega) (by decide) j_12
  · refine q_icmp_lt 14 K dX4_goesFar_7 (by decide) (fun c_4 => ?_) (fun c_4 => ?_)
    · refine q_iconst 1 K dX4_goesFar_14 rfl ?_
      exact j_v_3 _ (if_pos c_4).symm
    · refine q_iconst 3 K dX4_goesFar_10 rfl ?_
      refine q_goto 15 K dX4_goesFar_11 (by decide) ?_
      exact j_v_3 _ (if_neg c_4).symm
theorem kv_X4_goesFar : k_iv yX4_goesFar cX4_goesFar 3 (some .int) 1 := ⟨⟨im_X4_goesFar, se_X4_goesFar⟩, in_X4, co_X4_goesFar, by decide +kernel⟩
set_option maxHeartbeats 4000000 in
set_option maxRecDepth 100000 in
theorem c_X4_walks (l : Launch) (Z : kz_Z) (B : Nat → Nat) (X : AS) (D : DJ) (w : Nat) (hw : w < 8) (hok : f_ok (a_F X)) : KV l Z yX4_walks cX4_walks 7 2 47 [.ref (B 0), .int (nI w)] (w_M Z B X D) (fun w2 => w2 = w_M Z B (a_setF X (f_step (a_F X) w)) D) := by
  refine kv_of (by decide) [(0, .ref (B 0)), (1, .int (nI w))] (Nat.le_of_ble_eq_true rfl) rfl ?_
  intro M e1 e2 K Rt
  subst e1 e2
  refine q_aload_n K 0 dX4_walks_0 rfl ?_
  refine q_iload_n K 1 dX4_walks_1 rfl ?_
  refine q_iconst 1 K dX4_walks_2 rfl ?_
  refine q_wI (q0 := 0) (As := [.int (nI w), .int 1]) (rest := []) K kv_X4_its (c_X4_its (k_l M) (k_Z M) B X D w 1 (by omega) (by omega)) rfl rfl ml_X4_62 rfl rfl (Nat.le_of_ble_eq_true rfl) ⟨Nat.le_of_ble_eq_true rfl, Nat.le_of_ble_eq_true rfl⟩ dX4_walks_3 (fun r_2 w2 h_1 => ?_)
  obtain ⟨e_r_2, rfl⟩ := h_1
  refine q_eqi (f_fd (a_F X) w) e_r_2 ?_
  refine q_istore_n (lv' := [(2, .int (f_fd (a_F X) w)), (0, .ref (B 0)), (1, .int (nI w))]) K dX4_walks_6 (by decide) rfl ?_
  refine q_aload_n K 1 dX4_walks_7 rfl ?_
  refine q_iload_n K 2 dX4_walks_8 rfl ?_
  refine q_iconst 2 K dX4_walks_9 rfl ?_
  refine q_wI (q0 := 0) (As := [.int (nI w), .int 2]) (rest := []) K kv_X4_its (c_X4_its (k_l M) (k_Z M) B X D w 2 (by omega) (by omega)) rfl rfl ml_X4_62 rfl rfl (Nat.le_of_ble_eq_true rfl) ⟨Nat.le_of_ble_eq_true rfl, Nat.le_of_ble_eq_true rfl⟩ dX4_walks_10 (fun r_4 w2 h_3 => ?_)
  obtain ⟨e_r_4, rfl⟩ := h_3
  refine q_eqi (f_wy (a_F X) w) e_r_4 ?_
  refine q_istore_n (lv' := [(3, .int (f_wy (a_F X) w)), (2, .int (f_fd (a_F X) w)), (0, .ref (B 0)), (1, .int (nI w))]) K dX4_walks_13 (by decide) rfl ?_
  refine q_iload_n K 0 dX4_walks_14 rfl ?_
  refine q_cuti (fun v9 : Int32 => v9 = (if (f_wy (a_F X) w) = 0 then f_fd (a_F X) w else (f_fd (a_F X) w) - 1)) 25 (st := []) (fun v_5 e_v_5 => ?_) (fun j_v_5 => ?_)
  · refine q_eqi (f_gate (a_F X) w) e_v_5 ?_
    refine q_istore (lv' := [(4, .int (f_gate (a_F X) w)), (3, .int (f_wy (a_F X) w)), (2, .int (f_fd (a_F X) w)), (0, .ref (B 0)), (1, .int (nI w))]) K dX4_walks_25 (by decide) rfl ?_
    refine q_iload K 0 dX4_walks_27 rfl ?_
    refine q_cp (rest := []) K ks_X4_isGate (c_X4_isGate (k_l M) (k_Z M) (f_gate (a_F X) w)) ml_X4_68 rfl rfl (Nat.le_of_ble_eq_true rfl) ⟨Nat.le_of_ble_eq_true rfl, Nat.le_of_ble_eq_true rfl⟩ dX4_walks_29 (fun r_7 e_r_7 => ?_)
    refine q_if_ne 49 K dX4_walks_32 (by decide) (fun c_8 => ?_) (fun c_8 => ?_)
    · have c_8 : inR (f_gate (a_F X) w) 0 7 := (kn_ne e_r_7).mp c_8
      obtain ⟨g, hg, eg⟩ := kn_rng (n := 7) c_8 rfl
      rw [eg]
      refine q_aload_n K 3 dX4_walks_49 rfl ?_
      refine q_get (.ref (B 1)) K ws_X4 0 rfl rfl 0 (by decide) fl_X4_7 rfl dX4_walks_50 ?_
      refine q_bipush 13 K dX4_walks_53 rfl ?_
      refine q_iload K 0 dX4_walks_55 rfl ?_
      refine q_iadd K dX4_walks_57 ?_
      refine q_eqi (nI (13 + g)) (kn_add 13 g) ?_
      refine q_iald K 1 rfl (vp_in_nI (n := 13 + g) (N := 71) (by omega) (by omega)) dX4_walks_58 ?_
      refine q_eqi (f_gs (a_F X) g) (by rw [nI_clamp (n := 13 + g) (by omega)]; exact rw_gs _ (by omega)) ?_
      refine q_istore (lv' := [(5, .int (f_gs (a_F X) g)), (4, .int (nI g)), (3, .int (f_wy (a_F X) w)), (2, .int (f_fd (a_F X) w)), (0, .ref (B 0)), (1, .int (nI w))]) K dX4_walks_59 (by decide) rfl ?_
      refine q_aload_n K 4 dX4_walks_61 rfl ?_
      refine q_iload_n K 5 dX4_walks_62 rfl ?_
      refine q_iload K 0 dX4_walks_63 rfl ?_
      refine q_wI (q0 := 0) (As := [.int (nI w), .int (f_gs (a_F X) g)]) (rest := []) K kv_X4_feels (c_X4_feels (k_l M) (k_Z M) B X D w (by omega) (f_gs (a_F X) g) hok) rfl rfl ml_X4_105 rfl rfl (Nat.le_of_ble_eq_true rfl) ⟨Nat.le_of_ble_eq_true rfl, Nat.le_of_ble_eq_true rfl⟩ dX4_walks_65 (fun r_10 w2 h_9 => ?_)
      obtain ⟨e_r_10, rfl⟩ := h_9
      refine q_eqi (f_feels (a_F X) w (f_gs (a_F X) g)) e_r_10 ?_
      refine q_istore (lv' := [(6, .int (f_feels (a_F X) w (f_gs (a_F X) g))), (5, .int (f_gs (a_F X) g)), (4, .int (nI g)), (3, .int (f_wy (a_F X) w)), (2, .int (f_fd (a_F X) w)), (0, .ref (B 0)), (1, .int (nI w))]) K dX4_walks_68 (by decide) rfl ?_
      refine q_aload_n K 5 dX4_walks_70 rfl ?_
      refine q_get (.ref (B 1)) K ws_X4 0 rfl rfl 0 (by decide) fl_X4_7 rfl dX4_walks_71 ?_
      refine q_bipush 13 K dX4_walks_74 rfl ?_
      refine q_iload K 2 dX4_walks_76 rfl ?_
      refine q_iadd K dX4_walks_78 ?_
      refine q_eqi (nI (13 + g)) (kn_add 13 g) ?_
      refine q_aload_n K 5 dX4_walks_79 rfl ?_
      refine q_iload_n K 6 dX4_walks_80 rfl ?_
      refine q_iload K 1 dX4_walks_81 rfl ?_
      refine q_wI (q0 := 0) (As := [.int (nI w), .int (f_gs (a_F X) g)]) (rest := [.int (nI (13 + g)), .ref (B 1)]) K kv_X4_leavesIt (c_X4_leavesIt (k_l M) (k_Z M) B X D w (by omega) (f_gs (a_F X) g)) rfl rfl ml_X4_102 rfl rfl (Nat.le_of_ble_eq_true rfl) ⟨Nat.le_of_ble_eq_true rfl, Nat.le_of_ble_eq_true rfl⟩ dX4_walks_83 (fun r_12 w2 h_11 => ?_)
      obtain ⟨e_r_12, rfl⟩ := h_11
      refine q_eqi (f_leaves (a_F X) w (f_gs (a_F X) g)) e_r_12 ?_
      refine q_iast (ws' := w_M (k_Z M) B (f_setgs (a_F X) (upd (f_gs (a_F X)) g (f_leaves (a_F X) w (f_gs (a_F X) g))), a_K X, a_kp X, a_fd X, a_tp X, a_S X) D) K 1 rfl (vp_in_nI (n := 13 + g) (N := 71) (by omega) (by omega)) (by rw [nI_clamp (n := 13 + g) (by omega), up_gs _ (by omega) _]; rfl) dX4_walks_86 ?_
      refine q_aload_n K 5 dX4_walks_87 rfl ?_
      refine q_get (.ref (B 1)) K ws_X4 0 rfl rfl 0 (by decide) fl_X4_7 rfl dX4_walks_88 ?_
      refine q_iload_n K 6 dX4_walks_91 rfl ?_
      refine q_iconst 3 K dX4_walks_92 rfl ?_
      refine q_cp (rest := [.ref (B 1)]) K ks_X4_at (c_X4_at (k_l M) (k_Z M) w 3) ml_X4_76 rfl rfl (Nat.le_of_ble_eq_true rfl) ⟨Nat.le_of_ble_eq_true rfl, Nat.le_of_ble_eq_true rfl⟩ dX4_walks_93 (fun r_13 e_r_13 => ?_)
      refine q_eqi (nI ((21 + (5 * w)) + 3)) e_r_13 ?_
      refine q_iload K 0 dX4_walks_96 rfl ?_
      refine q_iast (ws' := w_M (k_Z M) B (f_setrow (f_setgs (a_F X) (upd (f_gs (a_F X)) g (f_leaves (a_F X) w (f_gs (a_F X) g)))) 3 (upd (f_row (f_setgs (a_F X) (upd (f_gs (a_F X)) g (f_leaves (a_F X) w (f_gs (a_F X) g)))) 3) w (f_feels (a_F X) w (f_gs (a_F X) g))), a_K X, a_kp X, a_fd X, a_tp X, a_S X) D) K 1 rfl (vp_in_nI (n := (21 + (5 * w)) + 3) (N := 71) (by omega) (by omega)) (by rw [nI_clamp (n := (21 + (5 * w)) + 3) (by omega), up_at _ (by omega) (by omega) _]; rfl) dX4_walks_98 ?_
      refine q_aload_n K 5 dX4_walks_99 rfl ?_
      refine q_get (.ref (B 1)) K ws_X4 0 rfl rfl 0 (by decide) fl_X4_7 rfl dX4_walks_100 ?_
      refine q_iload_n K 6 dX4_walks_103 rfl ?_
      refine q_iconst 1 K dX4_walks_104 rfl ?_
      refine q_cp (rest := [.ref (B 1)]) K ks_X4_at (c_X4_at (k_l M) (k_Z M) w 1) ml_X4_76 rfl rfl (Nat.le_of_ble_eq_true rfl) ⟨Nat.le_of_ble_eq_true rfl, Nat.le_of_ble_eq_true rfl⟩ dX4_walks_105 (fun r_14 e_r_14 => ?_)
      refine q_eqi (nI ((21 + (5 * w)) + 1)) e_r_14 ?_
      refine q_iload_n K 3 dX4_walks_108 rfl ?_
      refine q_cuti (fun v9 : Int32 => v9 = (if (f_wy (a_F X) w) = 0 then (f_fd (a_F X) w) + 1 else (f_fd (a_F X) w) - 1)) 121 (st := [.int (nI ((21 + (5 * w)) + 1)), .ref (B 1)]) (fun v_15 e_v_15 => ?_) (fun j_v_15 => ?_)
      · refine q_eqi (if f_wy (a_F X) w = 0 then nI (g + 1) else nI g) (e_v_15.trans (f_next eg)) ?_
        refine q_iast (ws' := w_M (k_Z M) B (f_setrow (f_setrow (f_setgs (a_F X) (upd (f_gs (a_F X)) g (f_leaves (a_F X) w (f_gs (a_F X) g)))) 3 (upd (f_row (f_setgs (a_F X) (upd (f_gs (a_F X)) g (f_leaves (a_F X) w (f_gs (a_F X) g)))) 3) w (f_feels (a_F X) w (f_gs (a_F X) g)))) 1 (upd (f_row (f_setrow (f_setgs (a_F X) (upd (f_gs (a_F X)) g (f_leaves (a_F X) w (f_gs (a_F X) g)))) 3 (upd (f_row (f_setgs (a_F X) (upd (f_gs (a_F X)) g (f_leaves (a_F X) w (f_gs (a_F X) g)))) 3) w (f_feels (a_F X) w (f_gs (a_F X) g)))) 1) w (if f_wy (a_F X) w = 0 then nI (g + 1) else nI g)), a_K X, a_kp X, a_fd X, a_tp X, a_S X) D) K 1 rfl (vp_in_nI (n := (21 + (5 * w)) + 1) (N := 71) (by omega) (by omega)) (by rw [nI_clamp (n := (21 + (5 * w)) + 1) (by omega), up_at _ (by omega) (by omega) _]; rfl) dX4_walks_121 ?_
        refine q_aload_n K 5 dX4_walks_122 rfl ?_
        refine q_get (.ref (B 1)) K ws_X4 0 rfl rfl 0 (by decide) fl_X4_7 rfl dX4_walks_123 ?_
        refine q_iload_n K 6 dX4_walks_126 rfl ?_
        refine q_iconst 4 K dX4_walks_127 rfl ?_
        refine q_cp (rest := [.ref (B 1)]) K ks_X4_at (c_X4_at (k_l M) (k_Z M) w 4) ml_X4_76 rfl rfl (Nat.le_of_ble_eq_true rfl) ⟨Nat.le_of_ble_eq_true rfl, Nat.le_of_ble_eq_true rfl⟩ dX4_walks_128 (fun r_17 e_r_17 => ?_)
        refine q_eqi (nI ((21 + (5 * w)) + 4)) e_r_17 ?_
        refine q_sipush 9999 K dX4_walks_131 rfl ?_
        refine q_aload_n K 5 dX4_walks_134 rfl ?_
        refine q_iload_n K 6 dX4_walks_135 rfl ?_
        refine q_iconst 4 K dX4_walks_136 rfl ?_
        refine q_wI (q0 := 0) (As := [.int (nI w), .int 4]) (rest := [.int 9999, .int (nI ((21 + (5 * w)) + 4)), .ref (B 1)]) K kv_X4_its (c_X4_its (k_l M) (k_Z M) B (f_setrow (f_setrow (f_setgs (a_F X) (upd (f_gs (a_F X)) g (f_leaves (a_F X) w (f_gs (a_F X) g)))) 3 (upd (f_row (f_setgs (a_F X) (upd (f_gs (a_F X)) g (f_leaves (a_F X) w (f_gs (a_F X) g)))) 3) w (f_feels (a_F X) w (f_gs (a_F X) g)))) 1 (upd (f_row (f_setrow (f_setgs (a_F X) (upd (f_gs (a_F X)) g (f_leaves (a_F X) w (f_gs (a_F X) g)))) 3 (upd (f_row (f_setgs (a_F X) (upd (f_gs (a_F X)) g (f_leaves (a_F X) w (f_gs (a_F X) g)))) 3) w (f_feels (a_F X) w (f_gs (a_F X) g)))) 1) w (if f_wy (a_F X) w = 0 then nI (g + 1) else nI g)), a_K X, a_kp X, a_fd X, a_tp X, a_S X) D w 4 (by omega) (by omega)) rfl rfl ml_X4_62 rfl rfl (Nat.le_of_ble_eq_true rfl) ⟨Nat.le_of_ble_eq_true rfl, Nat.le_of_ble_eq_true rfl⟩ dX4_walks_137 (fun r_19 w2 h_18 => ?_)
        obtain ⟨e_r_19, rfl⟩ := h_18
        refine q_eqi (f_ps (a_F X) w) e_r_19 ?_
        refine q_iconst 1 K dX4_walks_140 rfl ?_
        refine q_iadd K dX4_walks_141 ?_
        refine q_cp (rest := [.int (nI ((21 + (5 * w)) + 4)), .ref (B 1)]) K ks_X4_least (c_X4_least (k_l M) (k_Z M) 9999 ((f_ps (a_F X) w) + 1)) ml_X4_86 rfl rfl (Nat.le_of_ble_eq_true rfl) ⟨Nat.le_of_ble_eq_true rfl, Nat.le_of_ble_eq_true rfl⟩ dX4_walks_142 (fun r_20 e_r_20 => ?_)
        refine q_eqi (f_mn ((f_ps (a_F X) w) + 1) 9999) e_r_20 ?_
        refine q_iast (ws' := w_M (k_Z M) B (f_setrow (f_setrow (f_setrow (f_setgs (a_F X) (upd (f_gs (a_F X)) g (f_leaves (a_F X) w (f_gs (a_F X) g)))) 3 (upd (f_row (f_setgs (a_F X) (upd (f_gs (a_F X)) g (f_leaves (a_F X) w (f_gs (a_F X) g)))) 3) w (f_feels (a_F X) w (f_gs (a_F X) g)))) 1 (upd (f_row (f_setrow (f_setgs (a_F X) (upd (f_gs (a_F X)) g (f_leaves (a_F X) w (f_gs (a_F X) g)))) 3 (upd (f_row (f_setgs (a_F X) (upd (f_gs (a_F X)) g (f_leaves (a_F X) w (f_gs (a_F X) g)))) 3) w (f_feels (a_F X) w (f_gs (a_F X) g)))) 1) w (if f_wy (a_F X) w = 0 then nI (g + 1) else nI g))) 4 (upd (f_row (f_setrow (f_setrow (f_setgs (a_F X) (upd (f_gs (a_F X)) g (f_leaves (a_F X) w (f_gs (a_F X) g)))) 3 (upd (f_row (f_setgs (a_F X) (upd (f_gs (a_F X)) g (f_leaves (a_F X) w (f_gs (a_F X) g)))) 3) w (f_feels (a_F X) w (f_gs (a_F X) g)))) 1 (upd (f_row (f_setrow (f_setgs (a_F X) (upd (f_gs (a_F X)) g (f_leaves (a_F X) w (f_gs (a_F X) g)))) 3 (upd (f_row (f_setgs (a_F X) (upd (f_gs (a_F X)) g (f_leaves (a_F X) w (f_gs (a_F X) g)))) 3) w (f_feels (a_F X) w (f_gs (a_F X) g)))) 1) w (if f_wy (a_F X) w = 0 then nI (g + 1) else nI g))) 4) w (f_mn ((f_ps (a_F X) w) + 1) 9999)), a_K X, a_kp X, a_fd X, a_tp X, a_S X) D) K 1 rfl (vp_in_nI (n := (21 + (5 * w)) + 4) (N := 71) (by omega) (by omega)) (by rw [nI_clamp (n := (21 + (5 * w)) + 4) (by omega), up_at _ (by omega) (by omega) _]; rfl) dX4_walks_145 ?_
        exact Rt _ _ (w_M (k_Z M) B (f_setrow (f_setrow (f_setrow (f_setgs (a_F X) (upd (f_gs (a_F X)) g (f_leaves (a_F X) w (f_gs (a_F X) g)))) 3 (upd (f_row (f_setgs (a_F X) (upd (f_gs (a_F X)) g (f_leaves (a_F X) w (f_gs (a_F X) g)))) 3) w (f_feels (a_F X) w (f_gs (a_F X) g)))) 1 (upd (f_row (f_setrow (f_setgs (a_F X) (upd (f_gs (a_F X)) g (f_leaves (a_F X) w (f_gs (a_F X) g)))) 3 (upd (f_row (f_setgs (a_F X) (upd (f_gs (a_F X)) g (f_leaves (a_F X) w (f_gs (a_F X) g)))) 3) w (f_feels (a_F X) w (f_gs (a_F X) g)))) 1) w (if f_wy (a_F X) w = 0 then nI (g + 1) else nI g))) 4 (upd (f_row (f_setrow (f_setrow (f_setgs (a_F X) (upd (f_gs (a_F X)) g (f_leaves (a_F X) w (f_gs (a_F X) g)))) 3 (upd (f_row (f_setgs (a_F X) (upd (f_gs (a_F X)) g (f_leaves (a_F X) w (f_gs (a_F X) g)))) 3) w (f_feels (a_F X) w (f_gs (a_F X) g)))) 1 (upd (f_row (f_setrow (f_setgs (a_F X) (upd (f_gs (a_F X)) g (f_leaves (a_F X) w (f_gs (a_F X) g)))) 3 (upd (f_row (f_setgs (a_F X) (upd (f_gs (a_F X)) g (f_leaves (a_F X) w (f_gs (a_F X) g)))) 3) w (f_feels (a_F X) w (f_gs (a_F X) g)))) 1) w (if f_wy (a_F X) w = 0 then nI (g + 1) else nI g))) 4) w (f_mn ((f_ps (a_F X) w) + 1) 9999)), a_K X, a_kp X, a_fd X, a_tp X, a_S X) D) dX4_walks_146 (by rw [f_step_go (by omega) c_8 eg]; rfl)
      · refine q_if_ne 118 K dX4_walks_109 (by decide) (fun c_16 => ?_) (fun c_16 => ?_)
        · refine q_iload_n K 4 dX4_walks_118 rfl ?_
          refine q_iconst 1 K dX4_walks_119 rfl ?_
          refine q_isub K dX4_walks_120 ?_
          exact j_v_15 _ (if_neg c_16).symm
        · refine q_iload_n K 4 dX4_walks_112 rfl ?_
          refine q_iconst 1 K dX4_walks_113 rfl ?_
          refine q_iadd K dX4_walks_114 ?_
          refine q_goto 121 K dX4_walks_115 (by decide) ?_
          exact j_v_15 _ (if_pos c_16).symm
    · have c_8 : ¬ (inR (f_gate (a_F X) w) 0 7) := (kn_eq e_r_7).mp c_8
      refine q_aload_n K 3 dX4_walks_35 rfl ?_
      refine q_get (.ref (B 1)) K ws_X4 0 rfl rfl 0 (by decide) fl_X4_7 rfl dX4_walks_36 ?_
      refine q_iload_n K 4 dX4_walks_39 rfl ?_
      refine q_iconst 2 K dX4_walks_40 rfl ?_
      refine q_cp (rest := [.ref (B 1)]) K ks_X4_at (c_X4_at (k_l M) (k_Z M) w 2) ml_X4_76 rfl rfl (Nat.le_of_ble_eq_true rfl) ⟨Nat.le_of_ble_eq_true rfl, Nat.le_of_ble_eq_true rfl⟩ dX4_walks_41 (fun r_21 e_r_21 => ?_)
      refine q_eqi (nI ((21 + (5 * w)) + 2)) e_r_21 ?_
      refine q_iconst 1 K dX4_walks_44 rfl ?_
      refine q_iload_n K 1 dX4_walks_45 rfl ?_
      refine q_isub K dX4_walks_46 ?_
      refine q_iast (ws' := w_M (k_Z M) B (f_setrow (a_F X) 2 (upd (f_row (a_F X) 2) w (1 - (f_wy (a_F X) w))), a_K X, a_kp X, a_fd X, a_tp X, a_S X) D) K 1 rfl (vp_in_nI (n := (21 + (5 * w)) + 2) (N := 71) (by omega) (by omega)) (by rw [nI_clamp (n := (21 + (5 * w)) + 2) (by omega), up_at _ (by omega) (by omega) _]; rfl) dX4_walks_47 ?_
      exact Rt _ _ (w_M (k_Z M) B (f_setrow (a_F X) 2 (upd (f_row (a_F X) 2) w (1 - (f_wy (a_F X) w))), a_K X, a_kp X, a_fd X, a_tp X, a_S X) D) dX4_walks_48 (by rw [f_step_turn c_8]; rfl)
  · refine q_if_ne 22 K dX4_walks_15 (by decide) (fun c_6 => ?_) (fun c_6 => ?_)
    · refine q_iload_n K 1 dX4_walks_22 rfl ?_
      refine q_iconst 1 K dX4_walks_23 rfl ?_
      refine q_isub K dX4_walks_24 ?_
      exact j_v_5 _ (if_neg c_6).symm
    · refine q_iload_n K 1 dX4_walks_18 rfl ?_
      refine q_goto 25 K dX4_walks_19 (by decide) ?_
      exact j_v_5 _ (if_pos c_6).symm
theorem kv_X4_walks : k_iv yX4_walks cX4_walks 7 none 1 := ⟨⟨im_X4_walks, se_X4_walks⟩, in_X4, co_X4_walks, by decide +kernel⟩
