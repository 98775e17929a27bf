set_option maxHeartbeats 4000000 in
set_option maxRecDepth 100000 in
theorem c_X4_walkerHere (l : Launch) (Z : kz_Z) (B : Nat → Nat) (X : AS) (D : DJ) (hq : (a_tp X).2 ≤ 120) (hin : d_in (a_tp X) D) (m : Nat) (hm : m ≤ 8) (hm2 : f_wk (a_F X) = nI m) (kind : Int32) : KI l Z yX4_walkerHere cX4_walkerHere 3 .boolean 3 69 [.ref (B 0), .int kind] (w_M Z B X D) (fun r w2 => t_res Z B X (i_walker (a_tp X) kind (a_F X) D) r w2) := by
  refine ki_of (by decide) [(0, .ref (B 0)), (1, .int kind)] (Nat.le_of_ble_eq_true rfl) rfl ?_
  intro M e1 e2 K Rt
  subst e1 e2
  refine q_aload_n K 0 dX4_walkerHere_0 rfl ?_
  refine q_get (.ref (B 1)) K ws_X4 0 rfl rfl 0 (by decide) fl_X4_7 rfl dX4_walkerHere_1 ?_
  refine q_iconst 0 K dX4_walkerHere_4 rfl ?_
  refine q_iald K 1 rfl (vp_in_nI (n := 0) (N := 71) (by omega) (by omega)) dX4_walkerHere_5 ?_
  refine q_eqi (f_wk (a_F X)) rfl ?_
  refine q_eqi (nI m) hm2 ?_
  refine q_bipush 8 K dX4_walkerHere_6 rfl ?_
  refine q_icmp_ne 16 K dX4_walkerHere_8 (by decide) (fun c_1 => ?_) (fun c_1 => ?_)
  · have c_1n : ¬ (m = 8) := fun h9 => c_1 ((nI_eq (a := m) (b := 8) (by omega) (by omega)).mpr h9)
    refine q_aload_n K 0 dX4_walkerHere_16 rfl ?_
    refine q_iload_n K 1 dX4_walkerHere_17 rfl ?_
    refine q_iconst 0 K dX4_walkerHere_18 rfl ?_
    refine q_wV (q0 := 0) (As := [.int kind, .int 0]) (rest := []) K kv_X4_comes (c_X4_comes (k_l M) (k_Z M) B X D m (by omega) hm2 kind 0) rfl rfl ml_X4_82 rfl rfl (Nat.le_of_ble_eq_true rfl) ⟨Nat.le_of_ble_eq_true rfl, Nat.le_of_ble_eq_true rfl⟩ dX4_walkerHere_19 (fun w2 h_2 => ?_)
    obtain rfl := h_2
    refine q_ws (ws' := w_M (k_Z M) B (f_add (a_F X) kind 0 m, a_K X, a_kp X, a_fd X, a_tp X, a_S X) D) rfl ?_
    refine q_aload_n K 0 dX4_walkerHere_22 rfl ?_
    refine q_get (.ref (B 1)) K ws_X4 0 rfl rfl 0 (by decide) fl_X4_7 rfl dX4_walkerHere_23 ?_
    refine q_iconst 0 K dX4_walkerHere_26 rfl ?_
    refine q_iald K 1 rfl (vp_in_nI (n := 0) (N := 71) (by omega) (by omega)) dX4_walkerHere_27 ?_
    refine q_eqi (f_wk (f_add (a_F X) kind 0 m)) rfl ?_
    refine q_iconst 1 K dX4_walkerHere_28 rfl ?_
    refine q_isub K dX4_walkerHere_29 ?_
    refine q_eqi (nI m) (nI_pred m) ?_
    refine q_istore_n (lv' := [(2, .int (nI m)), (0, .ref (B 0)), (1, .int kind)]) K dX4_walkerHere_30 (by decide) rfl ?_
    refine q_aload_n K 1 dX4_walkerHere_31 rfl ?_
    obtain ⟨i_5, hi_5, ei_5⟩ := hin
    refine q_wV (q0 := 0) (As := []) (rest := []) K kv_X4_nextToken (c_X4_nextToken (k_l M) (k_Z M) B (f_add (a_F X) kind 0 m, a_K X, a_kp X, a_fd X, a_tp X, a_S X) D hq i_5 hi_5 ei_5) rfl rfl ml_X4_242 rfl rfl (Nat.le_of_ble_eq_true rfl) ⟨Nat.le_of_ble_eq_true rfl, Nat.le_of_ble_eq_true rfl⟩ dX4_walkerHere_32 (fun w2 h_4 => ?_)
    obtain rfl := h_4
    refine q_ws (ws' := w_M (k_Z M) B (f_add (a_F X) kind 0 m, a_K X, a_kp X, a_fd X, a_tp X, a_S X) (p_nx (a_tp X) D)) (congrArg (w_M (k_Z M) B (f_add (a_F X) kind 0 m, a_K X, a_kp X, a_fd X, a_tp X, a_S X)) (p_nx_eq (p := a_tp X) (by omega) ei_5)) ?_
    have hin_6 : d_in (a_tp X) (p_nx (a_tp X) D) := p_nx_in hq ⟨i_5, hi_5, ei_5⟩
    have hfe_7 : d_fe (a_tp X) (p_nx (a_tp X) D) := p_nx_fe hq ⟨i_5, hi_5, ei_5⟩
    have J135 : ∀ (F1 : FS) (D1 : DJ), d_fe (a_tp X) D1 → i_walker (a_tp X) kind (a_F X) D = i_mood (a_tp X) m F1 D1 → kJ M 3 135 [(2, .int (nI m)), (0, .ref (B 0)), (1, .int kind)] [] (w_M (k_Z M) B (F1, a_K X, a_kp X, a_fd X, a_tp X, a_S X) D1) := by
      intro F1 D1 hfe1 eT
      obtain ⟨f, e, hfr, hto, hfe, he9⟩ := id hfe1
      have he : e ≤ 121 := by omega
      refine q_aload_n K 1 dX4_walkerHere_135 rfl ?_
      refine q_bipush 109 K dX4_walkerHere_136 rfl ?_
      refine q_bipush 111 K dX4_walkerHere_138 rfl ?_
      refine q_bipush 111 K dX4_walkerHere_140 rfl ?_
      refine q_bipush 100 K dX4_walkerHere_142 rfl ?_
      refine q_wI (q0 := 0) (As := [.int 109, .int 111, .int 111, .int 100]) (rest := []) K kv_X4_isFour (c_X4_isFour (k_l M) (k_Z M) B (F1, a_K X, a_kp X, a_fd X, a_tp X, a_S X) D1 hq f e hfr hto hfe he 109 111 111 100) rfl rfl ml_X4_239 rfl rfl (Nat.le_of_ble_eq_true rfl) ⟨Nat.le_of_ble_eq_true rfl, Nat.le_of_ble_eq_true rfl⟩ dX4_walkerHere_144 (fun r_9 w2 h_8 => ?_)
      obtain ⟨e_r_9, rfl⟩ := h_8
      refine q_if_eq 184 K dX4_walkerHere_147 (by decide) (fun c_10 => ?_) (fun c_10 => ?_)
      · have c_10 : ¬ (p_wd D1 f e 4 ∧ p_w3 (a_tp X) f 0 109 111 111 ∧ p_w3 (a_tp X) f 1 111 111 100) := (kn_eq e_r_9).mp c_10
        have hw15 : ¬ t_w (a_tp X) D1 15 := (fun h9 => c_10 (wf_15.mpr ((t_w_fe hfr hto hfe he).mp h9)))
        refine q_iconst 1 K dX4_walkerHere_184 rfl ?_
        exact Rt _ _ 1 (w_M (k_Z M) B (F1, a_K X, a_kp X, a_fd X, a_tp X, a_S X) D1) dX4_walkerHere_185 rfl (t_res_t (eT.trans (i_mood_n hw15)))
      · have c_10 : p_wd D1 f e 4 ∧ p_w3 (a_tp X) f 0 109 111 111 ∧ p_w3 (a_tp X) f 1 111 111 100 := (kn_ne e_r_9).mp c_10
        have hw15 := ((t_w_fe hfr hto hfe he).mpr (wf_15.mp c_10))
        refine q_aload_n K 1 dX4_walkerHere_150 rfl ?_
        obtain ⟨i_12, hi_12, ei_12⟩ := (d_fe_in hfe1)
        refine q_wV (q0 := 0) (As := []) (rest := []) K kv_X4_nextToken (c_X4_nextToken (k_l M) (k_Z M) B (F1, a_K X, a_kp X, a_fd X, a_tp X, a_S X) D1 hq i_12 hi_12 ei_12) rfl rfl ml_X4_242 rfl rfl (Nat.le_of_ble_eq_true rfl) ⟨Nat.le_of_ble_eq_true rfl, Nat.le_of_ble_eq_true rfl⟩ dX4_walkerHere_151 (fun w2 h_11 => ?_)
        obtain rfl := h_11
        refine q_ws (ws' := w_M (k_Z M) B (F1, a_K X, a_kp X, a_fd X, a_tp X, a_S X) (p_nx (a_tp X) D1)) (congrArg (w_M (k_Z M) B (F1, a_K X, a_kp X, a_fd X, a_tp X, a_S X)) (p_nx_eq (p := a_tp X) (by omega) ei_12)) ?_
        have hin_13 : d_in (a_tp X) (p_nx (a_tp X) D1) := p_nx_in hq ⟨i_12, hi_12, ei_12⟩
        have hfe_14 : d_fe (a_tp X) (p_nx (a_tp X) D1) := p_nx_fe hq ⟨i_12, hi_12, ei_12⟩
        refine q_aload_n K 1 dX4_walkerHere_154 rfl ?_
        refine q_iconst 0 K dX4_walkerHere_155 rfl ?_
        refine q_bipush 9 K dX4_walkerHere_156 rfl ?_
        refine q_wI (q0 := 0) (As := [.int 0, .int 9]) (rest := []) K kv_X4_isNumber (c_X4_isNumber (k_l M) (k_Z M) B (F1, a_K X, a_kp X, a_fd X, a_tp X, a_S X) (p_nx (a_tp X) D1) 0 9) rfl rfl ml_X4_245 rfl rfl (Nat.le_of_ble_eq_true rfl) ⟨Nat.le_of_ble_eq_true rfl, Nat.le_of_ble_eq_true rfl⟩ dX4_walkerHere_158 (fun r_16 w2 h_15 => ?_)
        rcases h_15 with ⟨t_r_16, v_r_16, e_r_16, rfl⟩ | ⟨n_r_16, e_r_16, rfl⟩
        · refine q_eqi 1 e_r_16 ?_
          refine q_if_ne 166 K dX4_walkerHere_161 (by decide) (fun c_0 => ?_) (fun c_0 => absurd c_0 (by decide))
          refine q_aload_n K 1 dX4_walkerHere_166 rfl ?_
          refine q_get (.ref (B 1)) K ws_X4 0 rfl rfl 0 (by decide) fl_X4_7 rfl dX4_walkerHere_167 ?_
          refine q_iload_n K 0 dX4_walkerHere_170 rfl ?_
          refine q_iconst 3 K dX4_walkerHere_171 rfl ?_
          refine q_cp (rest := [.ref (B 1)]) K ks_X4_at (c_X4_at (k_l M) (k_Z M) m 3) ml_X4_76 rfl rfl (Nat.le_of_ble_eq_true rfl) ⟨Nat.le_of_ble_eq_true rfl, Nat.le_of_ble_eq_true rfl⟩ dX4_walkerHere_172 (fun r_17 e_r_17 => ?_)
          refine q_eqi (nI ((21 + (5 * m)) + 3)) e_r_17 ?_
          refine q_aload_n K 1 dX4_walkerHere_175 rfl ?_
          refine q_get (.int (d_vl (p_nx (a_tp X) D1))) K ws_X4 0 rfl rfl 15 (by decide) fl_X4_215 rfl dX4_walkerHere_176 ?_
          refine q_iast (ws' := w_M (k_Z M) B (f_setrow F1 3 (upd (f_row F1 3) m (d_vl (p_nx (a_tp X) D1))), a_K X, a_kp X, a_fd X, a_tp X, a_S X) (p_nx (a_tp X) D1)) K 1 rfl (vp_in_nI (n := (21 + (5 * m)) + 3) (N := 71) (by omega) (by omega)) (by rw [nI_clamp (n := (21 + (5 * m)) + 3) (by omega), up_at _ (by omega) (by omega) _]; rfl) dX4_walkerHere_179 ?_
          refine q_aload_n K 1 dX4_walkerHere_180 rfl ?_
          obtain ⟨i_19, hi_19, ei_19⟩ := hin_13
          refine q_wV (q0 := 0) (As := []) (rest := []) K kv_X4_nextToken (c_X4_nextToken (k_l M) (k_Z M) B (f_setrow F1 3 (upd (f_row F1 3) m (d_vl (p_nx (a_tp X) D1))), a_K X, a_kp X, a_fd X, a_tp X, a_S X) (p_nx (a_tp X) D1) hq i_19 hi_19 ei_19) rfl rfl ml_X4_242 rfl rfl (Nat.le_of_ble_eq_true rfl) ⟨Nat.le_of_ble_eq_true rfl, Nat.le_of_ble_eq_true rfl⟩ dX4_walkerHere_181 (fun w2 h_18 => ?_)
          obtain rfl := h_18
          refine q_ws (ws' := w_M (k_Z M) B (f_setrow F1 3 (upd (f_row F1 3) m (d_vl (p_nx (a_tp X) D1))), a_K X, a_kp X, a_fd X, a_tp X, a_S X) (p_nx (a_tp X) (p_nx (a_tp X) D1))) (congrArg (w_M (k_Z M) B (f_setrow F1 3 (upd (f_row F1 3) m (d_vl (p_nx (a_tp X) D1))), a_K X, a_kp X, a_fd X, a_tp X, a_S X)) (p_nx_eq (p := a_tp X) (by omega) ei_19)) ?_
          have hin_20 : d_in (a_tp X) (p_nx (a_tp X) (p_nx (a_tp X) D1)) := p_nx_in hq ⟨i_19, hi_19, ei_19⟩
          have hfe_21 : d_fe (a_tp X) (p_nx (a_tp X) (p_nx (a_tp X) D1)) := p_nx_fe hq ⟨i_19, hi_19, ei_19⟩
          refine q_iconst 1 K dX4_walkerHere_184 rfl ?_
          exact Rt _ _ 1 (w_M (k_Z M) B (f_setrow F1 3 (upd (f_row F1 3) m (d_vl (p_nx (a_tp X) D1))), a_K X, a_kp X, a_fd X, a_tp X, a_S X) (p_nx (a_tp X) (p_nx (a_tp X) D1))) dX4_walkerHere_185 rfl (t_res_t (eT.trans (i_mood_y hw15 ⟨t_r_16, v_r_16⟩)))
        · refine q_eqi 0 e_r_16 ?_
          refine q_if_ne 166 K dX4_walkerHere_161 (by decide) (fun c_0 => absurd c_0 (by decide)) (fun c_0 => ?_)
          refine q_iconst 0 K dX4_walkerHere_164 rfl ?_
          exact Rt _ _ 0 (w_M (k_Z M) B (F1, a_K X, a_kp X, a_fd X, a_tp X, a_S X) (d_setfa (p_nx (a_tp X) D1) (d_fr (p_nx (a_tp X) D1)))) dX4_walkerHere_165 rfl (t_res_f (eT.trans (i_mood_b hw15 n_r_16)))
    have J105 : ∀ (F1 : FS) (D1 : DJ), d_fe (a_tp X) D1 → i_walker (a_tp X) kind (a_F X) D = i_mood (a_tp X) m (i_back (a_tp X) m F1 D1).1 (i_back (a_tp X) m F1 D1).2 → kJ M 3 105 [(2, .int (nI m)), (0, .ref (B 0)), (1, .int kind)] [] (w_M (k_Z M) B (F1, a_K X, a_kp X, a_fd X, a_tp X, a_S X) D1) := by
      intro F1 D1 hfe1 eT
      obtain ⟨f, e, hfr, hto, hfe, he9⟩ := id hfe1
      have he : e ≤ 121 := by omega
      refine q_aload_n K 1 dX4_walkerHere_105 rfl ?_
      refine q_bipush 98 K dX4_walkerHere_106 rfl ?_
      refine q_bipush 97 K dX4_walkerHere_108 rfl ?_
      refine q_bipush 99 K dX4_walkerHere_110 rfl ?_
      refine q_bipush 107 K dX4_walkerHere_112 rfl ?_
      refine q_wI (q0 := 0) (As := [.int 98, .int 97, .int 99, .int 107]) (rest := []) K kv_X4_isFour (c_X4_isFour (k_l M) (k_Z M) B (F1, a_K X, a_kp X, a_fd X, a_tp X, a_S X) D1 hq f e hfr hto hfe he 98 97 99 107) rfl rfl ml_X4_239 rfl rfl (Nat.le_of_ble_eq_true rfl) ⟨Nat.le_of_ble_eq_true rfl, Nat.le_of_ble_eq_true rfl⟩ dX4_walkerHere_114 (fun r_23 w2 h_22 => ?_)
      obtain ⟨e_r_23, rfl⟩ := h_22
      refine q_if_eq 135 K dX4_walkerHere_117 (by decide) (fun c_24 => ?_) (fun c_24 => ?_)
      · have c_24 : ¬ (p_wd D1 f e 4 ∧ p_w3 (a_tp X) f 0 98 97 99 ∧ p_w3 (a_tp X) f 1 97 99 107) := (kn_eq e_r_23).mp c_24
        exact J135 F1 D1 hfe1 (eT.trans (i_back_n (fun h9 => c_24 (wf_14.mpr ((t_w_fe hfr hto hfe he).mp h9)))))
      · have c_24 : p_wd D1 f e 4 ∧ p_w3 (a_tp X) f 0 98 97 99 ∧ p_w3 (a_tp X) f 1 97 99 107 := (kn_ne e_r_23).mp c_24
        refine q_aload_n K 1 dX4_walkerHere_120 rfl ?_
        refine q_get (.ref (B 1)) K ws_X4 0 rfl rfl 0 (by decide) fl_X4_7 rfl dX4_walkerHere_121 ?_
        refine q_iload_n K 0 dX4_walkerHere_124 rfl ?_
        refine q_iconst 2 K dX4_walkerHere_125 rfl ?_
        refine q_cp (rest := [.ref (B 1)]) K ks_X4_at (c_X4_at (k_l M) (k_Z M) m 2) ml_X4_76 rfl rfl (Nat.le_of_ble_eq_true rfl) ⟨Nat.le_of_ble_eq_true rfl, Nat.le_of_ble_eq_true rfl⟩ dX4_walkerHere_126 (fun r_25 e_r_25 => ?_)
        refine q_eqi (nI ((21 + (5 * m)) + 2)) e_r_25 ?_
        refine q_iconst 1 K dX4_walkerHere_129 rfl ?_
        refine q_iast (ws' := w_M (k_Z M) B (f_setrow F1 2 (upd (f_row F1 2) m 1), a_K X, a_kp X, a_fd X, a_tp X, a_S X) D1) K 1 rfl (vp_in_nI (n := (21 + (5 * m)) + 2) (N := 71) (by omega) (by omega)) (by rw [nI_clamp (n := (21 + (5 * m)) + 2) (by omega), up_at _ (by omega) (by omega) _]; rfl) dX4_walkerHere_130 ?_
        refine q_aload_n K 1 dX4_walkerHere_131 rfl ?_
        obtain ⟨i_27, hi_27, ei_27⟩ := (d_fe_in hfe1)
        refine q_wV (q0 := 0) (As := []) (rest := []) K kv_X4_nextToken (c_X4_nextToken (k_l M) (k_Z M) B (f_setrow F1 2 (upd (f_row F1 2) m 1), a_K X, a_kp X, a_fd X, a_tp X, a_S X) D1 hq i_27 hi_27 ei_27) rfl rfl ml_X4_242 rfl rfl (Nat.le_of_ble_eq_true rfl) ⟨Nat.le_of_ble_eq_true rfl, Nat.le_of_ble_eq_true rfl⟩ dX4_walkerHere_132 (fun w2 h_26 => ?_)
        obtain rfl := h_26
        refine q_ws (ws' := w_M (k_Z M) B (f_setrow F1 2 (upd (f_row F1 2) m 1), a_K X, a_kp X, a_fd X, a_tp X, a_S X) (p_nx (a_tp X) D1)) (congrArg (w_M (k_Z M) B (f_setrow F1 2 (upd (f_row F1 2) m 1), a_K X, a_kp X, a_fd X, a_tp X, a_S X)) (p_nx_eq (p := a_tp X) (by omega) ei_27)) ?_
        have hin_28 : d_in (a_tp X) (p_nx (a_tp X) D1) := p_nx_in hq ⟨i_27, hi_27, ei_27⟩
        have hfe_29 : d_fe (a_tp X) (p_nx (a_tp X) D1) := p_nx_fe hq ⟨i_27, hi_27, ei_27⟩
        exact J135 (f_setrow F1 2 (upd (f_row F1 2) m 1)) (p_nx (a_tp X) D1) hfe_29 (eT.trans (i_back_y ((t_w_fe hfr hto hfe he).mpr (wf_14.mp c_24))))
    obtain ⟨f, e, hfr, hto, hfe, he9⟩ := id hfe_7
    have he : e ≤ 121 := by omega
    refine q_aload_n K 1 dX4_walkerHere_35 rfl ?_
    refine q_iconst 2 K dX4_walkerHere_36 rfl ?_
    refine q_wI (q0 := 0) (As := [.int 2]) (rest := []) K kv_X4_isWord (c_X4_isWord (k_l M) (k_Z M) B (f_add (a_F X) kind 0 m, a_K X, a_kp X, a_fd X, a_tp X, a_S X) (p_nx (a_tp X) D) hq f e hfr hto hfe he 2 (by omega)) rfl rfl ml_X4_221 rfl rfl (Nat.le_of_ble_eq_true rfl) ⟨Nat.le_of_ble_eq_true rfl, Nat.le_of_ble_eq_true rfl⟩ dX4_walkerHere_37 (fun r_31 w2 h_30 => ?_)
    obtain ⟨e_r_31, rfl⟩ := h_30
    refine q_if_eq 105 K dX4_walkerHere_40 (by decide) (fun c_32 => ?_) (fun c_32 => ?_)
    · have c_32 : ¬ (p_wd (p_nx (a_tp X) D) f e 2) := (kn_eq e_r_31).mp c_32
      exact J105 (f_add (a_F X) kind 0 m) (p_nx (a_tp X) D) hfe_7 (i_walker_go (by omega) hm2 (by omega) (fun h9 => c_32 (wf_13.mpr ((t_w_fe hfr hto hfe he).mp h9)).1))
    · have c_32 : p_wd (p_nx (a_tp X) D) f e 2 := (kn_ne e_r_31).mp c_32
      refine q_aload_n K 1 dX4_walkerHere_43 rfl ?_
      refine q_aload_n K 1 dX4_walkerHere_44 rfl ?_
      refine q_get (.int (d_fr (p_nx (a_tp X) D))) K ws_X4 0 rfl rfl 13 (by decide) fl_X4_200 rfl dX4_walkerHere_45 ?_
      refine q_eqi (nI f) hfr ?_
      refine q_wI (q0 := 0) (As := [.int (nI f)]) (rest := []) K kv_X4_byteAt (c_X4_byteAt (k_l M) (k_Z M) B (f_add (a_F X) kind 0 m, a_K X, a_kp X, a_fd X, a_tp X, a_S X) (p_nx (a_tp X) D) hq f (by omega)) rfl rfl ml_X4_203 rfl rfl (Nat.le_of_ble_eq_true rfl) ⟨Nat.le_of_ble_eq_true rfl, Nat.le_of_ble_eq_true rfl⟩ dX4_walkerHere_48 (fun r_34 w2 h_33 => ?_)
      obtain ⟨e_r_34, rfl⟩ := h_33
      refine q_eqi (p_at (a_tp X) f) e_r_34 ?_
      refine q_bipush 105 K dX4_walkerHere_51 rfl ?_
      refine q_icmp_ne 105 K dX4_walkerHere_53 (by decide) (fun c_35 => ?_) (fun c_35 => ?_)
      · exact J105 (f_add (a_F X) kind 0 m) (p_nx (a_tp X) D) hfe_7 (i_walker_go (by omega) hm2 (by omega) (fun h9 => c_35 (wf_13.mpr ((t_w_fe hfr hto hfe he).mp h9)).2.1))
      · refine q_aload_n K 1 dX4_walkerHere_56 rfl ?_
        refine q_aload_n K 1 dX4_walkerHere_57 rfl ?_
        refine q_get (.int (d_fr (p_nx (a_tp X) D))) K ws_X4 0 rfl rfl 13 (by decide) fl_X4_200 rfl dX4_walkerHere_58 ?_
        refine q_eqi (nI f) hfr ?_
        refine q_iconst 1 K dX4_walkerHere_61 rfl ?_
        refine q_iadd K dX4_walkerHere_62 ?_
        refine q_eqi (nI (f + 1)) (kn_add f 1) ?_
        refine q_wI (q0 := 0) (As := [.int (nI (f + 1))]) (rest := []) K kv_X4_byteAt (c_X4_byteAt (k_l M) (k_Z M) B (f_add (a_F X) kind 0 m, a_K X, a_kp X, a_fd X, a_tp X, a_S X) (p_nx (a_tp X) D) hq (f + 1) (by omega)) rfl rfl ml_X4_203 rfl rfl (Nat.le_of_ble_eq_true rfl) ⟨Nat.le_of_ble_eq_true rfl, Nat.le_of_ble_eq_true rfl⟩ dX4_walkerHere_63 (fun r_37 w2 h_36 => ?_)
        obtain ⟨e_r_37, rfl⟩ := h_36
        refine q_eqi (p_at (a_tp X) (f + 1)) e_r_37 ?_
        refine q_bipush 110 K dX4_walkerHere_66 rfl ?_
        refine q_icmp_ne 105 K dX4_walkerHere_68 (by decide) (fun c_38 => ?_) (fun c_38 => ?_)
        · exact J105 (f_add (a_F X) kind 0 m) (p_nx (a_tp X) D) hfe_7 (i_walker_go (by omega) hm2 (by omega) (fun h9 => c_38 (wf_13.mpr ((t_w_fe hfr hto hfe he).mp h9)).2.2))
        · have hw13 : t_w (a_tp X) (p_nx (a_tp X) D) 13 := (t_w_fe hfr hto hfe he).mpr (wf_13.mp ⟨c_32, c_35, c_38⟩)
          refine q_aload_n K 1 dX4_walkerHere_71 rfl ?_
          obtain ⟨i_40, hi_40, ei_40⟩ := hin_6
          refine q_wV (q0 := 0) (As := []) (rest := []) K kv_X4_nextToken (c_X4_nextToken (k_l M) (k_Z M) B (f_add (a_F X) kind 0 m, a_K X, a_kp X, a_fd X, a_tp X, a_S X) (p_nx (a_tp X) D) hq i_40 hi_40 ei_40) rfl rfl ml_X4_242 rfl rfl (Nat.le_of_ble_eq_true rfl) ⟨Nat.le_of_ble_eq_true rfl, Nat.le_of_ble_eq_true rfl⟩ dX4_walkerHere_72 (fun w2 h_39 => ?_)
          obtain rfl := h_39
          refine q_ws (ws' := w_M (k_Z M) B (f_add (a_F X) kind 0 m, a_K X, a_kp X, a_fd X, a_tp X, a_S X) (p_nx (a_tp X) (p_nx (a_tp X) D))) (congrArg (w_M (k_Z M) B (f_add (a_F X) kind 0 m, a_K X, a_kp X, a_fd X, a_tp X, a_S X)) (p_nx_eq (p := a_tp X) (by omega) ei_40)) ?_
          have hin_41 : d_in (a_tp X) (p_nx (a_tp X) (p_nx (a_tp X) D)) := p_nx_in hq ⟨i_40, hi_40, ei_40⟩
          have hfe_42 : d_fe (a_tp X) (p_nx (a_tp X) (p_nx (a_tp X) D)) := p_nx_fe hq ⟨i_40, hi_40, ei_40⟩
          refine q_aload_n K 1 dX4_walkerHere_75 rfl ?_
          refine q_iconst 0 K dX4_walkerHere_76 rfl ?_
          refine q_bipush 8 K dX4_walkerHere_77 rfl ?_
          refine q_wI (q0 := 0) (As := [.int 0, .int 8]) (rest := []) K kv_X4_isNumber (c_X4_isNumber (k_l M) (k_Z M) B (f_add (a_F X) kind 0 m, a_K X, a_kp X, a_fd X, a_tp X, a_S X) (p_nx (a_tp X) (p_nx (a_tp X) D)) 0 8) rfl rfl ml_X4_245 rfl rfl (Nat.le_of_ble_eq_true rfl) ⟨Nat.le_of_ble_eq_true rfl, Nat.le_of_ble_eq_true rfl⟩ dX4_walkerHere_79 (fun r_44 w2 h_43 => ?_)
          rcases h_43 with ⟨t_r_44, v_r_44, e_r_44, rfl⟩ | ⟨n_r_44, e_r_44, rfl⟩
          · refine q_eqi 1 e_r_44 ?_
            refine q_if_ne 87 K dX4_walkerHere_82 (by decide) (fun c_0 => ?_) (fun c_0 => absurd c_0 (by decide))
            refine q_aload_n K 1 dX4_walkerHere_87 rfl ?_
            refine q_get (.ref (B 1)) K ws_X4 0 rfl rfl 0 (by decide) fl_X4_7 rfl dX4_walkerHere_88 ?_
            refine q_iload_n K 0 dX4_walkerHere_91 rfl ?_
            refine q_iconst 1 K dX4_walkerHere_92 rfl ?_
            refine q_cp (rest := [.ref (B 1)]) K ks_X4_at (c_X4_at (k_l M) (k_Z M) m 1) ml_X4_76 rfl rfl (Nat.le_of_ble_eq_true rfl) ⟨Nat.le_of_ble_eq_true rfl, Nat.le_of_ble_eq_true rfl⟩ dX4_walkerHere_93 (fun r_45 e_r_45 => ?_)
            refine q_eqi (nI ((21 + (5 * m)) + 1)) e_r_45 ?_
            refine q_aload_n K 1 dX4_walkerHere_96 rfl ?_
            refine q_get (.int (d_vl (p_nx (a_tp X) (p_nx (a_tp X) D)))) K ws_X4 0 rfl rfl 15 (by decide) fl_X4_215 rfl dX4_walkerHere_97 ?_
            refine q_iast (ws' := w_M (k_Z M) B (f_setrow (f_add (a_F X) kind 0 m) 1 (upd (f_row (f_add (a_F X) kind 0 m) 1) m (d_vl (p_nx (a_tp X) (p_nx (a_tp X) D)))), a_K X, a_kp X, a_fd X, a_tp X, a_S X) (p_nx (a_tp X) (p_nx (a_tp X) D))) K 1 rfl (vp_in_nI (n := (21 + (5 * m)) + 1) (N := 71) (by omega) (by omega)) (by rw [nI_clamp (n := (21 + (5 * m)) + 1) (by omega), up_at _ (by omega) (by omega) _]; rfl) dX4_walkerHere_100 ?_
            refine q_aload_n K 1 dX4_walkerHere_101 rfl ?_
            obtain ⟨i_47, hi_47, ei_47⟩ := hin_41
            refine q_wV (q0 := 0) (As := []) (rest := []) K kv_X4_nextToken (c_X4_nextToken (k_l M) (k_Z M) B (f_setrow (f_add (a_F X) kind 0 m) 1 (upd (f_row (f_add (a_F X) kind 0 m) 1) m (d_vl (p_nx (a_tp X) (p_nx (a_tp X) D)))), a_K X, a_kp X, a_fd X, a_tp X, a_S X) (p_nx (a_tp X) (p_nx (a_tp X) D)) hq i_47 hi_47 ei_47) rfl rfl ml_X4_242 rfl rfl (Nat.le_of_ble_eq_true rfl) ⟨Nat.le_of_ble_eq_true rfl, Nat.le_of_ble_eq_true rfl⟩ dX4_walkerHere_102 (fun w2 h_46 => ?_)
            obtain rfl := h_46
            refine q_ws (ws' := w_M (k_Z M) B (f_setrow (f_add (a_F X) kind 0 m) 1 (upd (f_row (f_add (a_F X) kind 0 m) 1) m (d_vl (p_nx (a_tp X) (p_nx (a_tp X) D)))), a_K X, a_kp X, a_fd X, a_tp X, a_S X) (p_nx (a_tp X) (p_nx (a_tp X) (p_nx (a_tp X) D)))) (congrArg (w_M (k_Z M) B (f_setrow (f_add (a_F X) kind 0 m) 1 (upd (f_row (f_add (a_F X) kind 0 m) 1) m (d_vl (p_nx (a_tp X) (p_nx (a_tp X) D)))), a_K X, a_kp X, a_fd X, a_tp X, a_S X)) (p_nx_eq (p := a_tp X) (by omega) ei_47)) ?_
            have hin_48 : d_in (a_tp X) (p_nx (a_tp X) (p_nx (a_tp X) (p_nx (a_tp X) D))) := p_nx_in hq ⟨i_47, hi_47, ei_47⟩
            have hfe_49 : d_fe (a_tp X) (p_nx (a_tp X) (p_nx (a_tp X) (p_nx (a_tp X) D))) := p_nx_fe hq ⟨i_47, hi_47, ei_47⟩
            exact J105 (f_setrow (f_add (a_F X) kind 0 m) 1 (upd (f_row (f_add (a_F X) kind 0 m) 1) m (d_vl (p_nx (a_tp X) (p_nx (a_tp X) D))))) (p_nx (a_tp X) (p_nx (a_tp X) (p_nx (a_tp X) D))) hfe_49 (i_walker_in (by omega) hm2 (by omega) hw13 ⟨t_r_44, v_r_44⟩)
          · refine q_eqi 0 e_r_44 ?_
            refine q_if_ne 87 K dX4_walkerHere_82 (by decide) (fun c_0 => absurd c_0 (by decide)) (fun c_0 => ?_)
            refine q_iconst 0 K dX4_walkerHere_85 rfl ?_
            exact Rt _ _ 0 (w_M (k_Z M) B (f_add (a_F X) kind 0 m, a_K X, a_kp X, a_fd X, a_tp X, a_S X) (d_setfa (p_nx (a_tp X) (p_nx (a_tp X) D)) (d_fr (p_nx (a_tp X) (p_nx (a_tp X) D))))) dX4_walkerHere_86 rfl (t_res_f (i_walker_bad (by omega) hm2 (by omega) hw13 n_r_44))
  · have c_1n : m = 8 := (nI_eq (a := m) (b := 8) (by omega) (by omega)).mp c_1
    refine q_aload_n K 0 dX4_walkerHere_11 rfl ?_
    refine q_wI (q0 := 0) (As := []) (rest := []) K kv_X4_fails (c_X4_fails (k_l M) (k_Z M) B X D) rfl rfl ml_X4_227 rfl rfl (Nat.le_of_ble_eq_true rfl) ⟨Nat.le_of_ble_eq_true rfl, Nat.le_of_ble_eq_true rfl⟩ dX4_walkerHere_12 (fun r_51 w2 h_50 => ?_)
    obtain ⟨e_r_51, rfl⟩ := h_50
    refine q_eqi 0 e_r_51 ?_
    refine q_ws (ws' := w_M (k_Z M) B X (d_bf D, d_as D, d_gn D, d_tk D, d_fr D, d_to D, d_vl D, d_fr D)) rfl ?_
    exact Rt _ _ 0 (w_M (k_Z M) B X (d_bf D, d_as D, d_gn D, d_tk D, d_fr D, d_to D, d_vl D, d_fr D)) dX4_walkerHere_15 rfl (t_res_f (i_walker_full (by omega) hm2 (by omega)))
theorem kv_X4_walkerHere : k_iv yX4_walkerHere cX4_walkerHere 3 (some .boolean) 1 := ⟨⟨im_X4_walkerHere, se_X4_walkerHere⟩, in_X4, co_X4_walkerHere, by decide +kernel⟩
theorem wind_res {Z : kz_Z} {B : Nat → Nat} {X : AS} {D : DJ} {r : Int32} {w2 : va_W} (h : ((d_tk (p_nx (a_tp X) D) = 2 ∧ inR (d_vl (p_nx (a_tp X) D)) 0 9) ∧ r = 1 ∧ w2 = w_M Z B (a_setF X (f_setwd (a_F X) (d_vl (p_nx (a_tp X) D)))) (p_nx (a_tp X) (p_nx (a_tp X) D))) ∨ (¬ (d_tk (p_nx (a_tp X) D) = 2 ∧ inR (d_vl (p_nx (a_tp X) D)) 0 9) ∧ r = 0 ∧ w2 = w_M Z B X (d_setfa (p_nx (a_tp X) D) (d_fr (p_nx (a_tp X) D))))) : t_res Z B X (i_wind (a_tp X) (a_F X) D) r w2 := by
  rcases h with ⟨h, rfl, rfl⟩ | ⟨h, rfl, rfl⟩
  · exact t_res_t (by rw [i_wind, if_pos h])
  · exact t_res_f (F := a_F X) (by rw [i_wind, if_neg h]; rfl)
theorem gate_res {Z : kz_Z} {B : Nat → Nat} {X : AS} {D : DJ} {r : Int32} {w2 : va_W} {v : Int32} (h : ((d_tk (p_nx (a_tp X) D) = 2 ∧ inR (d_vl (p_nx (a_tp X) D)) 0 7) ∧ r = 1 ∧ w2 = w_M Z B (a_setF X (f_setgs (a_F X) (upd (f_gs (a_F X)) (d_vl (p_nx (a_tp X) D)).toNatClampNeg v))) (p_nx (a_tp X) (p_nx (a_tp X) D))) ∨ (¬ (d_tk (p_nx (a_tp X) D) = 2 ∧ inR (d_vl (p_nx (a_tp X) D)) 0 7) ∧ r = 0 ∧ w2 = w_M Z B X (d_setfa (p_nx (a_tp X) D) (d_fr (p_nx (a_tp X) D))))) : t_res Z B X (i_gate (a_tp X) v (a_F X) D) r w2 := by
  rcases h with ⟨h, rfl, rfl⟩ | ⟨h, rfl, rfl⟩
  · exact t_res_t (by rw [i_gate, if_pos h])
  · exact t_res_f (F := a_F X) (by rw [i_gate, if_neg h]; rfl)
theorem beasts_res {Z : kz_Z} {B : Nat → Nat} {X : AS} {D : DJ} {r : Int32} {w2 : va_W} (h : ((d_tk (p_nx (a_tp X) D) = 2 ∧ inR (d_vl (p_nx (a_tp X) D)) 0 8) ∧ (d_tk (p_nx (a_tp X) (p_nx (a_tp X) D)) = 2 ∧ inR (d_vl (p_nx (a_tp X) (p_nx (a_tp X) D))) 0 9999) ∧ r = 1 ∧ w2 = w_M Z B (a_setF X (f_setbs (a_F X) (upd (f_bs (a_F X)) (d_vl (p_nx (a_tp X) D)).toNatClampNeg (d_vl (p_nx (a_tp X) (p_nx (a_tp X) D)))))) (p_nx (a_tp X) (p_nx (a_tp X) (p_nx (a_tp X) D)))) ∨ ((d_tk (p_nx (a_tp X) D) = 2 ∧ inR (d_vl (p_nx (a_tp X) D)) 0 8) ∧ ¬ (d_tk (p_nx (a_tp X) (p_nx (a_tp X) D)) = 2 ∧ inR (d_vl (p_nx (a_tp X) (p_nx (a_tp X) D))) 0 9999) ∧ r = 0 ∧ w2 = w_M Z B X (d_setfa (p_nx (a_tp X) (p_nx (a_tp X) D)) (d_fr (p_nx (a_tp X) (p_nx (a_tp X) D))))) ∨ (¬ (d_tk (p_nx (a_tp X) D) = 2 ∧ inR (d_vl (p_nx (a_tp X) D)) 0 8) ∧ r = 0 ∧ w2 = w_M Z B X (d_setfa (p_nx (a_tp X) D) (d_fr (p_nx (a_tp X) D))))) : t_res Z B X (i_beasts (a_tp X) (a_F X) D) r w2 := by
  rcases h with ⟨h, h2, rfl, rfl⟩ | ⟨h, h2, rfl, rfl⟩ | ⟨h, rfl, rfl⟩
  · exact t_res_t (by rw [i_beasts, if_pos h, if_pos h2])
  · exact t_res_f (F := a_F X) (by rw [i_beasts, if_pos h, if_neg h2]; rfl)
  · exact t_res_f (F := a_F X) (by rw [i_beasts, if_neg h]; rfl)
theorem t_res_e {Z : kz_Z} {B : Nat → Nat} {X : AS} {r : Int32} {T T2 : Bool × FS × DJ} (e : T = T2) (h : r = if T2.1 = true then 1 else 0) : t_res Z B X T r (w_M Z B (a_setF X T2.2.1) T2.2.2) := by subst e; exact ⟨h, rfl⟩
set_option maxHeartbeats 4000000 in
set_option maxRecDepth 100000 in
theorem c_X4_itemHere (l : Launch) (Z : kz_Z) (B : Nat → Nat) (X : AS) (D : DJ) (hq : (a_tp X).2 ≤ 120) (hfe0 : d_fe (a_tp X) D) (m : Nat) (hm : m ≤ 8) (hm2 : f_wk (a_F X) = nI m) : KI l Z yX4_itemHere cX4_itemHere 3 .boolean 4 91 [.ref (B 0)] (w_M Z B X D) (fun r w2 => t_res Z B X (i_item (a_tp X) (a_F X) D) r w2) := by
  refine ki_of (by decide) [(0, .ref (B 0))] (Nat.le_of_ble_eq_true rfl) rfl ?_
  intro M e1 e2 K Rt
  subst e1 e2
  obtain ⟨f, e, hfr, hto, hfe, he9⟩ := id hfe0
  have he : e ≤ 121 := by omega
  refine q_aload_n K 0 dX4_itemHere_0 rfl ?_
  refine q_wI (q0 := 0) (As := []) (rest := []) K kv_X4_kindHere (c_X4_kindHere (k_l M) (k_Z M) B X D hq f e hfr hto hfe he) rfl rfl ml_X4_248 rfl rfl (Nat.le_of_ble_eq_true rfl) ⟨Nat.le_of_ble_eq_true rfl, Nat.le_of_ble_eq_true rfl⟩ dX4_itemHere_1 (fun r_2 w2 h_1 => ?_)
  obtain ⟨e_r_2, rfl⟩ := h_1
  refine q_eqi (p_kd D (a_tp X) f e) e_r_2 ?_
  refine q_eqi (t_kd (a_tp X) D) (t_kd_fe hfr hto hfe he) ?_
  refine q_istore_n (lv' := [(1, .int (t_kd (a_tp X) D)), (0, .ref (B 0))]) K dX4_itemHere_4 (by decide) rfl ?_
  refine q_iload_n K 0 dX4_itemHere_5 rfl ?_
  refine q_if_lt 15 K dX4_itemHere_6 (by decide) (fun c_3 => ?_) (fun c_3 => ?_)
  · refine q_aload_n K 1 dX4_itemHere_15 rfl ?_
    refine q_wI (q0 := 0) (As := []) (rest := []) K kv_X4_standHere (c_X4_standHere (k_l M) (k_Z M) B X D hq f e hfr hto hfe he) rfl rfl ml_X4_254 rfl rfl (Nat.le_of_ble_eq_true rfl) ⟨Nat.le_of_ble_eq_true rfl, Nat.le_of_ble_eq_true rfl⟩ dX4_itemHere_16 (fun r_5 w2 h_4 => ?_)
    obtain ⟨e_r_5, rfl⟩ := h_4
    refine q_eqi (p_st D (a_tp X) f e) e_r_5 ?_
    refine q_eqi (t_st (a_tp X) D) (t_st_fe hfr hto hfe he) ?_
    refine q_istore_n (lv' := [(2, .int (t_st (a_tp X) D)), (1, .int (t_kd (a_tp X) D)), (0, .ref (B 0))]) K dX4_itemHere_19 (by decide) rfl ?_
    refine q_iload_n K 0 dX4_itemHere_20 rfl ?_
    refine q_if_lt 30 K dX4_itemHere_21 (by decide) (fun c_6 => ?_) (fun c_6 => ?_)
    · refine q_aload_n K 2 dX4_itemHere_30 rfl ?_
      refine q_bipush 98 K dX4_itemHere_31 rfl ?_
      refine q_bipush 101 K dX4_itemHere_33 rfl ?_
      refine q_bipush 97 K dX4_itemHere_35 rfl ?_
      refine q_bipush 115 K dX4_itemHere_37 rfl ?_
      refine q_bipush 116 K dX4_itemHere_39 rfl ?_
      refine q_bipush 115 K dX4_itemHere_41 rfl ?_
      refine q_wI (q0 := 0) (As := [.int 98, .int 101, .int 97, .int 115, .int 116, .int 115]) (rest := []) K kv_X4_isSix (c_X4_isSix (k_l M) (k_Z M) B X D hq f e hfr hto hfe he 98 101 97 115 116 115) rfl rfl ml_X4_231 rfl rfl (Nat.le_of_ble_eq_true rfl) ⟨Nat.le_of_ble_eq_true rfl, Nat.le_of_ble_eq_true rfl⟩ dX4_itemHere_43 (fun r_8 w2 h_7 => ?_)
      obtain ⟨e_r_8, rfl⟩ := h_7
      refine q_if_eq 54 K dX4_itemHere_46 (by decide) (fun c_9 => ?_) (fun c_9 => ?_)
      · have c_9 : ¬ (p_wd D f e 6 ∧ p_w3 (a_tp X) f 0 98 101 97 ∧ p_w3 (a_tp X) f 3 115 116 115) := (kn_eq e_r_8).mp c_9
        refine q_aload_n K 2 dX4_itemHere_54 rfl ?_
        refine q_bipush 119 K dX4_itemHere_55 rfl ?_
        refine q_bipush 105 K dX4_itemHere_57 rfl ?_
        refine q_bipush 110 K dX4_itemHere_59 rfl ?_
        refine q_bipush 100 K dX4_itemHere_61 rfl ?_
        refine q_wI (q0 := 0) (As := [.int 119, .int 105, .int 110, .int 100]) (rest := []) K kv_X4_isFour (c_X4_isFour (k_l M) (k_Z M) B X D hq f e hfr hto hfe he 119 105 110 100) rfl rfl ml_X4_239 rfl rfl (Nat.le_of_ble_eq_true rfl) ⟨Nat.le_of_ble_eq_true rfl, Nat.le_of_ble_eq_true rfl⟩ dX4_itemHere_63 (fun r_11 w2 h_10 => ?_)
        obtain ⟨e_r_11, rfl⟩ := h_10
        refine q_if_eq 76 K dX4_itemHere_66 (by decide) (fun c_12 => ?_) (fun c_12 => ?_)
        · have c_12 : ¬ (p_wd D f e 4 ∧ p_w3 (a_tp X) f 0 119 105 110 ∧ p_w3 (a_tp X) f 1 105 110 100) := (kn_eq e_r_11).mp c_12
          refine q_aload_n K 2 dX4_itemHere_76 rfl ?_
          refine q_wI (q0 := 0) (As := []) (rest := []) K kv_X4_fails (c_X4_fails (k_l M) (k_Z M) B X D) rfl rfl ml_X4_227 rfl rfl (Nat.le_of_ble_eq_true rfl) ⟨Nat.le_of_ble_eq_true rfl, Nat.le_of_ble_eq_true rfl⟩ dX4_itemHere_77 (fun r_14 w2 h_13 => ?_)
          obtain ⟨e_r_14, rfl⟩ := h_13
          refine q_eqi 0 e_r_14 ?_
          refine q_ws (ws' := w_M (k_Z M) B X (d_bf D, d_as D, d_gn D, d_tk D, d_fr D, d_to D, d_vl D, d_fr D)) rfl ?_
          exact Rt _ _ 0 (w_M (k_Z M) B X (d_bf D, d_as D, d_gn D, d_tk D, d_fr D, d_to D, d_vl D, d_fr D)) dX4_itemHere_80 rfl (t_res_f (F := a_F X) (by rw [i_item, if_neg (Int32.not_le.mpr c_3), if_neg (Int32.not_le.mpr c_6), if_neg (fun h9 => c_9 (wf_11.mpr ((t_w_fe hfr hto hfe he).mp h9))), if_neg (fun h9 => c_12 (wf_12.mpr ((t_w_fe hfr hto hfe he).mp h9)))]; rfl))
        · have c_12 : p_wd D f e 4 ∧ p_w3 (a_tp X) f 0 119 105 110 ∧ p_w3 (a_tp X) f 1 105 110 100 := (kn_ne e_r_11).mp c_12
          refine q_aload_n K 2 dX4_itemHere_69 rfl ?_
          refine q_wI (q0 := 0) (As := []) (rest := []) K kv_X4_windHere (c_X4_windHere (k_l M) (k_Z M) B X D hq (d_fe_in hfe0)) rfl rfl ml_X4_263 rfl rfl (Nat.le_of_ble_eq_true rfl) ⟨Nat.le_of_ble_eq_true rfl, Nat.le_of_ble_eq_true rfl⟩ dX4_itemHere_70 (fun r_16 w2 h_15 => ?_)
          have h_15 := wind_res h_15
          obtain ⟨e_r_16, rfl⟩ := h_15
          refine q_ws (ws' := w_M (k_Z M) B ((i_wind (a_tp X) (a_F X) D).2.1, a_K X, a_kp X, a_fd X, a_tp X, a_S X) ((i_wind (a_tp X) (a_F X) D).2.2)) rfl ?_
          refine q_goto 80 K dX4_itemHere_73 (by decide) ?_
          exact Rt _ _ r_16 (w_M (k_Z M) B ((i_wind (a_tp X) (a_F X) D).2.1, a_K X, a_kp X, a_fd X, a_tp X, a_S X) ((i_wind (a_tp X) (a_F X) D).2.2)) dX4_itemHere_80 (kn_narZ e_r_16) (t_res_e (by rw [i_item, if_neg (Int32.not_le.mpr c_3), if_neg (Int32.not_le.mpr c_6), if_neg (fun h9 => c_9 (wf_11.mpr ((t_w_fe hfr hto hfe he).mp h9))), if_pos ((t_w_fe hfr hto hfe he).mpr (wf_12.mp c_12))]) e_r_16)
      · have c_9 : p_wd D f e 6 ∧ p_w3 (a_tp X) f 0 98 101 97 ∧ p_w3 (a_tp X) f 3 115 116 115 := (kn_ne e_r_8).mp c_9
        refine q_aload_n K 2 dX4_itemHere_49 rfl ?_
        refine q_wI (q0 := 0) (As := []) (rest := []) K kv_X4_beastsHere (c_X4_beastsHere (k_l M) (k_Z M) B X D hq (d_fe_in hfe0)) rfl rfl ml_X4_260 rfl rfl (Nat.le_of_ble_eq_true rfl) ⟨Nat.le_of_ble_eq_true rfl, Nat.le_of_ble_eq_true rfl⟩ dX4_itemHere_50 (fun r_18 w2 h_17 => ?_)
        have h_17 := beasts_res h_17
        obtain ⟨e_r_18, rfl⟩ := h_17
        refine q_ws (ws' := w_M (k_Z M) B ((i_beasts (a_tp X) (a_F X) D).2.1, a_K X, a_kp X, a_fd X, a_tp X, a_S X) ((i_beasts (a_tp X) (a_F X) D).2.2)) rfl ?_
        exact Rt _ _ r_18 (w_M (k_Z M) B ((i_beasts (a_tp X) (a_F X) D).2.1, a_K X, a_kp X, a_fd X, a_tp X, a_S X) ((i_beasts (a_tp X) (a_F X) D).2.2)) dX4_itemHere_53 (kn_narZ e_r_18) (t_res_e (by rw [i_item, if_neg (Int32.not_le.mpr c_3), if_neg (Int32.not_le.mpr c_6), if_pos ((t_w_fe hfr hto hfe he).mpr (wf_11.mp c_9))]) e_r_18)
    · refine q_aload_n K 2 dX4_itemHere_24 rfl ?_
      refine q_iload_n K 0 dX4_itemHere_25 rfl ?_
      refine q_wI (q0 := 0) (As := [.int (t_st (a_tp X) D)]) (rest := []) K kv_X4_gateHere (c_X4_gateHere (k_l M) (k_Z M) B X D hq (d_fe_in hfe0) (t_st (a_tp X) D)) rfl rfl ml_X4_257 rfl rfl (Nat.le_of_ble_eq_true rfl) ⟨Nat.le_of_ble_eq_true rfl, Nat.le_of_ble_eq_true rfl⟩ dX4_itemHere_26 (fun r_20 w2 h_19 => ?_)
      have h_19 := gate_res h_19
      obtain ⟨e_r_20, rfl⟩ := h_19
      refine q_ws (ws' := w_M (k_Z M) B ((i_gate (a_tp X) (t_st (a_tp X) D) (a_F X) D).2.1, a_K X, a_kp X, a_fd X, a_tp X, a_S X) ((i_gate (a_tp X) (t_st (a_tp X) D) (a_F X) D).2.2)) rfl ?_
      exact Rt _ _ r_20 (w_M (k_Z M) B ((i_gate (a_tp X) (t_st (a_tp X) D) (a_F X) D).2.1, a_K X, a_kp X, a_fd X, a_tp X, a_S X) ((i_gate (a_tp X) (t_st (a_tp X) D) (a_F X) D).2.2)) dX4_itemHere_29 (kn_narZ e_r_20) (t_res_e (by rw [i_item, if_neg (Int32.not_le.mpr c_3), if_pos (Int32.not_lt.mp c_6)]) e_r_20)
  · refine q_aload_n K 1 dX4_itemHere_9 rfl ?_
    refine q_iload_n K 0 dX4_itemHere_10 rfl ?_
    refine q_wI (q0 := 0) (As := [.int (t_kd (a_tp X) D)]) (rest := []) K kv_X4_walkerHere (c_X4_walkerHere (k_l M) (k_Z M) B X D hq (d_fe_in hfe0) m hm hm2 (t_kd (a_tp X) D)) rfl rfl ml_X4_251 rfl rfl (Nat.le_of_ble_eq_true rfl) ⟨Nat.le_of_ble_eq_true rfl, Nat.le_of_ble_eq_true rfl⟩ dX4_itemHere_11 (fun r_22 w2 h_21 => ?_)
    obtain ⟨e_r_22, rfl⟩ := h_21
    refine q_ws (ws' := w_M (k_Z M) B ((i_walker (a_tp X) (t_kd (a_tp X) D) (a_F X) D).2.1, a_K X, a_kp X, a_fd X, a_tp X, a_S X) ((i_walker (a_tp X) (t_kd (a_tp X) D) (a_F X) D).2.2)) rfl ?_
    exact Rt _ _ r_22 (w_M (k_Z M) B ((i_walker (a_tp X) (t_kd (a_tp X) D) (a_F X) D).2.1, a_K X, a_kp X, a_fd X, a_tp X, a_S X) ((i_walker (a_tp X) (t_kd (a_tp X) D) (a_F X) D).2.2)) dX4_itemHere_14 (kn_narZ e_r_22) (t_res_e (by rw [i_item, if_pos (Int32.not_lt.mp c_3)]) e_r_22)
theorem kv_X4_itemHere : k_iv yX4_itemHere cX4_itemHere 3 (some .boolean) 0 := ⟨⟨im_X4_itemHere, se_X4_itemHere⟩, in_X4, co_X4_itemHere, by decide +kernel⟩
