set_option maxHeartbeats 4000000 in
set_option maxRecDepth 100000 in
theorem c_X4_windHere (l : Launch) (Z : kz_Z) (B : Nat → Nat) (X : AS) (D : DJ) (hq : (a_tp X).2 ≤ 120) (hin : d_in (a_tp X) D) : KI l Z yX4_windHere cX4_windHere 1 .boolean 2 47 [.ref (B 0)] (w_M Z B X D) (fun r w2 => ((d_tk (p_nx (a_tp X) D) = 2 ∧ inR (d_vl (p_nx (a_tp X) D)) 0 9) ∧ r = 1 ∧ w2 = w_M Z B (a_setF X (f_setwd (a_F X) (d_vl (p_nx (a_tp X) D)))) (p_nx (a_tp X) (p_nx (a_tp X) D))) ∨ (¬ (d_tk (p_nx (a_tp X) D) = 2 ∧ inR (d_vl (p_nx (a_tp X) D)) 0 9) ∧ r = 0 ∧ w2 = w_M Z B X (d_setfa (p_nx (a_tp X) D) (d_fr (p_nx (a_tp X) D))))) := by
  refine ki_of (by decide) [(0, .ref (B 0))] (Nat.le_of_ble_eq_true rfl) rfl ?_
  intro M e1 e2 K Rt
  subst e1 e2
  refine q_aload_n K 0 dX4_windHere_0 rfl ?_
  obtain ⟨i_2, hi_2, ei_2⟩ := hin
  refine q_wV (q0 := 0) (As := []) (rest := []) K kv_X4_nextToken (c_X4_nextToken (k_l M) (k_Z M) B X D hq i_2 hi_2 ei_2) rfl rfl ml_X4_242 rfl rfl (Nat.le_of_ble_eq_true rfl) ⟨Nat.le_of_ble_eq_true rfl, Nat.le_of_ble_eq_true rfl⟩ dX4_windHere_1 (fun w2 h_1 => ?_)
  obtain rfl := h_1
  refine q_ws (ws' := w_M (k_Z M) B X (p_nx (a_tp X) D)) (congrArg (w_M (k_Z M) B X) (p_nx_eq (p := a_tp X) (by omega) ei_2)) ?_
  have hin_3 : d_in (a_tp X) (p_nx (a_tp X) D) := p_nx_in hq ⟨i_2, hi_2, ei_2⟩
  have hfe_4 : d_fe (a_tp X) (p_nx (a_tp X) D) := p_nx_fe hq ⟨i_2, hi_2, ei_2⟩
  refine q_aload_n K 0 dX4_windHere_4 rfl ?_
  refine q_iconst 0 K dX4_windHere_5 rfl ?_
  refine q_bipush 9 K dX4_windHere_6 rfl ?_
  refine q_wI (q0 := 0) (As := [.int 0, .int 9]) (rest := []) K kv_X4_isNumber (c_X4_isNumber (k_l M) (k_Z M) B X (p_nx (a_tp X) D) 0 9) rfl rfl ml_X4_245 rfl rfl (Nat.le_of_ble_eq_true rfl) ⟨Nat.le_of_ble_eq_true rfl, Nat.le_of_ble_eq_true rfl⟩ dX4_windHere_8 (fun r_6 w2 h_5 => ?_)
  rcases h_5 with ⟨t_r_6, v_r_6, e_r_6, rfl⟩ | ⟨n_r_6, e_r_6, rfl⟩
  · refine q_eqi 1 e_r_6 ?_
    refine q_if_ne 16 K dX4_windHere_11 (by decide) (fun c_0 => ?_) (fun c_0 => absurd c_0 (by decide))
    refine q_aload_n K 0 dX4_windHere_16 rfl ?_
    refine q_get (.ref (B 1)) K ws_X4 0 rfl rfl 0 (by decide) fl_X4_7 rfl dX4_windHere_17 ?_
    refine q_iconst 3 K dX4_windHere_20 rfl ?_
    refine q_aload_n K 0 dX4_windHere_21 rfl ?_
    refine q_get (.int (d_vl (p_nx (a_tp X) D))) K ws_X4 0 rfl rfl 15 (by decide) fl_X4_215 rfl dX4_windHere_22 ?_
    refine q_iast (ws' := w_M (k_Z M) B (f_setwd (a_F X) (d_vl (p_nx (a_tp X) D)), a_K X, a_kp X, a_fd X, a_tp X, a_S X) (p_nx (a_tp X) D)) K 1 rfl (vp_in_nI (n := 3) (N := 71) (by omega) (by omega)) (by rw [show (3 : Int32).toNatClampNeg = 3 from rfl, up_3 _ _]; rfl) dX4_windHere_25 ?_
    refine q_aload_n K 0 dX4_windHere_26 rfl ?_
    obtain ⟨i_8, hi_8, ei_8⟩ := hin_3
    refine q_wV (q0 := 0) (As := []) (rest := []) K kv_X4_nextToken (c_X4_nextToken (k_l M) (k_Z M) B (f_setwd (a_F X) (d_vl (p_nx (a_tp X) D)), a_K X, a_kp X, a_fd X, a_tp X, a_S X) (p_nx (a_tp X) D) hq i_8 hi_8 ei_8) rfl rfl ml_X4_242 rfl rfl (Nat.le_of_ble_eq_true rfl) ⟨Nat.le_of_ble_eq_true rfl, Nat.le_of_ble_eq_true rfl⟩ dX4_windHere_27 (fun w2 h_7 => ?_)
    obtain rfl := h_7
    refine q_ws (ws' := w_M (k_Z M) B (f_setwd (a_F X) (d_vl (p_nx (a_tp X) D)), a_K X, a_kp X, a_fd X, a_tp X, a_S X) (p_nx (a_tp X) (p_nx (a_tp X) D))) (congrArg (w_M (k_Z M) B (f_setwd (a_F X) (d_vl (p_nx (a_tp X) D)), a_K X, a_kp X, a_fd X, a_tp X, a_S X)) (p_nx_eq (p := a_tp X) (by omega) ei_8)) ?_
    have hin_9 : d_in (a_tp X) (p_nx (a_tp X) (p_nx (a_tp X) D)) := p_nx_in hq ⟨i_8, hi_8, ei_8⟩
    have hfe_10 : d_fe (a_tp X) (p_nx (a_tp X) (p_nx (a_tp X) D)) := p_nx_fe hq ⟨i_8, hi_8, ei_8⟩
    refine q_iconst 1 K dX4_windHere_30 rfl ?_
    exact Rt _ _ 1 (w_M (k_Z M) B (f_setwd (a_F X) (d_vl (p_nx (a_tp X) D)), a_K X, a_kp X, a_fd X, a_tp X, a_S X) (p_nx (a_tp X) (p_nx (a_tp X) D))) dX4_windHere_31 rfl (Or.inl ⟨⟨t_r_6, v_r_6⟩, rfl, rfl⟩)
  · refine q_eqi 0 e_r_6 ?_
    refine q_if_ne 16 K dX4_windHere_11 (by decide) (fun c_0 => absurd c_0 (by decide)) (fun c_0 => ?_)
    refine q_iconst 0 K dX4_windHere_14 rfl ?_
    exact Rt _ _ 0 (w_M (k_Z M) B X (d_setfa (p_nx (a_tp X) D) (d_fr (p_nx (a_tp X) D)))) dX4_windHere_15 rfl (Or.inr ⟨n_r_6, rfl, rfl⟩)
theorem kv_X4_windHere : k_iv yX4_windHere cX4_windHere 1 (some .boolean) 0 := ⟨⟨im_X4_windHere, se_X4_windHere⟩, in_X4, co_X4_windHere, by decide +kernel⟩
set_option maxHeartbeats 4000000 in
set_option maxRecDepth 100000 in
theorem c_X4_gateHere (l : Launch) (Z : kz_Z) (B : Nat → Nat) (X : AS) (D : DJ) (hq : (a_tp X).2 ≤ 120) (hin : d_in (a_tp X) D) (v : Int32) : KI l Z yX4_gateHere cX4_gateHere 2 .boolean 2 47 [.ref (B 0), .int v] (w_M Z B X D) (fun r w2 => ((d_tk (p_nx (a_tp X) D) = 2 ∧ inR (d_vl (p_nx (a_tp X) D)) 0 7) ∧ r = 1 ∧ w2 = w_M Z B (a_setF X (f_setgs (a_F X) (upd (f_gs (a_F X)) (d_vl (p_nx (a_tp X) D)).toNatClampNeg v))) (p_nx (a_tp X) (p_nx (a_tp X) D))) ∨ (¬ (d_tk (p_nx (a_tp X) D) = 2 ∧ inR (d_vl (p_nx (a_tp X) D)) 0 7) ∧ r = 0 ∧ w2 = w_M Z B X (d_setfa (p_nx (a_tp X) D) (d_fr (p_nx (a_tp X) D))))) := by
  refine ki_of (by decide) [(0, .ref (B 0)), (1, .int v)] (Nat.le_of_ble_eq_true rfl) rfl ?_
  intro M e1 e2 K Rt
  subst e1 e2
  refine q_aload_n K 0 dX4_gateHere_0 rfl ?_
  obtain ⟨i_2, hi_2, ei_2⟩ := hin
  refine q_wV (q0 := 0) (As := []) (rest := []) K kv_X4_nextToken (c_X4_nextToken (k_l M) (k_Z M) B X D hq i_2 hi_2 ei_2) rfl rfl ml_X4_242 rfl rfl (Nat.le_of_ble_eq_true rfl) ⟨Nat.le_of_ble_eq_true rfl, Nat.le_of_ble_eq_true rfl⟩ dX4_gateHere_1 (fun w2 h_1 => ?_)
  obtain rfl := h_1
  refine q_ws (ws' := w_M (k_Z M) B X (p_nx (a_tp X) D)) (congrArg (w_M (k_Z M) B X) (p_nx_eq (p := a_tp X) (by omega) ei_2)) ?_
  have hin_3 : d_in (a_tp X) (p_nx (a_tp X) D) := p_nx_in hq ⟨i_2, hi_2, ei_2⟩
  have hfe_4 : d_fe (a_tp X) (p_nx (a_tp X) D) := p_nx_fe hq ⟨i_2, hi_2, ei_2⟩
  refine q_aload_n K 0 dX4_gateHere_4 rfl ?_
  refine q_iconst 0 K dX4_gateHere_5 rfl ?_
  refine q_bipush 7 K dX4_gateHere_6 rfl ?_
  refine q_wI (q0 := 0) (As := [.int 0, .int 7]) (rest := []) K kv_X4_isNumber (c_X4_isNumber (k_l M) (k_Z M) B X (p_nx (a_tp X) D) 0 7) rfl rfl ml_X4_245 rfl rfl (Nat.le_of_ble_eq_true rfl) ⟨Nat.le_of_ble_eq_true rfl, Nat.le_of_ble_eq_true rfl⟩ dX4_gateHere_8 (fun r_6 w2 h_5 => ?_)
  rcases h_5 with ⟨t_r_6, v_r_6, e_r_6, rfl⟩ | ⟨n_r_6, e_r_6, rfl⟩
  · refine q_eqi 1 e_r_6 ?_
    refine q_if_ne 16 K dX4_gateHere_11 (by decide) (fun c_0 => ?_) (fun c_0 => absurd c_0 (by decide))
    refine q_aload_n K 0 dX4_gateHere_16 rfl ?_
    refine q_get (.ref (B 1)) K ws_X4 0 rfl rfl 0 (by decide) fl_X4_7 rfl dX4_gateHere_17 ?_
    refine q_bipush 13 K dX4_gateHere_20 rfl ?_
    refine q_aload_n K 0 dX4_gateHere_22 rfl ?_
    refine q_get (.int (d_vl (p_nx (a_tp X) D))) K ws_X4 0 rfl rfl 15 (by decide) fl_X4_215 rfl dX4_gateHere_23 ?_
    obtain ⟨g, h_g, e_g⟩ := kn_rng (n := 7) v_r_6 rfl
    refine q_eqi (nI g) e_g ?_
    refine q_iadd K dX4_gateHere_26 ?_
    refine q_eqi (nI (13 + g)) (kn_add 13 g) ?_
    refine q_iload_n K 1 dX4_gateHere_27 rfl ?_
    refine q_iast (ws' := w_M (k_Z M) B (f_setgs (a_F X) (upd (f_gs (a_F X)) g v), a_K X, a_kp X, a_fd X, a_tp X, a_S X) (p_nx (a_tp X) D)) K 1 rfl (vp_in_nI (n := 13 + g) (N := 71) (by omega) (by omega)) (by rw [nI_clamp (n := 13 + g) (by omega), up_gs _ (by omega) _]; rfl) dX4_gateHere_28 ?_
    refine q_aload_n K 0 dX4_gateHere_29 rfl ?_
    obtain ⟨i_8, hi_8, ei_8⟩ := hin_3
    refine q_wV (q0 := 0) (As := []) (rest := []) K kv_X4_nextToken (c_X4_nextToken (k_l M) (k_Z M) B (f_setgs (a_F X) (upd (f_gs (a_F X)) g v), a_K X, a_kp X, a_fd X, a_tp X, a_S X) (p_nx (a_tp X) D) hq i_8 hi_8 ei_8) rfl rfl ml_X4_242 rfl rfl (Nat.le_of_ble_eq_true rfl) ⟨Nat.le_of_ble_eq_true rfl, Nat.le_of_ble_eq_true rfl⟩ dX4_gateHere_30 (fun w2 h_7 => ?_)
    obtain rfl := h_7
    refine q_ws (ws' := w_M (k_Z M) B (f_setgs (a_F X) (upd (f_gs (a_F X)) g v), a_K X, a_kp X, a_fd X, a_tp X, a_S X) (p_nx (a_tp X) (p_nx (a_tp X) D))) (congrArg (w_M (k_Z M) B (f_setgs (a_F X) (upd (f_gs (a_F X)) g v), a_K X, a_kp X, a_fd X, a_tp X, a_S X)) (p_nx_eq (p := a_tp X) (by omega) ei_8)) ?_
    have hin_9 : d_in (a_tp X) (p_nx (a_tp X) (p_nx (a_tp X) D)) := p_nx_in hq ⟨i_8, hi_8, ei_8⟩
    have hfe_10 : d_fe (a_tp X) (p_nx (a_tp X) (p_nx (a_tp X) D)) := p_nx_fe hq ⟨i_8, hi_8, ei_8⟩
    refine q_iconst 1 K dX4_gateHere_33 rfl ?_
    exact Rt _ _ 1 (w_M (k_Z M) B (f_setgs (a_F X) (upd (f_gs (a_F X)) g v), a_K X, a_kp X, a_fd X, a_tp X, a_S X) (p_nx (a_tp X) (p_nx (a_tp X) D))) dX4_gateHere_34 rfl (Or.inl ⟨⟨t_r_6, v_r_6⟩, rfl, by rw [e_g, nI_clamp (by omega)]; rfl⟩)
  · refine q_eqi 0 e_r_6 ?_
    refine q_if_ne 16 K dX4_gateHere_11 (by decide) (fun c_0 => absurd c_0 (by decide)) (fun c_0 => ?_)
    refine q_iconst 0 K dX4_gateHere_14 rfl ?_
    exact Rt _ _ 0 (w_M (k_Z M) B X (d_setfa (p_nx (a_tp X) D) (d_fr (p_nx (a_tp X) D)))) dX4_gateHere_15 rfl (Or.inr ⟨n_r_6, rfl, rfl⟩)
theorem kv_X4_gateHere : k_iv yX4_gateHere cX4_gateHere 2 (some .boolean) 1 := ⟨⟨im_X4_gateHere, se_X4_gateHere⟩, in_X4, co_X4_gateHere, by decide +kernel⟩
set_option maxHeartbeats 4000000 in
set_option maxRecDepth 100000 in
theorem c_X4_beastsHere (l : Launch) (Z : kz_Z) (B : Nat → Nat) (X : AS) (D : DJ) (hq : (a_tp X).2 ≤ 120) (hin : d_in (a_tp X) D) : KI l Z yX4_beastsHere cX4_beastsHere 2 .boolean 2 47 [.ref (B 0)] (w_M Z B X D) (fun r w2 => ((d_tk (p_nx (a_tp X) D) = 2 ∧ inR (d_vl (p_nx (a_tp X) D)) 0 8) ∧ (d_tk (p_nx (a_tp X) (p_nx (a_tp X) D)) = 2 ∧ inR (d_vl (p_nx (a_tp X) (p_nx (a_tp X) D))) 0 9999) ∧ r = 1 ∧ w2 = w_M Z B (a_setF X (f_setbs (a_F X) (upd (f_bs (a_F X)) (d_vl (p_nx (a_tp X) D)).toNatClampNeg (d_vl (p_nx (a_tp X) (p_nx (a_tp X) D)))))) (p_nx (a_tp X) (p_nx (a_tp X) (p_nx (a_tp X) D)))) ∨ ((d_tk (p_nx (a_tp X) D) = 2 ∧ inR (d_vl (p_nx (a_tp X) D)) 0 8) ∧ ¬ (d_tk (p_nx (a_tp X) (p_nx (a_tp X) D)) = 2 ∧ inR (d_vl (p_nx (a_tp X) (p_nx (a_tp X) D))) 0 9999) ∧ r = 0 ∧ w2 = w_M Z B X (d_setfa (p_nx (a_tp X) (p_nx (a_tp X) D)) (d_fr (p_nx (a_tp X) (p_nx (a_tp X) D))))) ∨ (¬ (d_tk (p_nx (a_tp X) D) = 2 ∧ inR (d_vl (p_nx (a_tp X) D)) 0 8) ∧ r = 0 ∧ w2 = w_M Z B X (d_setfa (p_nx (a_tp X) D) (d_fr (p_nx (a_tp X) D))))) := by
  refine ki_of (by decide) [(0, .ref (B 0))] (Nat.le_of_ble_eq_true rfl) rfl ?_
  intro M e1 e2 K Rt
  subst e1 e2
  refine q_aload_n K 0 dX4_beastsHere_0 rfl ?_
  obtain ⟨i_2, hi_2, ei_2⟩ := hin
  refine q_wV (q0 := 0) (As := []) (rest := []) K kv_X4_nextToken (c_X4_nextToken (k_l M) (k_Z M) B X D hq i_2 hi_2 ei_2) rfl rfl ml_X4_242 rfl rfl (Nat.le_of_ble_eq_true rfl) ⟨Nat.le_of_ble_eq_true rfl, Nat.le_of_ble_eq_true rfl⟩ dX4_beastsHere_1 (fun w2 h_1 => ?_)
  obtain rfl := h_1
  refine q_ws (ws' := w_M (k_Z M) B X (p_nx (a_tp X) D)) (congrArg (w_M (k_Z M) B X) (p_nx_eq (p := a_tp X) (by omega) ei_2)) ?_
  have hin_3 : d_in (a_tp X) (p_nx (a_tp X) D) := p_nx_in hq ⟨i_2, hi_2, ei_2⟩
  have hfe_4 : d_fe (a_tp X) (p_nx (a_tp X) D) := p_nx_fe hq ⟨i_2, hi_2, ei_2⟩
  refine q_aload_n K 0 dX4_beastsHere_4 rfl ?_
  refine q_iconst 0 K dX4_beastsHere_5 rfl ?_
  refine q_bipush 8 K dX4_beastsHere_6 rfl ?_
  refine q_wI (q0 := 0) (As := [.int 0, .int 8]) (rest := []) K kv_X4_isNumber (c_X4_isNumber (k_l M) (k_Z M) B X (p_nx (a_tp X) D) 0 8) rfl rfl ml_X4_245 rfl rfl (Nat.le_of_ble_eq_true rfl) ⟨Nat.le_of_ble_eq_true rfl, Nat.le_of_ble_eq_true rfl⟩ dX4_beastsHere_8 (fun r_6 w2 h_5 => ?_)
  rcases h_5 with ⟨t_r_6, v_r_6, e_r_6, rfl⟩ | ⟨n_r_6, e_r_6, rfl⟩
  · refine q_eqi 1 e_r_6 ?_
    refine q_if_ne 16 K dX4_beastsHere_11 (by decide) (fun c_0 => ?_) (fun c_0 => absurd c_0 (by decide))
    refine q_aload_n K 0 dX4_beastsHere_16 rfl ?_
    refine q_get (.int (d_vl (p_nx (a_tp X) D))) K ws_X4 0 rfl rfl 15 (by decide) fl_X4_215 rfl dX4_beastsHere_17 ?_
    obtain ⟨g, h_g, e_g⟩ := kn_rng (n := 8) v_r_6 rfl
    refine q_eqi (nI g) e_g ?_
    refine q_istore_n (lv' := [(1, .int (nI g)), (0, .ref (B 0))]) K dX4_beastsHere_20 (by decide) rfl ?_
    refine q_aload_n K 1 dX4_beastsHere_21 rfl ?_
    obtain ⟨i_8, hi_8, ei_8⟩ := hin_3
    refine q_wV (q0 := 0) (As := []) (rest := []) K kv_X4_nextToken (c_X4_nextToken (k_l M) (k_Z M) B X (p_nx (a_tp X) D) hq i_8 hi_8 ei_8) rfl rfl ml_X4_242 rfl rfl (Nat.le_of_ble_eq_true rfl) ⟨Nat.le_of_ble_eq_true rfl, Nat.le_of_ble_eq_true rfl⟩ dX4_beastsHere_22 (fun w2 h_7 => ?_)
    obtain rfl := h_7
    refine q_ws (ws' := w_M (k_Z M) B X (p_nx (a_tp X) (p_nx (a_tp X) D))) (congrArg (w_M (k_Z M) B X) (p_nx_eq (p := a_tp X) (by omega) ei_8)) ?_
    have hin_9 : d_in (a_tp X) (p_nx (a_tp X) (p_nx (a_tp X) D)) := p_nx_in hq ⟨i_8, hi_8, ei_8⟩
    have hfe_10 : d_fe (a_tp X) (p_nx (a_tp X) (p_nx (a_tp X) D)) := p_nx_fe hq ⟨i_8, hi_8, ei_8⟩
    refine q_aload_n K 1 dX4_beastsHere_25 rfl ?_
    refine q_iconst 0 K dX4_beastsHere_26 rfl ?_
    refine q_sipush 9999 K dX4_beastsHere_27 rfl ?_
    refine q_wI (q0 := 0) (As := [.int 0, .int 9999]) (rest := []) K kv_X4_isNumber (c_X4_isNumber (k_l M) (k_Z M) B X (p_nx (a_tp X) (p_nx (a_tp X) D)) 0 9999) rfl rfl ml_X4_245 rfl rfl (Nat.le_of_ble_eq_true rfl) ⟨Nat.le_of_ble_eq_true rfl, Nat.le_of_ble_eq_true rfl⟩ dX4_beastsHere_30 (fun r_12 w2 h_11 => ?_)
    rcases h_11 with ⟨t_r_12, v_r_12, e_r_12, rfl⟩ | ⟨n_r_12, e_r_12, rfl⟩
    · refine q_eqi 1 e_r_12 ?_
      refine q_if_ne 38 K dX4_beastsHere_33 (by decide) (fun c_0 => ?_) (fun c_0 => absurd c_0 (by decide))
      refine q_aload_n K 1 dX4_beastsHere_38 rfl ?_
      refine q_get (.ref (B 1)) K ws_X4 0 rfl rfl 0 (by decide) fl_X4_7 rfl dX4_beastsHere_39 ?_
      refine q_iconst 4 K dX4_beastsHere_42 rfl ?_
      refine q_iload_n K 0 dX4_beastsHere_43 rfl ?_
      refine q_iadd K dX4_beastsHere_44 ?_
      refine q_eqi (nI (4 + g)) (kn_add 4 g) ?_
      refine q_aload_n K 1 dX4_beastsHere_45 rfl ?_
      refine q_get (.int (d_vl (p_nx (a_tp X) (p_nx (a_tp X) D)))) K ws_X4 0 rfl rfl 15 (by decide) fl_X4_215 rfl dX4_beastsHere_46 ?_
      refine q_iast (ws' := w_M (k_Z M) B (f_setbs (a_F X) (upd (f_bs (a_F X)) g (d_vl (p_nx (a_tp X) (p_nx (a_tp X) D)))), a_K X, a_kp X, a_fd X, a_tp X, a_S X) (p_nx (a_tp X) (p_nx (a_tp X) D))) K 1 rfl (vp_in_nI (n := 4 + g) (N := 71) (by omega) (by omega)) (by rw [nI_clamp (n := 4 + g) (by omega), up_bs _ (by omega) _]; rfl) dX4_beastsHere_49 ?_
      refine q_aload_n K 1 dX4_beastsHere_50 rfl ?_
      obtain ⟨i_14, hi_14, ei_14⟩ := hin_9
      refine q_wV (q0 := 0) (As := []) (rest := []) K kv_X4_nextToken (c_X4_nextToken (k_l M) (k_Z M) B (f_setbs (a_F X) (upd (f_bs (a_F X)) g (d_vl (p_nx (a_tp X) (p_nx (a_tp X) D)))), a_K X, a_kp X, a_fd X, a_tp X, a_S X) (p_nx (a_tp X) (p_nx (a_tp X) D)) hq i_14 hi_14 ei_14) rfl rfl ml_X4_242 rfl rfl (Nat.le_of_ble_eq_true rfl) ⟨Nat.le_of_ble_eq_true rfl, Nat.le_of_ble_eq_true rfl⟩ dX4_beastsHere_51 (fun w2 h_13 => ?_)
      obtain rfl := h_13
      refine q_ws (ws' := w_M (k_Z M) B (f_setbs (a_F X) (upd (f_bs (a_F X)) g (d_vl (p_nx (a_tp X) (p_nx (a_tp X) D)))), a_K X, a_kp X, a_fd X, a_tp X, a_S X) (p_nx (a_tp X) (p_nx (a_tp X) (p_nx (a_tp X) D)))) (congrArg (w_M (k_Z M) B (f_setbs (a_F X) (upd (f_bs (a_F X)) g (d_vl (p_nx (a_tp X) (p_nx (a_tp X) D)))), a_K X, a_kp X, a_fd X, a_tp X, a_S X)) (p_nx_eq (p := a_tp X) (by omega) ei_14)) ?_
      have hin_15 : d_in (a_tp X) (p_nx (a_tp X) (p_nx (a_tp X) (p_nx (a_tp X) D))) := p_nx_in hq ⟨i_14, hi_14, ei_14⟩
      have hfe_16 : d_fe (a_tp X) (p_nx (a_tp X) (p_nx (a_tp X) (p_nx (a_tp X) D))) := p_nx_fe hq ⟨i_14, hi_14, ei_14⟩
      refine q_iconst 1 K dX4_beastsHere_54 rfl ?_
      exact Rt _ _ 1 (w_M (k_Z M) B (f_setbs (a_F X) (upd (f_bs (a_F X)) g (d_vl (p_nx (a_tp X) (p_nx (a_tp X) D)))), a_K X, a_kp X, a_fd X, a_tp X, a_S X) (p_nx (a_tp X) (p_nx (a_tp X) (p_nx (a_tp X) D)))) dX4_beastsHere_55 rfl (Or.inl ⟨⟨t_r_6, v_r_6⟩, ⟨t_r_12, v_r_12⟩, rfl, by rw [e_g, nI_clamp (by omega)]; rfl⟩)
    · refine q_eqi 0 e_r_12 ?_
      refine q_if_ne 38 K dX4_beastsHere_33 (by decide) (fun c_0 => absurd c_0 (by decide)) (fun c_0 => ?_)
      refine q_iconst 0 K dX4_beastsHere_36 rfl ?_
      exact Rt _ _ 0 (w_M (k_Z M) B X (d_setfa (p_nx (a_tp X) (p_nx (a_tp X) D)) (d_fr (p_nx (a_tp X) (p_nx (a_tp X) D))))) dX4_beastsHere_37 rfl (Or.inr (Or.inl ⟨⟨t_r_6, v_r_6⟩, n_r_12, rfl, rfl⟩))
  · refine q_eqi 0 e_r_6 ?_
    refine q_if_ne 16 K dX4_beastsHere_11 (by decide) (fun c_0 => absurd c_0 (by decide)) (fun c_0 => ?_)
    refine q_iconst 0 K dX4_beastsHere_14 rfl ?_
    exact Rt _ _ 0 (w_M (k_Z M) B X (d_setfa (p_nx (a_tp X) D) (d_fr (p_nx (a_tp X) D)))) dX4_beastsHere_15 rfl (Or.inr (Or.inr ⟨n_r_6, rfl, rfl⟩))
theorem kv_X4_beastsHere : k_iv yX4_beastsHere cX4_beastsHere 2 (some .boolean) 0 := ⟨⟨im_X4_beastsHere, se_X4_beastsHere⟩, in_X4, co_X4_beastsHere, by decide +kernel⟩
