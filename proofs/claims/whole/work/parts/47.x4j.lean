set_option maxHeartbeats 4000000 in
set_option maxRecDepth 100000 in
theorem c_X4_draw (l : Launch) (Z : kz_Z) (B : Nat → Nat) (X : AS) (D : DJ) : KI l Z yX4_draw cX4_draw 1 .int 0 0 [.ref (B 0)] (w_M Z B X D) (fun r w2 => r = f_drw (f_nz (f_zz (a_F X))) ∧ w2 = w_M Z B (a_setF X (f_setz (a_F X) (f_nz (f_zz (a_F X))))) D) := by
  refine ki_of (by decide) [(0, .ref (B 0))] (Nat.le_of_ble_eq_true rfl) rfl ?_
  intro M e1 e2 K Rt
  subst e1 e2
  refine q_aload_n K 0 dX4_draw_0 rfl ?_
  refine q_get (.ref (B 1)) K ws_X4 0 rfl rfl 0 (by decide) fl_X4_7 rfl dX4_draw_1 ?_
  refine q_iconst 2 K dX4_draw_4 rfl ?_
  refine q_aload_n K 0 dX4_draw_5 rfl ?_
  refine q_get (.ref (B 1)) K ws_X4 0 rfl rfl 0 (by decide) fl_X4_7 rfl dX4_draw_6 ?_
  refine q_iconst 2 K dX4_draw_9 rfl ?_
  refine q_iald K 1 rfl (vp_in_nI (n := 2) (N := 71) (by omega) (by omega)) dX4_draw_10 ?_
  refine q_eqi (f_zz (a_F X)) rfl ?_
  refine q_ldc K dX4_draw_11 ct_X4_185 ?_
  refine q_imul K dX4_draw_13 ?_
  refine q_sipush 12345 K dX4_draw_14 rfl ?_
  refine q_iadd K dX4_draw_17 ?_
  refine q_topi (fun z1 ez1 => ?_)
  have ez1 : z1 = f_nz (f_zz (a_F X)) := ez1
  refine q_iast (ws' := w_M (k_Z M) B (f_setz (a_F X) z1, a_K X, a_kp X, a_fd X, a_tp X, a_S X) D) K 1 rfl (vp_in_nI (n := 2) (N := 71) (by omega) (by omega)) (by rw [show (2 : Int32).toNatClampNeg = 2 from rfl, up_2 _ _]; rfl) dX4_draw_18 ?_
  refine q_aload_n K 0 dX4_draw_19 rfl ?_
  refine q_get (.ref (B 1)) K ws_X4 0 rfl rfl 0 (by decide) fl_X4_7 rfl dX4_draw_20 ?_
  refine q_iconst 2 K dX4_draw_23 rfl ?_
  refine q_iald K 1 rfl (vp_in_nI (n := 2) (N := 71) (by omega) (by omega)) dX4_draw_24 ?_
  refine q_eqi (f_zz (f_setz (a_F X) z1)) rfl ?_
  refine q_eqi z1 rfl ?_
  refine q_bipush 8 K dX4_draw_25 rfl ?_
  refine q_iushr K dX4_draw_27 ?_
  refine q_eqi (f_drw z1) rfl ?_
  exact Rt _ _ (f_drw z1) (w_M (k_Z M) B (f_setz (a_F X) z1, a_K X, a_kp X, a_fd X, a_tp X, a_S X) D) dX4_draw_28 rfl (⟨by rw [ez1], by rw [ez1]; rfl⟩)
theorem kv_X4_draw : k_iv yX4_draw cX4_draw 1 (some .int) 0 := ⟨⟨im_X4_draw, se_X4_draw⟩, in_X4, co_X4_draw, by decide +kernel⟩
set_option maxHeartbeats 4000000 in
set_option maxRecDepth 100000 in
theorem c_X4_gales (l : Launch) (Z : kz_Z) (B : Nat → Nat) (X : AS) (D : DJ) (m : Nat) (hm : m ≤ 8) (hm2 : f_wk (a_F X) = nI m) (hok : f_ok (a_F X)) (hh : ∃ h : Nat, h ≤ 99999 ∧ f_hr (a_F X) = nI h) (n : Int32) : KI l Z yX4_gales cX4_gales 3 .int 4 97 [.ref (B 0), .int n] (w_M Z B X D) (fun r w2 => ∃ D2, r = (o_gales X n).1 ∧ w2 = w_M Z B (o_gales X n).2 D2) := by
  refine ki_of (by decide) [(0, .ref (B 0)), (1, .int n)] (Nat.le_of_ble_eq_true rfl) rfl ?_
  intro M e1 e2 K Rt
  subst e1 e2
  refine q_iload_n K 1 dX4_gales_0 rfl ?_
  refine q_i2l K dX4_gales_1 ?_
  refine q_lconst 1 K dX4_gales_2 rfl ?_
  refine q_ldc2 K dX4_gales_3 ct_X4_166 ?_
  refine q_cp (rest := []) K ks_X4_isIn (c_X4_isIn (k_l M) (k_Z M) n.toInt64 1 20) ml_X4_43 rfl rfl (Nat.le_of_ble_eq_true rfl) ⟨Nat.le_of_ble_eq_true rfl, Nat.le_of_ble_eq_true rfl⟩ dX4_gales_6 (fun r_1 e_r_1 => ?_)
  have e_r_1 : r_1 = if inR n 1 20 then 1 else 0 := kn_if e_r_1 (kn_i64 (v := n) (lo := 1) (hi := 20))
  refine q_if_ne 19 K dX4_gales_9 (by decide) (fun c_2 => ?_) (fun c_2 => ?_)
  · have c_2 : inR n 1 20 := (kn_ne e_r_1).mp c_2
    obtain ⟨k, h_k, e_k⟩ := kn_rng1 (n := 20) c_2 rfl
    subst e_k
    refine q_aload_n K 0 dX4_gales_19 rfl ?_
    refine q_get (.ref (B 1)) K ws_X4 0 rfl rfl 0 (by decide) fl_X4_7 rfl dX4_gales_20 ?_
    refine q_iconst 1 K dX4_gales_23 rfl ?_
    refine q_iald K 1 rfl (vp_in_nI (n := 1) (N := 71) (by omega) (by omega)) dX4_gales_24 ?_
    refine q_eqi (f_hr (a_F X)) rfl ?_
    refine q_iload_n K 1 dX4_gales_25 rfl ?_
    refine q_iadd K dX4_gales_26 ?_
    refine q_ldc K dX4_gales_27 ct_X4_120 ?_
    refine q_icmp_le 39 K dX4_gales_29 (by decide) (fun c_3 => ?_) (fun c_3 => ?_)
    · refine q_iconst 0 K dX4_gales_39 rfl ?_
      refine q_istore_n (lv' := [(2, .int 0), (0, .ref (B 0)), (1, .int (nI k))]) K dX4_gales_40 (by decide) rfl ?_
      refine q_loop (α := Nat × (Nat → Int32)) (fun n9 x9 => x9.1 + n9 = k) 41 (fun x9 => [(2, .int (nI x9.1)), (0, .ref (B 0)), (1, .int (nI k))]) (fun x9 => w_M (k_Z M) B (f_galesR (a_F X) x9.1, a_K X, a_kp X, a_fd X, a_tp X, a_S X) (d_bf D, d_as D, x9.2, d_tk D, d_fr D, d_to D, d_vl D, d_fa D)) (fun n_4 x9 hI_5 ih_6 => ?_) k (0, d_gn D) (by show _ = _; omega)
      obtain ⟨i, T1⟩ := x9
      dsimp only at hI_5 ih_6 ⊢
      refine q_iload_n K 0 dX4_gales_41 rfl ?_
      refine q_iload_n K 2 dX4_gales_42 rfl ?_
      refine q_icmp_ge 86 K dX4_gales_43 (by decide) (fun c_7 => ?_) (fun c_7 => ?_)
      · have c_7n : k ≤ i := (nI_leI (a := k) (b := i) (by omega) (by omega)).mp c_7
        refine q_ws (ws' := w_M (k_Z M) B (f_gales (a_F X) k, a_K X, a_kp X, a_fd X, a_tp X, a_S X) (d_bf D, d_as D, T1, d_tk D, d_fr D, d_to D, d_vl D, d_fa D)) (by rw [show i = k by omega, f_gaC hm hm2 hh (by omega) c_3]) ?_
        refine q_aload_n K 1 dX4_gales_86 rfl ?_
        refine q_wI (q0 := 0) (As := []) (rest := []) K kv_X4_notShut (c_X4_notShut (k_l M) (k_Z M) B (f_gales (a_F X) k, a_K X, a_kp X, a_fd X, a_tp X, a_S X) (d_bf D, d_as D, T1, d_tk D, d_fr D, d_to D, d_vl D, d_fa D)) rfl rfl ml_X4_132 rfl rfl (Nat.le_of_ble_eq_true rfl) ⟨Nat.le_of_ble_eq_true rfl, Nat.le_of_ble_eq_true rfl⟩ dX4_gales_87 (fun r_9 w2 h_8 => ?_)
        obtain ⟨e_r_9, rfl⟩ := h_8
        refine q_eqi (f_ns (f_gales (a_F X) k) 8) e_r_9 ?_
        exact Rt _ _ (f_ns (f_gales (a_F X) k) 8) (w_M (k_Z M) B (f_gales (a_F X) k, a_K X, a_kp X, a_fd X, a_tp X, a_S X) (d_bf D, d_as D, T1, d_tk D, d_fr D, d_to D, d_vl D, d_fa D)) dX4_gales_90 rfl (⟨(d_bf D, d_as D, T1, d_tk D, d_fr D, d_to D, d_vl D, d_fa D), by simp only [o_gales, a_fin, if_pos c_2, if_pos c_3, if_pos c_7, e_r_1, nI_clamp (n := k) (by omega)] <;> rfl, by simp only [o_gales, a_fin, if_pos c_2, if_pos c_3, if_pos c_7, nI_clamp (n := k) (by omega)] <;> rfl⟩)
      · have c_7n : ¬ (k ≤ i) := fun h9 => c_7 ((nI_leI (a := k) (b := i) (by omega) (by omega)).mpr h9)
        refine k_name (P := fun Fb => kJ M 3 46 [(2, .int (nI i)), (0, .ref (B 0)), (1, .int (nI k))] [] (w_M (k_Z M) B (Fb, a_K X, a_kp X, a_fd X, a_tp X, a_S X) (d_bf D, d_as D, T1, d_tk D, d_fr D, d_to D, d_vl D, d_fa D))) (f_galesR (a_F X) i) (fun Fb e_Fb => ?_)
        refine q_aload_n K 1 dX4_gales_46 rfl ?_
        refine q_get (.ref (B 1)) K ws_X4 0 rfl rfl 0 (by decide) fl_X4_7 rfl dX4_gales_47 ?_
        refine q_iconst 3 K dX4_gales_50 rfl ?_
        refine q_aload_n K 1 dX4_gales_51 rfl ?_
        refine q_wI (q0 := 0) (As := []) (rest := [.int 3, .ref (B 1)]) K kv_X4_draw (c_X4_draw (k_l M) (k_Z M) B (Fb, a_K X, a_kp X, a_fd X, a_tp X, a_S X) (d_bf D, d_as D, T1, d_tk D, d_fr D, d_to D, d_vl D, d_fa D)) rfl rfl ml_X4_186 rfl rfl (Nat.le_of_ble_eq_true rfl) ⟨Nat.le_of_ble_eq_true rfl, Nat.le_of_ble_eq_true rfl⟩ dX4_gales_52 (fun r_11 w2 h_10 => ?_)
        obtain ⟨e_r_11, rfl⟩ := h_10
        refine k_name (P := fun z1 => kJ M 3 55 [(2, .int (nI i)), (0, .ref (B 0)), (1, .int (nI k))] [.int r_11, .int 3, .ref (B 1)] (w_M (k_Z M) B (f_setz Fb z1, a_K X, a_kp X, a_fd X, a_tp X, a_S X) (d_bf D, d_as D, T1, d_tk D, d_fr D, d_to D, d_vl D, d_fa D))) (f_nz (f_zz Fb)) (fun z1 e_z1 => ?_)
        have e_r_11 : r_11 = f_drw z1 := by rw [e_z1]; exact e_r_11
        refine k_name (P := fun F1 => kJ M 3 55 [(2, .int (nI i)), (0, .ref (B 0)), (1, .int (nI k))] [.int r_11, .int 3, .ref (B 1)] (w_M (k_Z M) B (F1, a_K X, a_kp X, a_fd X, a_tp X, a_S X) (d_bf D, d_as D, T1, d_tk D, d_fr D, d_to D, d_vl D, d_fa D))) (f_setz Fb z1) (fun F1 e_F1 => ?_)
        refine q_eqi (f_drw z1) e_r_11 ?_
        refine q_bipush 10 K dX4_gales_55 rfl ?_
        refine q_irem K dX4_gales_57 (by decide) ?_
        refine q_topi (fun wv e_wv => ?_)
        have e_wv : wv = f_r10 (f_drw z1) := e_wv
        refine q_iast (ws' := w_M (k_Z M) B (f_setwd F1 wv, a_K X, a_kp X, a_fd X, a_tp X, a_S X) (d_bf D, d_as D, T1, d_tk D, d_fr D, d_to D, d_vl D, d_fa D)) K 1 rfl (vp_in_nI (n := 3) (N := 71) (by omega) (by omega)) (by rw [show (3 : Int32).toNatClampNeg = 3 from rfl, up_3 _ _]; rfl) dX4_gales_58 ?_
        refine q_ws (ws' := w_M (k_Z M) B (f_setwd F1 wv, a_K X, a_kp X, a_fd X, a_tp X, a_S X) (d_bf D, d_as D, T1, d_tk D, d_fr D, d_to D, d_vl D, d_fa D)) rfl ?_
        refine k_name (P := fun F2 => kJ M 3 59 [(2, .int (nI i)), (0, .ref (B 0)), (1, .int (nI k))] [] (w_M (k_Z M) B (F2, a_K X, a_kp X, a_fd X, a_tp X, a_S X) (d_bf D, d_as D, T1, d_tk D, d_fr D, d_to D, d_vl D, d_fa D))) (f_setwd F1 wv) (fun F2 e_F2 => ?_)
        refine q_aload_n K 1 dX4_gales_59 rfl ?_
        refine q_get (.ref (B 1)) K ws_X4 0 rfl rfl 0 (by decide) fl_X4_7 rfl dX4_gales_60 ?_
        refine q_bipush 13 K dX4_gales_63 rfl ?_
        refine q_aload_n K 1 dX4_gales_65 rfl ?_
        refine q_wI (q0 := 0) (As := []) (rest := [.int 13, .ref (B 1)]) K kv_X4_draw (c_X4_draw (k_l M) (k_Z M) B (F2, a_K X, a_kp X, a_fd X, a_tp X, a_S X) (d_bf D, d_as D, T1, d_tk D, d_fr D, d_to D, d_vl D, d_fa D)) rfl rfl ml_X4_186 rfl rfl (Nat.le_of_ble_eq_true rfl) ⟨Nat.le_of_ble_eq_true rfl, Nat.le_of_ble_eq_true rfl⟩ dX4_gales_66 (fun r_13 w2 h_12 => ?_)
        obtain ⟨e_r_13, rfl⟩ := h_12
        refine k_name (P := fun z3 => kJ M 3 69 [(2, .int (nI i)), (0, .ref (B 0)), (1, .int (nI k))] [.int r_13, .int 13, .ref (B 1)] (w_M (k_Z M) B (f_setz F2 z3, a_K X, a_kp X, a_fd X, a_tp X, a_S X) (d_bf D, d_as D, T1, d_tk D, d_fr D, d_to D, d_vl D, d_fa D))) (f_nz (f_zz F2)) (fun z3 e_z3 => ?_)
        have e_r_13 : r_13 = f_drw z3 := by rw [e_z3]; exact e_r_13
        refine k_name (P := fun F3 => kJ M 3 69 [(2, .int (nI i)), (0, .ref (B 0)), (1, .int (nI k))] [.int r_13, .int 13, .ref (B 1)] (w_M (k_Z M) B (F3, a_K X, a_kp X, a_fd X, a_tp X, a_S X) (d_bf D, d_as D, T1, d_tk D, d_fr D, d_to D, d_vl D, d_fa D))) (f_setz F2 z3) (fun F3 e_F3 => ?_)
        refine q_eqi (f_drw z3) e_r_13 ?_
        refine q_bipush 8 K dX4_gales_69 rfl ?_
        refine q_irem K dX4_gales_71 (by decide) ?_
        refine q_eqi (f_r8 (f_drw z3)) rfl ?_
        obtain ⟨g, hg, eg⟩ := f_r8_nat z3
        rw [eg]
        refine q_iadd K dX4_gales_72 ?_
        refine q_eqi (nI (13 + g)) (kn_add 13 g) ?_
        refine q_iconst 2 K dX4_gales_73 rfl ?_
        refine q_iast (ws' := w_M (k_Z M) B (f_setgs F3 (upd (f_gs F3) g 2), a_K X, a_kp X, a_fd X, a_tp X, a_S X) (d_bf D, d_as D, T1, d_tk D, d_fr D, d_to D, d_vl D, d_fa D)) K 1 rfl (vp_in_nI (n := 13 + g) (N := 71) (by omega) (by omega)) (by rw [nI_clamp (n := 13 + g) (by omega), up_gs _ (by omega) _]; rfl) dX4_gales_74 ?_
        refine q_ws (ws' := w_M (k_Z M) B (f_setgs F3 (upd (f_gs F3) g 2), a_K X, a_kp X, a_fd X, a_tp X, a_S X) (d_bf D, d_as D, T1, d_tk D, d_fr D, d_to D, d_vl D, d_fa D)) rfl ?_
        refine k_name (P := fun F4 => kJ M 3 75 [(2, .int (nI i)), (0, .ref (B 0)), (1, .int (nI k))] [] (w_M (k_Z M) B (F4, a_K X, a_kp X, a_fd X, a_tp X, a_S X) (d_bf D, d_as D, T1, d_tk D, d_fr D, d_to D, d_vl D, d_fa D))) (f_setgs F3 (upd (f_gs F3) g 2)) (fun F4 e_F4 => ?_)
        have e_q : F4 = f_ga3 (f_galesR (a_F X) i) := by
          have e_p : f_nz z1 = z3 := by rw [e_z3, e_F2, f_setwd_zz, e_F1, f_setz_zz]
          rw [f_ga3, f_ga2, f_ga1, ← e_Fb, ← e_z1, ← e_wv, e_p, ← e_F1, ← e_F2, ← e_F3, eg, nI_clamp (by omega), e_F4, e_F3, f_setz_gs, e_F2, f_setwd_gs, e_F1, f_setz_gs]
        have hm4 : f_wk F4 = nI m := by rw [e_q, f_ga3_wk, f_galesR_wk]; exact hm2
        have ho4 : f_ok F4 := by rw [e_q]; exact f_ok_ga3 (f_ok_galesR hok (hC_m hm hm2) i)
        refine q_aload_n K 1 dX4_gales_75 rfl ?_
        refine q_iconst 0 K dX4_gales_76 rfl ?_
        refine q_wV (q0 := 0) (As := [.int 0]) (rest := []) K kv_X4_hourBut (c_X4_hourBut (k_l M) (k_Z M) B (F4, a_K X, a_kp X, a_fd X, a_tp X, a_S X) (d_bf D, d_as D, T1, d_tk D, d_fr D, d_to D, d_vl D, d_fa D) m hm hm4 ho4 0) rfl rfl ml_X4_115 rfl rfl (Nat.le_of_ble_eq_true rfl) ⟨Nat.le_of_ble_eq_true rfl, Nat.le_of_ble_eq_true rfl⟩ dX4_gales_77 (fun w2 h_14 => ?_)
        obtain ⟨x_16, rfl⟩ := h_14
        refine q_ws (ws' := w_M (k_Z M) B (f_hourR (f_gn 0) F4, a_K X, a_kp X, a_fd X, a_tp X, a_S X) (d_bf D, d_as D, x_16, d_tk D, d_fr D, d_to D, d_vl D, d_fa D)) rfl ?_
        refine q_ws (ws' := w_M (k_Z M) B (f_galesR (a_F X) (i + 1), a_K X, a_kp X, a_fd X, a_tp X, a_S X) (d_bf D, d_as D, x_16, d_tk D, d_fr D, d_to D, d_vl D, d_fa D)) (by rw [f_galesR, ← e_q]) ?_
        refine q_iinc (nI (i + 1)) (lv' := [(2, .int (nI (i + 1))), (0, .ref (B 0)), (1, .int (nI k))]) K 0 dX4_gales_80 rfl (kn_inc i) (by decide) rfl ?_
        refine q_goto 41 K dX4_gales_83 (by decide) ?_
        exact ih_6 (n_4 - 1) (i + 1, x_16) (by omega) (by show i + 1 + (n_4 - 1) = k; omega)
    · refine q_aload_n K 0 dX4_gales_32 rfl ?_
      refine q_ldc K dX4_gales_33 ct_X4_121 ?_
      refine q_eqi (r_fin 4) (by decide) ?_
      refine q_wI (q0 := 0) (As := [.int (r_fin 4)]) (rest := []) K kv_X4_finds (c_X4_finds (k_l M) (k_Z M) B X D 4 (by omega)) rfl rfl ml_X4_48 rfl rfl (Nat.le_of_ble_eq_true rfl) ⟨Nat.le_of_ble_eq_true rfl, Nat.le_of_ble_eq_true rfl⟩ dX4_gales_35 (fun r_18 w2 h_17 => ?_)
      obtain ⟨e_r_18, rfl⟩ := h_17
      refine q_eqi (r_fin 4) e_r_18 ?_
      refine q_ws (ws' := w_M (k_Z M) B (a_F X, a_K X, a_kp X, fd_up (a_fd X) 4, a_tp X, a_S X) D) rfl ?_
      exact Rt _ _ (r_fin 4) (w_M (k_Z M) B (a_F X, a_K X, a_kp X, fd_up (a_fd X) 4, a_tp X, a_S X) D) dX4_gales_38 rfl (⟨D, by simp only [o_gales, a_fin, if_pos c_2, if_neg c_3, e_r_1, nI_clamp (n := k) (by omega)] <;> rfl, by simp only [o_gales, a_fin, if_pos c_2, if_neg c_3, nI_clamp (n := k) (by omega)] <;> rfl⟩)
  · have c_2 : ¬ (inR n 1 20) := (kn_eq e_r_1).mp c_2
    refine q_aload_n K 0 dX4_gales_12 rfl ?_
    refine q_ldc K dX4_gales_13 ct_X4_40 ?_
    refine q_eqi (r_fin 0) (by decide) ?_
    refine q_wI (q0 := 0) (As := [.int (r_fin 0)]) (rest := []) K kv_X4_finds (c_X4_finds (k_l M) (k_Z M) B X D 0 (by omega)) rfl rfl ml_X4_48 rfl rfl (Nat.le_of_ble_eq_true rfl) ⟨Nat.le_of_ble_eq_true rfl, Nat.le_of_ble_eq_true rfl⟩ dX4_gales_15 (fun r_20 w2 h_19 => ?_)
    obtain ⟨e_r_20, rfl⟩ := h_19
    refine q_eqi (r_fin 0) e_r_20 ?_
    refine q_ws (ws' := w_M (k_Z M) B (a_F X, a_K X, a_kp X, fd_up (a_fd X) 0, a_tp X, a_S X) D) rfl ?_
    exact Rt _ _ (r_fin 0) (w_M (k_Z M) B (a_F X, a_K X, a_kp X, fd_up (a_fd X) 0, a_tp X, a_S X) D) dX4_gales_18 rfl (⟨D, by simp only [o_gales, a_fin, if_neg c_2, e_r_1] <;> rfl, by simp only [o_gales, a_fin, if_neg c_2] <;> rfl⟩)
theorem kv_X4_gales : k_iv yX4_gales cX4_gales 3 (some .int) 1 := ⟨⟨im_X4_gales, se_X4_gales⟩, in_X4, co_X4_gales, by decide +kernel⟩
set_option maxHeartbeats 4000000 in
set_option maxRecDepth 100000 in
theorem c_X4_feed (l : Launch) (Z : kz_Z) (B : Nat → Nat) (X : AS) (D : DJ) (m : Nat) (hm : m ≤ 8) (hm2 : f_wk (a_F X) = nI m) (hok : f_ok (a_F X)) (hq : (a_tp X).2 ≤ 120) (b n : Int32) : KI l Z yX4_feed cX4_feed 4 .int 1 25 [.ref (B 0), .int b, .int n] (w_M Z B X D) (fun r w2 => ∃ D2, r = (o_feed X b n).1 ∧ w2 = w_M Z B (o_feed X b n).2 D2) := by
  refine ki_of (by decide) [(0, .ref (B 0)), (1, .int b), (2, .int n)] (Nat.le_of_ble_eq_true rfl) rfl ?_
  intro M e1 e2 K Rt
  subst e1 e2
  refine q_iload_n K 2 dX4_feed_0 rfl ?_
  refine q_i2l K dX4_feed_1 ?_
  refine q_lconst 1 K dX4_feed_2 rfl ?_
  refine q_ldc2 K dX4_feed_3 ct_X4_97 ?_
  refine q_cp (rest := []) K ks_X4_isIn (c_X4_isIn (k_l M) (k_Z M) n.toInt64 1 4) ml_X4_43 rfl rfl (Nat.le_of_ble_eq_true rfl) ⟨Nat.le_of_ble_eq_true rfl, Nat.le_of_ble_eq_true rfl⟩ dX4_feed_6 (fun r_1 e_r_1 => ?_)
  have e_r_1 : r_1 = if inR n 1 4 then 1 else 0 := kn_if e_r_1 (kn_i64 (v := n) (lo := 1) (hi := 4))
  refine q_if_ne 19 K dX4_feed_9 (by decide) (fun c_2 => ?_) (fun c_2 => ?_)
  · have c_2 : inR n 1 4 := (kn_ne e_r_1).mp c_2
    obtain ⟨k, h_k, e_k⟩ := kn_rng1 (n := 4) c_2 rfl
    subst e_k
    refine q_aload_n K 0 dX4_feed_19 rfl ?_
    refine q_get (.int (nI ((a_tp X).2))) K ws_X4 0 rfl rfl 7 (by decide) fl_X4_193 rfl dX4_feed_20 ?_
    refine q_eqi (nI (a_tp X).2) rfl ?_
    refine q_iload_n K 2 dX4_feed_23 rfl ?_
    refine q_iadd K dX4_feed_24 ?_
    refine q_eqi (nI (((a_tp X).2) + k)) (kn_add ((a_tp X).2) k) ?_
    refine q_bipush 120 K dX4_feed_25 rfl ?_
    refine q_icmp_le 37 K dX4_feed_27 (by decide) (fun c_3 => ?_) (fun c_3 => ?_)
    · have c_3n : ((a_tp X).2) + k ≤ 120 := (nI_leI (a := ((a_tp X).2) + k) (b := 120) (by omega) (by omega)).mp c_3
      refine q_iload_n K 2 dX4_feed_37 rfl ?_
      refine q_iconst 1 K dX4_feed_38 rfl ?_
      refine q_isub K dX4_feed_39 ?_
      rcases (show k = 1 ∨ k = 2 ∨ k = 3 ∨ k = 4 by omega) with rfl | rfl | rfl | rfl
      · refine q_eqi 0 rfl ?_
        refine q_istore_n (lv' := [(3, .int 0), (0, .ref (B 0)), (1, .int b), (2, .int (nI 1))]) K dX4_feed_40 (by decide) rfl ?_
        refine q_iload_n K 0 dX4_feed_41 rfl ?_
        refine q_if_lt 80 K dX4_feed_42 (by decide) (fun c_0 => absurd c_0 (by decide)) (fun c_0 => ?_)
        refine q_aload_n K 1 dX4_feed_45 rfl ?_
        refine q_get (.ref (B 6)) K ws_X4 0 rfl rfl 6 (by decide) fl_X4_25 rfl dX4_feed_46 ?_
        refine q_aload_n K 1 dX4_feed_49 rfl ?_
        refine q_get (.int (nI ((a_tp X).2))) K ws_X4 0 rfl rfl 7 (by decide) fl_X4_193 rfl dX4_feed_50 ?_
        refine q_eqi (nI ((a_tp X).2)) rfl ?_
        refine q_iload_n K 2 dX4_feed_53 rfl ?_
        refine q_bipush 8 K dX4_feed_54 rfl ?_
        refine q_iload_n K 0 dX4_feed_56 rfl ?_
        refine q_imul K dX4_feed_57 ?_
        refine q_eqi 0 rfl ?_
        refine q_ishr K dX4_feed_58 ?_
        refine q_sipush 255 K dX4_feed_59 rfl ?_
        refine q_iand K dX4_feed_62 ?_
        refine q_eqi (j_us b (nI (8 * 0)) &&& 255) (fd_sh b 0 (by omega)) ?_
        refine q_iast (ws' := w_M (k_Z M) B (a_F X, a_K X, a_kp X, a_fd X, (upd ((a_tp X).1) ((a_tp X).2) (j_us b (nI (8 * 0)) &&& 255), (a_tp X).2), a_S X) D) K 6 rfl (vp_in_nI (n := (a_tp X).2) (N := 120) (by omega) (by omega)) (by rw [nI_clamp (n := (a_tp X).2) (by omega)] <;> rfl) dX4_feed_63 ?_
        refine q_aload_n K 1 dX4_feed_64 rfl ?_
        refine q_dup K dX4_feed_65 rfl ?_
        refine q_get (.int (nI ((upd ((a_tp X).1) ((a_tp X).2) (j_us b (nI (8 * 0)) &&& 255), (a_tp X).2).2))) K ws_X4 0 rfl rfl 7 (by decide) fl_X4_193 rfl dX4_feed_66 ?_
        refine q_eqi (nI ((a_tp X).2)) rfl ?_
        refine q_iconst 1 K dX4_feed_69 rfl ?_
        refine q_iadd K dX4_feed_70 ?_
        refine q_eqi (nI (((a_tp X).2) + 1)) (kn_add ((a_tp X).2) 1) ?_
        refine q_put (ty := .int) (ws' := w_M (k_Z M) B (a_F X, a_K X, a_kp X, a_fd X, ((upd ((a_tp X).1) ((a_tp X).2) (j_us b (nI (8 * 0)) &&& 255), (a_tp X).2).1, ((a_tp X).2) + 1), a_S X) D) K ws_X4 tyX4 tyX4_ok nmX4 0 rfl rfl 7 (by decide) fl_X4_193 rfl (by decide +kernel) rfl rfl (Nat.le_of_ble_eq_true rfl) rfl dX4_feed_71 ?_
        refine q_ws (ws' := w_M (k_Z M) B (a_F X, a_K X, a_kp X, a_fd X, tp_put (a_tp X) (j_us b (nI (8 * 0))), a_S X) D) rfl ?_
        refine q_iinc (-1) (lv' := [(3, .int (-1)), (0, .ref (B 0)), (1, .int b), (2, .int (nI 1))]) K 0 dX4_feed_74 rfl rfl (by decide) rfl ?_
        refine q_goto 41 K dX4_feed_77 (by decide) ?_
        refine q_iload_n K 0 dX4_feed_41 rfl ?_
        refine q_if_lt 80 K dX4_feed_42 (by decide) (fun c_0 => ?_) (fun c_0 => absurd c_0 (by decide))
        refine q_aload_n K 1 dX4_feed_80 rfl ?_
        refine q_get (.int (nI ((tp_put (a_tp X) (j_us b (nI (8 * 0)))).2))) K ws_X4 0 rfl rfl 7 (by decide) fl_X4_193 rfl dX4_feed_81 ?_
        refine q_eqi (nI ((a_tp X).2 + 1)) rfl ?_
        exact Rt _ _ (nI ((a_tp X).2 + 1)) (w_M (k_Z M) B (a_F X, a_K X, a_kp X, a_fd X, tp_put (a_tp X) (j_us b (nI (8 * 0))), a_S X) D) dX4_feed_84 rfl (⟨D, by simp only [o_feed, kn_add, if_pos c_2, if_pos c_3, nI_clamp (n := 1) (by omega)] <;> rfl, by simp only [o_feed, kn_add, if_pos c_2, if_pos c_3, nI_clamp (n := 1) (by omega)] <;> rfl⟩)
      · refine q_eqi 1 rfl ?_
        refine q_istore_n (lv' := [(3, .int 1), (0, .ref (B 0)), (1, .int b), (2, .int (nI 2))]) K dX4_feed_40 (by decide) rfl ?_
        refine q_iload_n K 0 dX4_feed_41 rfl ?_
        refine q_if_lt 80 K dX4_feed_42 (by decide) (fun c_0 => absurd c_0 (by decide)) (fun c_0 => ?_)
        refine q_aload_n K 1 dX4_feed_45 rfl ?_
        refine q_get (.ref (B 6)) K ws_X4 0 rfl rfl 6 (by decide) fl_X4_25 rfl dX4_feed_46 ?_
        refine q_aload_n K 1 dX4_feed_49 rfl ?_
        refine q_get (.int (nI ((a_tp X).2))) K ws_X4 0 rfl rfl 7 (by decide) fl_X4_193 rfl dX4_feed_50 ?_
        refine q_eqi (nI ((a_tp X).2)) rfl ?_
        refine q_iload_n K 2 dX4_feed_53 rfl ?_
        refine q_bipush 8 K dX4_feed_54 rfl ?_
        refine q_iload_n K 0 dX4_feed_56 rfl ?_
        refine q_imul K dX4_feed_57 ?_
        refine q_eqi 8 rfl ?_
        refine q_ishr K dX4_feed_58 ?_
        refine q_sipush 255 K dX4_feed_59 rfl ?_
        refine q_iand K dX4_feed_62 ?_
        refine q_eqi (j_us b (nI (8 * 1)) &&& 255) (fd_sh b 1 (by omega)) ?_
        refine q_iast (ws' := w_M (k_Z M) B (a_F X, a_K X, a_kp X, a_fd X, (upd ((a_tp X).1) ((a_tp X).2) (j_us b (nI (8 * 1)) &&& 255), (a_tp X).2), a_S X) D) K 6 rfl (vp_in_nI (n := (a_tp X).2) (N := 120) (by omega) (by omega)) (by rw [nI_clamp (n := (a_tp X).2) (by omega)] <;> rfl) dX4_feed_63 ?_
        refine q_aload_n K 1 dX4_feed_64 rfl ?_
        refine q_dup K dX4_feed_65 rfl ?_
        refine q_get (.int (nI ((upd ((a_tp X).1) ((a_tp X).2) (j_us b (nI (8 * 1)) &&& 255), (a_tp X).2).2))) K ws_X4 0 rfl rfl 7 (by decide) fl_X4_193 rfl dX4_feed_66 ?_
        refine q_eqi (nI ((a_tp X).2)) rfl ?_
        refine q_iconst 1 K dX4_feed_69 rfl ?_
        refine q_iadd K dX4_feed_70 ?_
        refine q_eqi (nI (((a_tp X).2) + 1)) (kn_add ((a_tp X).2) 1) ?_
        refine q_put (ty := .int) (ws' := w_M (k_Z M) B (a_F X, a_K X, a_kp X, a_fd X, ((upd ((a_tp X).1) ((a_tp X).2) (j_us b (nI (8 * 1)) &&& 255), (a_tp X).2).1, ((a_tp X).2) + 1), a_S X) D) K ws_X4 tyX4 tyX4_ok nmX4 0 rfl rfl 7 (by decide) fl_X4_193 rfl (by decide +kernel) rfl rfl (Nat.le_of_ble_eq_true rfl) rfl dX4_feed_71 ?_
        refine q_ws (ws' := w_M (k_Z M) B (a_F X, a_K X, a_kp X, a_fd X, tp_put (a_tp X) (j_us b (nI (8 * 1))), a_S X) D) rfl ?_
        refine q_iinc 0 (lv' := [(3, .int 0), (0, .ref (B 0)), (1, .int b), (2, .int (nI 2))]) K 0 dX4_feed_74 rfl rfl (by decide) rfl ?_
        refine q_goto 41 K dX4_feed_77 (by decide) ?_
        refine q_iload_n K 0 dX4_feed_41 rfl ?_
        refine q_if_lt 80 K dX4_feed_42 (by decide) (fun c_0 => absurd c_0 (by decide)) (fun c_0 => ?_)
        refine q_aload_n K 1 dX4_feed_45 rfl ?_
        refine q_get (.ref (B 6)) K ws_X4 0 rfl rfl 6 (by decide) fl_X4_25 rfl dX4_feed_46 ?_
        refine q_aload_n K 1 dX4_feed_49 rfl ?_
        refine q_get (.int (nI ((tp_put (a_tp X) (j_us b (nI (8 * 1)))).2))) K ws_X4 0 rfl rfl 7 (by decide) fl_X4_193 rfl dX4_feed_50 ?_
        refine q_eqi (nI ((a_tp X).2 + 1)) rfl ?_
        refine q_iload_n K 2 dX4_feed_53 rfl ?_
        refine q_bipush 8 K dX4_feed_54 rfl ?_
        refine q_iload_n K 0 dX4_feed_56 rfl ?_
        refine q_imul K dX4_feed_57 ?_
        refine q_eqi 0 rfl ?_
        refine q_ishr K dX4_feed_58 ?_
        refine q_sipush 255 K dX4_feed_59 rfl ?_
        refine q_iand K dX4_feed_62 ?_
        refine q_eqi (j_us b (nI (8 * 0)) &&& 255) (fd_sh b 0 (by omega)) ?_
        refine q_iast (ws' := w_M (k_Z M) B (a_F X, a_K X, a_kp X, a_fd X, (upd ((tp_put (a_tp X) (j_us b (nI (8 * 1)))).1) ((a_tp X).2 + 1) (j_us b (nI (8 * 0)) &&& 255), (tp_put (a_tp X) (j_us b (nI (8 * 1)))).2), a_S X) D) K 6 rfl (vp_in_nI (n := (a_tp X).2 + 1) (N := 120) (by omega) (by omega)) (by rw [nI_clamp (n := (a_tp X).2 + 1) (by omega)] <;> rfl) dX4_feed_63 ?_
        refine q_aload_n K 1 dX4_feed_64 rfl ?_
        refine q_dup K dX4_feed_65 rfl ?_
        refine q_get (.int (nI ((upd ((tp_put (a_tp X) (j_us b (nI (8 * 1)))).1) ((a_tp X).2 + 1) (j_us b (nI (8 * 0)) &&& 255), (tp_put (a_tp X) (j_us b (nI (8 * 1)))).2).2))) K ws_X4 0 rfl rfl 7 (by decide) fl_X4_193 rfl dX4_feed_66 ?_
        refine q_eqi (nI ((a_tp X).2 + 1)) rfl ?_
        refine q_iconst 1 K dX4_feed_69 rfl ?_
        refine q_iadd K dX4_feed_70 ?_
        refine q_eqi (nI (((a_tp X).2 + 1) + 1)) (kn_add ((a_tp X).2 + 1) 1) ?_
        refine q_put (ty := .int) (ws' := w_M (k_Z M) B (a_F X, a_K X, a_kp X, a_fd X, ((upd ((tp_put (a_tp X) (j_us b (nI (8 * 1)))).1) ((a_tp X).2 + 1) (j_us b (nI (8 * 0)) &&& 255), (tp_put (a_tp X) (j_us b (nI (8 * 1)))).2).1, ((a_tp X).2 + 1) + 1), a_S X) D) K ws_X4 tyX4 tyX4_ok nmX4 0 rfl rfl 7 (by decide) fl_X4_193 rfl (by decide +kernel) rfl rfl (Nat.le_of_ble_eq_true rfl) rfl dX4_feed_71 ?_
        refine q_ws (ws' := w_M (k_Z M) B (a_F X, a_K X, a_kp X, a_fd X, tp_put (tp_put (a_tp X) (j_us b (nI (8 * 1)))) (j_us b (nI (8 * 0))), a_S X) D) rfl ?_
        refine q_iinc (-1) (lv' := [(3, .int (-1)), (0, .ref (B 0)), (1, .int b), (2, .int (nI 2))]) K 0 dX4_feed_74 rfl rfl (by decide) rfl ?_
        refine q_goto 41 K dX4_feed_77 (by decide) ?_
        refine q_iload_n K 0 dX4_feed_41 rfl ?_
        refine q_if_lt 80 K dX4_feed_42 (by decide) (fun c_0 => ?_) (fun c_0 => absurd c_0 (by decide))
        refine q_aload_n K 1 dX4_feed_80 rfl ?_
        refine q_get (.int (nI ((tp_put (tp_put (a_tp X) (j_us b (nI (8 * 1)))) (j_us b (nI (8 * 0)))).2))) K ws_X4 0 rfl rfl 7 (by decide) fl_X4_193 rfl dX4_feed_81 ?_
        refine q_eqi (nI ((a_tp X).2 + 2)) rfl ?_
        exact Rt _ _ (nI ((a_tp X).2 + 2)) (w_M (k_Z M) B (a_F X, a_K X, a_kp X, a_fd X, tp_put (tp_put (a_tp X) (j_us b (nI (8 * 1)))) (j_us b (nI (8 * 0))), a_S X) D) dX4_feed_84 rfl (⟨D, by simp only [o_feed, kn_add, if_pos c_2, if_pos c_3, nI_clamp (n := 2) (by omega)] <;> rfl, by simp only [o_feed, kn_add, if_pos c_2, if_pos c_3, nI_clamp (n := 2) (by omega)] <;> rfl⟩)
      · refine q_eqi 2 rfl ?_
        refine q_istore_n (lv' := [(3, .int 2), (0, .ref (B 0)), (1, .int b), (2, .int (nI 3))]) K dX4_feed_40 (by decide) rfl ?_
        refine q_iload_n K 0 dX4_feed_41 rfl ?_
        refine q_if_lt 80 K dX4_feed_42 (by decide) (fun c_0 => absurd c_0 (by decide)) (fun c_0 => ?_)
        refine q_aload_n K 1 dX4_feed_45 rfl ?_
        refine q_get (.ref (B 6)) K ws_X4 0 rfl rfl 6 (by decide) fl_X4_25 rfl dX4_feed_46 ?_
        refine q_aload_n K 1 dX4_feed_49 rfl ?_
        refine q_get (.int (nI ((a_tp X).2))) K ws_X4 0 rfl rfl 7 (by decide) fl_X4_193 rfl dX4_feed_50 ?_
        refine q_eqi (nI ((a_tp X).2)) rfl ?_
        refine q_iload_n K 2 dX4_feed_53 rfl ?_
        refine q_bipush 8 K dX4_feed_54 rfl ?_
        refine q_iload_n K 0 dX4_feed_56 rfl ?_
        refine q_imul K dX4_feed_57 ?_
        refine q_eqi 16 rfl ?_
        refine q_ishr K dX4_feed_58 ?_
        refine q_sipush 255 K dX4_feed_59 rfl ?_
        refine q_iand K dX4_feed_62 ?_
        refine q_eqi (j_us b (nI (8 * 2)) &&& 255) (fd_sh b 2 (by omega)) ?_
        refine q_iast (ws' := w_M (k_Z M) B (a_F X, a_K X, a_kp X, a_fd X, (upd ((a_tp X).1) ((a_tp X).2) (j_us b (nI (8 * 2)) &&& 255), (a_tp X).2), a_S X) D) K 6 rfl (vp_in_nI (n := (a_tp X).2) (N := 120) (by omega) (by omega)) (by rw [nI_clamp (n := (a_tp X).2) (by omega)] <;> rfl) dX4_feed_63 ?_
        refine q_aload_n K 1 dX4_feed_64 rfl ?_
        refine q_dup K dX4_feed_65 rfl ?_
        refine q_get (.int (nI ((upd ((a_tp X).1) ((a_tp X).2) (j_us b (nI (8 * 2)) &&& 255), (a_tp X).2).2))) K ws_X4 0 rfl rfl 7 (by decide) fl_X4_193 rfl dX4_feed_66 ?_
        refine q_eqi (nI ((a_tp X).2)) rfl ?_
        refine q_iconst 1 K dX4_feed_69 rfl ?_
        refine q_iadd K dX4_feed_70 ?_
        refine q_eqi (nI (((a_tp X).2) + 1)) (kn_add ((a_tp X).2) 1) ?_
        refine q_put (ty := .int) (ws' := w_M (k_Z M) B (a_F X, a_K X, a_kp X, a_fd X, ((upd ((a_tp X).1) ((a_tp X).2) (j_us b (nI (8 * 2)) &&& 255), (a_tp X).2).1, ((a_tp X).2) + 1), a_S X) D) K ws_X4 tyX4 tyX4_ok nmX4 0 rfl rfl 7 (by decide) fl_X4_193 rfl (by decide +kernel) rfl rfl (Nat.le_of_ble_eq_true rfl) rfl dX4_feed_71 ?_
        refine q_ws (ws' := w_M (k_Z M) B (a_F X, a_K X, a_kp X, a_fd X, tp_put (a_tp X) (j_us b (nI (8 * 2))), a_S X) D) rfl ?_
        refine q_iinc 1 (lv' := [(3, .int 1), (0, .ref (B 0)), (1, .int b), (2, .int (nI 3))]) K 0 dX4_feed_74 rfl rfl (by decide) rfl ?_
        refine q_goto 41 K dX4_feed_77 (by decide) ?_
        refine q_iload_n K 0 dX4_feed_41 rfl ?_
        refine q_if_lt 80 K dX4_feed_42 (by decide) (fun c_0 => absurd c_0 (by decide)) (fun c_0 => ?_)
        refine q_aload_n K 1 dX4_feed_45 rfl ?_
        refine q_get (.ref (B 6)) K ws_X4 0 rfl rfl 6 (by decide) fl_X4_25 rfl dX4_feed_46 ?_
        refine q_aload_n K 1 dX4_feed_49 rfl ?_
        refine q_get (.int (nI ((tp_put (a_tp X) (j_us b (nI (8 * 2)))).2))) K ws_X4 0 rfl rfl 7 (by decide) fl_X4_193 rfl dX4_feed_50 ?_
        refine q_eqi (nI ((a_tp X).2 + 1)) rfl ?_
        refine q_iload_n K 2 dX4_feed_53 rfl ?_
        refine q_bipush 8 K dX4_feed_54 rfl ?_
        refine q_iload_n K 0 dX4_feed_56 rfl ?_
        refine q_imul K dX4_feed_57 ?_
        refine q_eqi 8 rfl ?_
        refine q_ishr K dX4_feed_58 ?_
        refine q_sipush 255 K dX4_feed_59 rfl ?_
        refine q_iand K dX4_feed_62 ?_
        refine q_eqi (j_us b (nI (8 * 1)) &&& 255) (fd_sh b 1 (by omega)) ?_
        refine q_iast (ws' := w_M (k_Z M) B (a_F X, a_K X, a_kp X, a_fd X, (upd ((tp_put (a_tp X) (j_us b (nI (8 * 2)))).1) ((a_tp X).2 + 1) (j_us b (nI (8 * 1)) &&& 255), (tp_put (a_tp X) (j_us b (nI (8 * 2)))).2), a_S X) D) K 6 rfl (vp_in_nI (n := (a_tp X).2 + 1) (N := 120) (by omega) (by omega)) (by rw [nI_clamp (n := (a_tp X).2 + 1) (by omega)] <;> rfl) dX4_feed_63 ?_
        refine q_aload_n K 1 dX4_feed_64 rfl ?_
        refine q_dup K dX4_feed_65 rfl ?_
        refine q_get (.int (nI ((upd ((tp_put (a_tp X) (j_us b (nI (8 * 2)))).1) ((a_tp X).2 + 1) (j_us b (nI (8 * 1)) &&& 255), (tp_put (a_tp X) (j_us b (nI (8 * 2)))).2).2))) K ws_X4 0 rfl rfl 7 (by decide) fl_X4_193 rfl dX4_feed_66 ?_
        refine q_eqi (nI ((a_tp X).2 + 1)) rfl ?_
        refine q_iconst 1 K dX4_feed_69 rfl ?_
        refine q_iadd K dX4_feed_70 ?_
        refine q_eqi (nI (((a_tp X).2 + 1) + 1)) (kn_add ((a_tp X).2 + 1) 1) ?_
        refine q_put (ty := .int) (ws' := w_M (k_Z M) B (a_F X, a_K X, a_kp X, a_fd X, ((upd ((tp_put (a_tp X) (j_us b (nI (8 * 2)))).1) ((a_tp X).2 + 1) (j_us b (nI (8 * 1)) &&& 255), (tp_put (a_tp X) (j_us b (nI (8 * 2)))).2).1, ((a_tp X).2 + 1) + 1), a_S X) D) K ws_X4 tyX4 tyX4_ok nmX4 0 rfl rfl 7 (by decide) fl_X4_193 rfl (by decide +kernel) rfl rfl (Nat.le_of_ble_eq_true rfl) rfl dX4_feed_71 ?_
        refine q_ws (ws' := w_M (k_Z M) B (a_F X, a_K X, a_kp X, a_fd X, tp_put (tp_put (a_tp X) (j_us b (nI (8 * 2)))) (j_us b (nI (8 * 1))), a_S X) D) rfl ?_
        refine q_iinc 0 (lv' := [(3, .int 0), (0, .ref (B 0)), (1, .int b), (2, .int (nI 3))]) K 0 dX4_feed_74 rfl rfl (by decide) rfl ?_
        refine q_goto 41 K dX4_feed_77 (by decide) ?_
        refine q_iload_n K 0 dX4_feed_41 rfl ?_
        refine q_if_lt 80 K dX4_feed_42 (by decide) (fun c_0 => absurd c_0 (by decide)) (fun c_0 => ?_)
        refine q_aload_n K 1 dX4_feed_45 rfl ?_
        refine q_get (.ref (B 6)) K ws_X4 0 rfl rfl 6 (by decide) fl_X4_25 rfl dX4_feed_46 ?_
        refine q_aload_n K 1 dX4_feed_49 rfl ?_
        refine q_get (.int (nI ((tp_put (tp_put (a_tp X) (j_us b (nI (8 * 2)))) (j_us b (nI (8 * 1)))).2))) K ws_X4 0 rfl rfl 7 (by decide) fl_X4_193 rfl dX4_feed_50 ?_
        refine q_eqi (nI ((a_tp X).2 + 2)) rfl ?_
        refine q_iload_n K 2 dX4_feed_53 rfl ?_
        refine q_bipush 8 K dX4_feed_54 rfl ?_
        refine q_iload_n K 0 dX4_feed_56 rfl ?_
        refine q_imul K dX4_feed_57 ?_
        refine q_eqi 0 rfl ?_
        refine q_ishr K dX4_feed_58 ?_
        refine q_sipush 255 K dX4_feed_59 rfl ?_
        refine q_iand K dX4_feed_62 ?_
        refine q_eqi (j_us b (nI (8 * 0)) &&& 255) (fd_sh b 0 (by omega)) ?_
        refine q_iast (ws' := w_M (k_Z M) B (a_F X, a_K X, a_kp X, a_fd X, (upd ((tp_put (tp_put (a_tp X) (j_us b (nI (8 * 2)))) (j_us b (nI (8 * 1)))).1) ((a_tp X).2 + 2) (j_us b (nI (8 * 0)) &&& 255), (tp_put (tp_put (a_tp X) (j_us b (nI (8 * 2)))) (j_us b (nI (8 * 1)))).2), a_S X) D) K 6 rfl (vp_in_nI (n := (a_tp X).2 + 2) (N := 120) (by omega) (by omega)) (by rw [nI_clamp (n := (a_tp X).2 + 2) (by omega)] <;> rfl) dX4_feed_63 ?_
        refine q_aload_n K 1 dX4_feed_64 rfl ?_
        refine q_dup K dX4_feed_65 rfl ?_
        refine q_get (.int (nI ((upd ((tp_put (tp_put (a_tp X) (j_us b (nI (8 * 2)))) (j_us b (nI (8 * 1)))).1) ((a_tp X).2 + 2) (j_us b (nI (8 * 0)) &&& 255), (tp_put (tp_put (a_tp X) (j_us b (nI (8 * 2)))) (j_us b (nI (8 * 1)))).2).2))) K ws_X4 0 rfl rfl 7 (by decide) fl_X4_193 rfl dX4_feed_66 ?_
        refine q_eqi (nI ((a_tp X).2 + 2)) rfl ?_
        refine q_iconst 1 K dX4_feed_69 rfl ?_
        refine q_iadd K dX4_feed_70 ?_
        refine q_eqi (nI (((a_tp X).2 + 2) + 1)) (kn_add ((a_tp X).2 + 2) 1) ?_
        refine q_put (ty := .int) (ws' := w_M (k_Z M) B (a_F X, a_K X, a_kp X, a_fd X, ((upd ((tp_put (tp_put (a_tp X) (j_us b (nI (8 * 2)))) (j_us b (nI (8 * 1)))).1) ((a_tp X).2 + 2) (j_us b (nI (8 * 0)) &&& 255), (tp_put (tp_put (a_tp X) (j_us b (nI (8 * 2)))) (j_us b (nI (8 * 1)))).2).1, ((a_tp X).2 + 2) + 1), a_S X) D) K ws_X4 tyX4 tyX4_ok nmX4 0 rfl rfl 7 (by decide) fl_X4_193 rfl (by decide +kernel) rfl rfl (Nat.le_of_ble_eq_true rfl) rfl dX4_feed_71 ?_
        refine q_ws (ws' := w_M (k_Z M) B (a_F X, a_K X, a_kp X, a_fd X, tp_put (tp_put (tp_put (a_tp X) (j_us b (nI (8 * 2)))) (j_us b (nI (8 * 1)))) (j_us b (nI (8 * 0))), a_S X) D) rfl ?_
        refine q_iinc (-1) (lv' := [(3, .int (-1)), (0, .ref (B 0)), (1, .int b), (2, .int (nI 3))]) K 0 dX4_feed_74 rfl rfl (by decide) rfl ?_
        refine q_goto 41 K dX4_feed_77 (by decide) ?_
        refine q_iload_n K 0 dX4_feed_41 rfl ?_
        refine q_if_lt 80 K dX4_feed_42 (by decide) (fun c_0 => ?_) (fun c_0 => absurd c_0 (by decide))
        refine q_aload_n K 1 dX4_feed_80 rfl ?_
        refine q_get (.int (nI ((tp_put (tp_put (tp_put (a_tp X) (j_us b (nI (8 * 2)))) (j_us b (nI (8 * 1)))) (j_us b (nI (8 * 0)))).2))) K ws_X4 0 rfl rfl 7 (by decide) fl_X4_193 rfl dX4_feed_81 ?_
        refine q_eqi (nI ((a_tp X).2 + 3)) rfl ?_
        exact Rt _ _ (nI ((a_tp X).2 + 3)) (w_M (k_Z M) B (a_F X, a_K X, a_kp X, a_fd X, tp_put (tp_put (tp_put (a_tp X) (j_us b (nI (8 * 2)))) (j_us b (nI (8 * 1)))) (j_us b (nI (8 * 0))), a_S X) D) dX4_feed_84 rfl (⟨D, by simp only [o_feed, kn_add, if_pos c_2, if_pos c_3, nI_clamp (n := 3) (by omega)] <;> rfl, by simp only [o_feed, kn_add, if_pos c_2, if_pos c_3, nI_clamp (n := 3) (by omega)] <;> rfl⟩)
      · refine q_eqi 3 rfl ?_
        refine q_istore_n (lv' := [(3, .int 3), (0, .ref (B 0)), (1, .int b), (2, .int (nI 4))]) K dX4_feed_40 (by decide) rfl ?_
        refine q_iload_n K 0 dX4_feed_41 rfl ?_
        refine q_if_lt 80 K dX4_feed_42 (by decide) (fun c_0 => absurd c_0 (by decide)) (fun c_0 => ?_)
        refine q_aload_n K 1 dX4_feed_45 rfl ?_
        refine q_get (.ref (B 6)) K ws_X4 0 rfl rfl 6 (by decide) fl_X4_25 rfl dX4_feed_46 ?_
        refine q_aload_n K 1 dX4_feed_49 rfl ?_
        refine q_get (.int (nI ((a_tp X).2))) K ws_X4 0 rfl rfl 7 (by decide) fl_X4_193 rfl dX4_feed_50 ?_
        refine q_eqi (nI ((a_tp X).2)) rfl ?_
        refine q_iload_n K 2 dX4_feed_53 rfl ?_
        refine q_bipush 8 K dX4_feed_54 rfl ?_
        refine q_iload_n K 0 dX4_feed_56 rfl ?_
        refine q_imul K dX4_feed_57 ?_
        refine q_eqi 24 rfl ?_
        refine q_ishr K dX4_feed_58 ?_
        refine q_sipush 255 K dX4_feed_59 rfl ?_
        refine q_iand K dX4_feed_62 ?_
        refine q_eqi (j_us b (nI (8 * 3)) &&& 255) (fd_sh b 3 (by omega)) ?_
        refine q_iast (ws' := w_M (k_Z M) B (a_F X, a_K X, a_kp X, a_fd X, (upd ((a_tp X).1) ((a_tp X).2) (j_us b (nI (8 * 3)) &&& 255), (a_tp X).2), a_S X) D) K 6 rfl (vp_in_nI (n := (a_tp X).2) (N := 120) (by omega) (by omega)) (by rw [nI_clamp (n := (a_tp X).2) (by omega)] <;> rfl) dX4_feed_63 ?_
        refine q_aload_n K 1 dX4_feed_64 rfl ?_
        refine q_dup K dX4_feed_65 rfl ?_
        refine q_get (.int (nI ((upd ((a_tp X).1) ((a_tp X).2) (j_us b (nI (8 * 3)) &&& 255), (a_tp X).2).2))) K ws_X4 0 rfl rfl 7 (by decide) fl_X4_193 rfl dX4_feed_66 ?_
        refine q_eqi (nI ((a_tp X).2)) rfl ?_
        refine q_iconst 1 K dX4_feed_69 rfl ?_
        refine q_iadd K dX4_feed_70 ?_
        refine q_eqi (nI (((a_tp X).2) + 1)) (kn_add ((a_tp X).2) 1) ?_
        refine q_put (ty := .int) (ws' := w_M (k_Z M) B (a_F X, a_K X, a_kp X, a_fd X, ((upd ((a_tp X).1) ((a_tp X).2) (j_us b (nI (8 * 3)) &&& 255), (a_tp X).2).1, ((a_tp X).2) + 1), a_S X) D) K ws_X4 tyX4 tyX4_ok nmX4 0 rfl rfl 7 (by decide) fl_X4_193 rfl (by decide +kernel) rfl rfl (Nat.le_of_ble_eq_true rfl) rfl dX4_feed_71 ?_
        refine q_ws (ws' := w_M (k_Z M) B (a_F X, a_K X, a_kp X, a_fd X, tp_put (a_tp X) (j_us b (nI (8 * 3))), a_S X) D) rfl ?_
        refine q_iinc 2 (lv' := [(3, .int 2), (0, .ref (B 0)), (1, .int b), (2, .int (nI 4))]) K 0 dX4_feed_74 rfl rfl (by decide) rfl ?_
        refine q_goto 41 K dX4_feed_77 (by decide) ?_
        refine q_iload_n K 0 dX4_feed_41 rfl ?_
        refine q_if_lt 80 K dX4_feed_42 (by decide) (fun c_0 => absurd c_0 (by decide)) (fun c_0 => ?_)
        refine q_aload_n K 1 dX4_feed_45 rfl ?_
        refine q_get (.ref (B 6)) K ws_X4 0 rfl rfl 6 (by decide) fl_X4_25 rfl dX4_feed_46 ?_
        refine q_aload_n K 1 dX4_feed_49 rfl ?_
        refine q_get (.int (nI ((tp_put (a_tp X) (j_us b (nI (8 * 3)))).2))) K ws_X4 0 rfl rfl 7 (by decide) fl_X4_193 rfl dX4_feed_50 ?_
        refine q_eqi (nI ((a_tp X).2 + 1)) rfl ?_
        refine q_iload_n K 2 dX4_feed_53 rfl ?_
        refine q_bipush 8 K dX4_feed_54 rfl ?_
        refine q_iload_n K 0 dX4_feed_56 rfl ?_
        refine q_imul K dX4_feed_57 ?_
        refine q_eqi 16 rfl ?_
        refine q_ishr K dX4_feed_58 ?_
        refine q_sipush 255 K dX4_feed_59 rfl ?_
        refine q_iand K dX4_feed_62 ?_
        refine q_eqi (j_us b (nI (8 * 2)) &&& 255) (fd_sh b 2 (by omega)) ?_
        refine q_iast (ws' := w_M (k_Z M) B (a_F X, a_K X, a_kp X, a_fd X, (upd ((tp_put (a_tp X) (j_us b (nI (8 * 3)))).1) ((a_tp X).2 + 1) (j_us b (nI (8 * 2)) &&& 255), (tp_put (a_tp X) (j_us b (nI (8 * 3)))).2), a_S X) D) K 6 rfl (vp_in_nI (n := (a_tp X).2 + 1) (N := 120) (by omega) (by omega)) (by rw [nI_clamp (n := (a_tp X).2 + 1) (by omega)] <;> rfl) dX4_feed_63 ?_
        refine q_aload_n K 1 dX4_feed_64 rfl ?_
        refine q_dup K dX4_feed_65 rfl ?_
        refine q_get (.int (nI ((upd ((tp_put (a_tp X) (j_us b (nI (8 * 3)))).1) ((a_tp X).2 + 1) (j_us b (nI (8 * 2)) &&& 255), (tp_put (a_tp X) (j_us b (nI (8 * 3)))).2).2))) K ws_X4 0 rfl rfl 7 (by decide) fl_X4_193 rfl dX4_feed_66 ?_
        refine q_eqi (nI ((a_tp X).2 + 1)) rfl ?_
        refine q_iconst 1 K dX4_feed_69 rfl ?_
        refine q_iadd K dX4_feed_70 ?_
        refine q_eqi (nI (((a_tp X).2 + 1) + 1)) (kn_add ((a_tp X).2 + 1) 1) ?_
        refine q_put (ty := .int) (ws' := w_M (k_Z M) B (a_F X, a_K X, a_kp X, a_fd X, ((upd ((tp_put (a_tp X) (j_us b (nI (8 * 3)))).1) ((a_tp X).2 + 1) (j_us b (nI (8 * 2)) &&& 255), (tp_put (a_tp X) (j_us b (nI (8 * 3)))).2).1, ((a_tp X).2 + 1) + 1), a_S X) D) K ws_X4 tyX4 tyX4_ok nmX4 0 rfl rfl 7 (by decide) fl_X4_193 rfl (by decide +kernel) rfl rfl (Nat.le_of_ble_eq_true rfl) rfl dX4_feed_71 ?_
        refine q_ws (ws' := w_M (k_Z M) B (a_F X, a_K X, a_kp X, a_fd X, tp_put (tp_put (a_tp X) (j_us b (nI (8 * 3)))) (j_us b (nI (8 * 2))), a_S X) D) rfl ?_
        refine q_iinc 1 (lv' := [(3, .int 1), (0, .ref (B 0)), (1, .int b), (2, .int (nI 4))]) K 0 dX4_feed_74 rfl rfl (by decide) rfl ?_
        refine q_goto 41 K dX4_feed_77 (by decide) ?_
        refine q_iload_n K 0 dX4_feed_41 rfl ?_
        refine q_if_lt 80 K dX4_feed_42 (by decide) (fun c_0 => absurd c_0 (by decide)) (fun c_0 => ?_)
        refine q_aload_n K 1 dX4_feed_45 rfl ?_
        refine q_get (.ref (B 6)) K ws_X4 0 rfl rfl 6 (by decide) fl_X4_25 rfl dX4_feed_46 ?_
        refine q_aload_n K 1 dX4_feed_49 rfl ?_
        refine q_get (.int (nI ((tp_put (tp_put (a_tp X) (j_us b (nI (8 * 3)))) (j_us b (nI (8 * 2)))).2))) K ws_X4 0 rfl rfl 7 (by decide) fl_X4_193 rfl dX4_feed_50 ?_
        refine q_eqi (nI ((a_tp X).2 + 2)) rfl ?_
        refine q_iload_n K 2 dX4_feed_53 rfl ?_
        refine q_bipush 8 K dX4_feed_54 rfl ?_
        refine q_iload_n K 0 dX4_feed_56 rfl ?_
        refine q_imul K dX4_feed_57 ?_
        refine q_eqi 8 rfl ?_
        refine q_ishr K dX4_feed_58 ?_
        refine q_sipush 255 K dX4_feed_59 rfl ?_
        refine q_iand K dX4_feed_62 ?_
        refine q_eqi (j_us b (nI (8 * 1)) &&& 255) (fd_sh b 1 (by omega)) ?_
        refine q_iast (ws' := w_M (k_Z M) B (a_F X, a_K X, a_kp X, a_fd X, (upd ((tp_put (tp_put (a_tp X) (j_us b (nI (8 * 3)))) (j_us b (nI (8 * 2)))).1) ((a_tp X).2 + 2) (j_us b (nI (8 * 1)) &&& 255), (tp_put (tp_put (a_tp X) (j_us b (nI (8 * 3)))) (j_us b (nI (8 * 2)))).2), a_S X) D) K 6 rfl (vp_in_nI (n := (a_tp X).2 + 2) (N := 120) (by omega) (by omega)) (by rw [nI_clamp (n := (a_tp X).2 + 2) (by omega)] <;> rfl) dX4_feed_63 ?_
        refine q_aload_n K 1 dX4_feed_64 rfl ?_
        refine q_dup K dX4_feed_65 rfl ?_
        refine q_get (.int (nI ((upd ((tp_put (tp_put (a_tp X) (j_us b (nI (8 * 3)))) (j_us b (nI (8 * 2)))).1) ((a_tp X).2 + 2) (j_us b (nI (8 * 1)) &&& 255), (tp_put (tp_put (a_tp X) (j_us b (nI (8 * 3)))) (j_us b (nI (8 * 2)))).2).2))) K ws_X4 0 rfl rfl 7 (by decide) fl_X4_193 rfl dX4_feed_66 ?_
        refine q_eqi (nI ((a_tp X).2 + 2)) rfl ?_
        refine q_iconst 1 K dX4_feed_69 rfl ?_
        refine q_iadd K dX4_feed_70 ?_
        refine q_eqi (nI (((a_tp X).2 + 2) + 1)) (kn_add ((a_tp X).2 + 2) 1) ?_
        refine q_put (ty := .int) (ws' := w_M (k_Z M) B (a_F X, a_K X, a_kp X, a_fd X, ((upd ((tp_put (tp_put (a_tp X) (j_us b (nI (8 * 3)))) (j_us b (nI (8 * 2)))).1) ((a_tp X).2 + 2) (j_us b (nI (8 * 1)) &&& 255), (tp_put (tp_put (a_tp X) (j_us b (nI (8 * 3)))) (j_us b (nI (8 * 2)))).2).1, ((a_tp X).2 + 2) + 1), a_S X) D) K ws_X4 tyX4 tyX4_ok nmX4 0 rfl rfl 7 (by decide) fl_X4_193 rfl (by decide +kernel) rfl rfl (Nat.le_of_ble_eq_true rfl) rfl dX4_feed_71 ?_
        refine q_ws (ws' := w_M (k_Z M) B (a_F X, a_K X, a_kp X, a_fd X, tp_put (tp_put (tp_put (a_tp X) (j_us b (nI (8 * 3)))) (j_us b (nI (8 * 2)))) (j_us b (nI (8 * 1))), a_S X) D) rfl ?_
        refine q_iinc 0 (lv' := [(3, .int 0), (0, .ref (B 0)), (1, .int b), (2, .int (nI 4))]) K 0 dX4_feed_74 rfl rfl (by decide) rfl ?_
        refine q_goto 41 K dX4_feed_77 (by decide) ?_
        refine q_iload_n K 0 dX4_feed_41 rfl ?_
        refine q_if_lt 80 K dX4_feed_42 (by decide) (fun c_0 => absurd c_0 (by decide)) (fun c_0 => ?_)
        refine q_aload_n K 1 dX4_feed_45 rfl ?_
        refine q_get (.ref (B 6)) K ws_X4 0 rfl rfl 6 (by decide) fl_X4_25 rfl dX4_feed_46 ?_
        refine q_aload_n K 1 dX4_feed_49 rfl ?_
        refine q_get (.int (nI ((tp_put (tp_put (tp_put (a_tp X) (j_us b (nI (8 * 3)))) (j_us b (nI (8 * 2)))) (j_us b (nI (8 * 1)))).2))) K ws_X4 0 rfl rfl 7 (by decide) fl_X4_193 rfl dX4_feed_50 ?_
        refine q_eqi (nI ((a_tp X).2 + 3)) rfl ?_
        refine q_iload_n K 2 dX4_feed_53 rfl ?_
        refine q_bipush 8 K dX4_feed_54 rfl ?_
        refine q_iload_n K 0 dX4_feed_56 rfl ?_
        refine q_imul K dX4_feed_57 ?_
        refine q_eqi 0 rfl ?_
        refine q_ishr K dX4_feed_58 ?_
        refine q_sipush 255 K dX4_feed_59 rfl ?_
        refine q_iand K dX4_feed_62 ?_
        refine q_eqi (j_us b (nI (8 * 0)) &&& 255) (fd_sh b 0 (by omega)) ?_
        refine q_iast (ws' := w_M (k_Z M) B (a_F X, a_K X, a_kp X, a_fd X, (upd ((tp_put (tp_put (tp_put (a_tp X) (j_us b (nI (8 * 3)))) (j_us b (nI (8 * 2)))) (j_us b (nI (8 * 1)))).1) ((a_tp X).2 + 3) (j_us b (nI (8 * 0)) &&& 255), (tp_put (tp_put (tp_put (a_tp X) (j_us b (nI (8 * 3)))) (j_us b (nI (8 * 2)))) (j_us b (nI (8 * 1)))).2), a_S X) D) K 6 rfl (vp_in_nI (n := (a_tp X).2 + 3) (N := 120) (by omega) (by omega)) (by rw [nI_clamp (n := (a_tp X).2 + 3) (by omega)] <;> rfl) dX4_feed_63 ?_
        refine q_aload_n K 1 dX4_feed_64 rfl ?_
        refine q_dup K dX4_feed_65 rfl ?_
        refine q_get (.int (nI ((upd ((tp_put (tp_put (tp_put (a_tp X) (j_us b (nI (8 * 3)))) (j_us b (nI (8 * 2)))) (j_us b (nI (8 * 1)))).1) ((a_tp X).2 + 3) (j_us b (nI (8 * 0)) &&& 255), (tp_put (tp_put (tp_put (a_tp X) (j_us b (nI (8 * 3)))) (j_us b (nI (8 * 2)))) (j_us b (nI (8 * 1)))).2).2))) K ws_X4 0 rfl rfl 7 (by decide) fl_X4_193 rfl dX4_feed_66 ?_
        refine q_eqi (nI ((a_tp X).2 + 3)) rfl ?_
        refine q_iconst 1 K dX4_feed_69 rfl ?_
        refine q_iadd K dX4_feed_70 ?_
        refine q_eqi (nI (((a_tp X).2 + 3) + 1)) (kn_add ((a_tp X).2 + 3) 1) ?_
        refine q_put (ty := .int) (ws' := w_M (k_Z M) B (a_F X, a_K X, a_kp X, a_fd X, ((upd ((tp_put (tp_put (tp_put (a_tp X) (j_us b (nI (8 * 3)))) (j_us b (nI (8 * 2)))) (j_us b (nI (8 * 1)))).1) ((a_tp X).2 + 3) (j_us b (nI (8 * 0)) &&& 255), (tp_put (tp_put (tp_put (a_tp X) (j_us b (nI (8 * 3)))) (j_us b (nI (8 * 2)))) (j_us b (nI (8 * 1)))).2).1, ((a_tp X).2 + 3) + 1), a_S X) D) K ws_X4 tyX4 tyX4_ok nmX4 0 rfl rfl 7 (by decide) fl_X4_193 rfl (by decide +kernel) rfl rfl (Nat.le_of_ble_eq_true rfl) rfl dX4_feed_71 ?_
        refine q_ws (ws' := w_M (k_Z M) B (a_F X, a_K X, a_kp X, a_fd X, tp_put (tp_put (tp_put (tp_put (a_tp X) (j_us b (nI (8 * 3)))) (j_us b (nI (8 * 2)))) (j_us b (nI (8 * 1)))) (j_us b (nI (8 * 0))), a_S X) D) rfl ?_
        refine q_iinc (-1) (lv' := [(3, .int (-1)), (0, .ref (B 0)), (1, .int b), (2, .int (nI 4))]) K 0 dX4_feed_74 rfl rfl (by decide) rfl ?_
        refine q_goto 41 K dX4_feed_77 (by decide) ?_
        refine q_iload_n K 0 dX4_feed_41 rfl ?_
        refine q_if_lt 80 K dX4_feed_42 (by decide) (fun c_0 => ?_) (fun c_0 => absurd c_0 (by decide))
        refine q_aload_n K 1 dX4_feed_80 rfl ?_
        refine q_get (.int (nI ((tp_put (tp_put (tp_put (tp_put (a_tp X) (j_us b (nI (8 * 3)))) (j_us b (nI (8 * 2)))) (j_us b (nI (8 * 1)))) (j_us b (nI (8 * 0)))).2))) K ws_X4 0 rfl rfl 7 (by decide) fl_X4_193 rfl dX4_feed_81 ?_
        refine q_eqi (nI ((a_tp X).2 + 4)) rfl ?_
        exact Rt _ _ (nI ((a_tp X).2 + 4)) (w_M (k_Z M) B (a_F X, a_K X, a_kp X, a_fd X, tp_put (tp_put (tp_put (tp_put (a_tp X) (j_us b (nI (8 * 3)))) (j_us b (nI (8 * 2)))) (j_us b (nI (8 * 1)))) (j_us b (nI (8 * 0))), a_S X) D) dX4_feed_84 rfl (⟨D, by simp only [o_feed, kn_add, if_pos c_2, if_pos c_3, nI_clamp (n := 4) (by omega)] <;> rfl, by simp only [o_feed, kn_add, if_pos c_2, if_pos c_3, nI_clamp (n := 4) (by omega)] <;> rfl⟩)
    · have c_3n : ¬ (((a_tp X).2) + k ≤ 120) := fun h9 => c_3 ((nI_leI (a := ((a_tp X).2) + k) (b := 120) (by omega) (by omega)).mpr h9)
      refine q_aload_n K 0 dX4_feed_30 rfl ?_
      refine q_ldc K dX4_feed_31 ct_X4_81 ?_
      refine q_eqi (r_fin 1) (by decide) ?_
      refine q_wI (q0 := 0) (As := [.int (r_fin 1)]) (rest := []) K kv_X4_finds (c_X4_finds (k_l M) (k_Z M) B X D 1 (by omega)) rfl rfl ml_X4_48 rfl rfl (Nat.le_of_ble_eq_true rfl) ⟨Nat.le_of_ble_eq_true rfl, Nat.le_of_ble_eq_true rfl⟩ dX4_feed_33 (fun r_5 w2 h_4 => ?_)
      obtain ⟨e_r_5, rfl⟩ := h_4
      refine q_eqi (r_fin 1) e_r_5 ?_
      refine q_ws (ws' := w_M (k_Z M) B (a_F X, a_K X, a_kp X, fd_up (a_fd X) 1, a_tp X, a_S X) D) rfl ?_
      exact Rt _ _ (r_fin 1) (w_M (k_Z M) B (a_F X, a_K X, a_kp X, fd_up (a_fd X) 1, a_tp X, a_S X) D) dX4_feed_36 rfl (⟨D, by simp only [o_feed, a_fin, if_pos c_2, if_neg c_3, e_r_1, nI_clamp (n := k) (by omega), kn_add] <;> rfl, by simp only [o_feed, a_fin, if_pos c_2, if_neg c_3, nI_clamp (n := k) (by omega), kn_add] <;> rfl⟩)
  · have c_2 : ¬ (inR n 1 4) := (kn_eq e_r_1).mp c_2
    refine q_aload_n K 0 dX4_feed_12 rfl ?_
    refine q_ldc K dX4_feed_13 ct_X4_40 ?_
    refine q_eqi (r_fin 0) (by decide) ?_
    refine q_wI (q0 := 0) (As := [.int (r_fin 0)]) (rest := []) K kv_X4_finds (c_X4_finds (k_l M) (k_Z M) B X D 0 (by omega)) rfl rfl ml_X4_48 rfl rfl (Nat.le_of_ble_eq_true rfl) ⟨Nat.le_of_ble_eq_true rfl, Nat.le_of_ble_eq_true rfl⟩ dX4_feed_15 (fun r_7 w2 h_6 => ?_)
    obtain ⟨e_r_7, rfl⟩ := h_6
    refine q_eqi (r_fin 0) e_r_7 ?_
    refine q_ws (ws' := w_M (k_Z M) B (a_F X, a_K X, a_kp X, fd_up (a_fd X) 0, a_tp X, a_S X) D) rfl ?_
    exact Rt _ _ (r_fin 0) (w_M (k_Z M) B (a_F X, a_K X, a_kp X, fd_up (a_fd X) 0, a_tp X, a_S X) D) dX4_feed_18 rfl (⟨D, by simp only [o_feed, a_fin, if_neg c_2, e_r_1, kn_add] <;> rfl, by simp only [o_feed, a_fin, if_neg c_2, kn_add] <;> rfl⟩)
theorem kv_X4_feed : k_iv yX4_feed cX4_feed 4 (some .int) 2 := ⟨⟨im_X4_feed, se_X4_feed⟩, in_X4, co_X4_feed, by decide +kernel⟩
