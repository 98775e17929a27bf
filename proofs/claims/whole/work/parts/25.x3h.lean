set_option maxHeartbeats 4000000 in
set_option maxRecDepth 100000 in
theorem c_X3_gales (l : Launch) (Z : kz_Z) (A : Nat → Nat → Nat) (X : AS) (T : FS) (J : TJ) (m : Nat) (hm : m ≤ 8) (hm2 : f_wk (a_F X) = nI m) (n : Int32) : KI l Z yX3_gales cX3_gales 3 .int 5 110 [.ref ((A 0) 0), .int n] (w_G Z A (a_kp X) (a_fd X) ++ (w_F Z (A 1) (a_F X) ++ (w_F Z (A 2) T ++ (w_F Z (A 3) (a_K X) ++ (w_T Z (A 4) (t_of (a_tp X) J) ++ (w_SS Z A (a_S X))))))) (fun r w2 => ∃ T2 J2, r = (o_gales X n).1 ∧ w2 = w_C Z A (o_gales X n).2 T2 J2) := by
  refine ki_of (by decide) [(0, .ref ((A 0) 0)), (1, .int n)] (Nat.le_of_ble_eq_true rfl) rfl ?_
  intro M e1 e2 K Rt
  subst e1 e2
  refine q_iload_n K 1 dX3_gales_0 rfl ?_
  refine q_iconst 1 K dX3_gales_1 rfl ?_
  refine q_bipush 20 K dX3_gales_2 rfl ?_
  refine q_cp (rest := []) K ks_X3_isIn (c_X3_isIn (k_l M) (k_Z M) n 1 20) ml_X3_48 rfl rfl (Nat.le_of_ble_eq_true rfl) ⟨Nat.le_of_ble_eq_true rfl, Nat.le_of_ble_eq_true rfl⟩ dX3_gales_4 (fun r_1 e_r_1 => ?_)
  refine q_if_ne 16 K dX3_gales_7 (by decide) (fun c_2 => ?_) (fun c_2 => ?_)
  · have c_2 : inR n 1 20 := (kn_ne e_r_1).mp c_2
    obtain ⟨k, h_k, e_k⟩ := kn_rng1 (n := 20) c_2 rfl
    subst e_k
    refine q_aload_n K 0 dX3_gales_16 rfl ?_
    refine q_get (.ref ((A 1) 0)) K ws_X3 0 rfl rfl 0 (by decide) fl_X3_12 rfl dX3_gales_17 ?_
    refine q_get (.int (f_hr (a_F X))) K ws_X0 3 rfl rfl 6 (by decide) fl_X3_104 rfl dX3_gales_20 ?_
    refine q_iload_n K 1 dX3_gales_23 rfl ?_
    refine q_iadd K dX3_gales_24 ?_
    refine q_ldc K dX3_gales_25 ct_X3_107 ?_
    refine q_icmp_le 36 K dX3_gales_27 (by decide) (fun c_3 => ?_) (fun c_3 => ?_)
    · refine q_iconst 0 K dX3_gales_36 rfl ?_
      refine q_istore_n (lv' := [(2, .int 0), (0, .ref ((A 0) 0)), (1, .int (nI k))]) K dX3_gales_37 (by decide) rfl ?_
      refine q_loop (α := Nat) (fun n9 i => i + n9 = k) 38 (fun i => [(2, .int (nI i)), (0, .ref ((A 0) 0)), (1, .int (nI k))]) (fun i => w_G (k_Z M) A (a_kp X) (a_fd X) ++ (w_F (k_Z M) (A 1) (f_gales (a_F X) i) ++ (w_F (k_Z M) (A 2) T ++ (w_F (k_Z M) (A 3) (a_K X) ++ (w_T (k_Z M) (A 4) (t_of (a_tp X) J) ++ (w_SS (k_Z M) A (a_S X))))))) (fun n_4 i hI_5 ih_6 => ?_) k 0 (by omega)
      refine q_iload_n K 0 dX3_gales_38 rfl ?_
      refine q_iload_n K 2 dX3_gales_39 rfl ?_
      refine q_icmp_ge 96 K dX3_gales_40 (by decide) (fun c_7 => ?_) (fun c_7 => ?_)
      · have c_7n : k ≤ i := (nI_leI (a := k) (b := i) (by omega) (by omega)).mp c_7
        refine q_aload_n K 1 dX3_gales_96 rfl ?_
        refine q_get (.ref ((A 1) 0)) K ws_X3 0 rfl rfl 0 (by decide) fl_X3_12 rfl dX3_gales_97 ?_
        refine q_cvI (q0 := 0) (As := []) (rest := []) K kv_X0_notShut (c_X0_notShut (k_l M) (k_Z M) (A 1) (f_gales (a_F X) i)) (w_G (k_Z M) A (a_kp X) (a_fd X)) (w_F (k_Z M) (A 2) T ++ (w_F (k_Z M) (A 3) (a_K X) ++ (w_T (k_Z M) (A 4) (t_of (a_tp X) J) ++ (w_SS (k_Z M) A (a_S X))))) rfl rfl rfl ml_X3_119 rfl rfl (Nat.le_of_ble_eq_true rfl) ⟨Nat.le_of_ble_eq_true rfl, Nat.le_of_ble_eq_true rfl⟩ dX3_gales_100 (fun r_9 w2 h_8 => ?_)
        obtain ⟨e_r_9, rfl⟩ := h_8
        refine q_eqi (f_ns (f_gales (a_F X) i) 8) e_r_9 ?_
        refine q_ws (ws' := w_G (k_Z M) A (a_kp X) (a_fd X) ++ (w_F (k_Z M) (A 1) (f_gales (a_F X) i) ++ (w_F (k_Z M) (A 2) T ++ (w_F (k_Z M) (A 3) (a_K X) ++ (w_T (k_Z M) (A 4) (t_of (a_tp X) J) ++ (w_SS (k_Z M) A (a_S X))))))) rfl ?_
        exact Rt _ _ (f_ns (f_gales (a_F X) i) 8) (w_G (k_Z M) A (a_kp X) (a_fd X) ++ (w_F (k_Z M) (A 1) (f_gales (a_F X) i) ++ (w_F (k_Z M) (A 2) T ++ (w_F (k_Z M) (A 3) (a_K X) ++ (w_T (k_Z M) (A 4) (t_of (a_tp X) J) ++ (w_SS (k_Z M) A (a_S X))))))) dX3_gales_103 rfl (⟨T, J, by simp only [o_gales, if_pos c_2, if_pos c_3, if_pos c_7, nI_clamp (n := k) (by omega), show i = k by omega], by simp only [o_gales, if_pos c_2, if_pos c_3, if_pos c_7, nI_clamp (n := k) (by omega), show i = k by omega]; rfl⟩)
      · have c_7n : ¬ (k ≤ i) := fun h9 => c_7 ((nI_leI (a := k) (b := i) (by omega) (by omega)).mpr h9)
        refine k_name (P := fun Fb => kJ M 3 43 [(2, .int (nI i)), (0, .ref ((A 0) 0)), (1, .int (nI k))] [] (w_G (k_Z M) A (a_kp X) (a_fd X) ++ (w_F (k_Z M) (A 1) Fb ++ (w_F (k_Z M) (A 2) T ++ (w_F (k_Z M) (A 3) (a_K X) ++ (w_T (k_Z M) (A 4) (t_of (a_tp X) J) ++ (w_SS (k_Z M) A (a_S X)))))))) (f_gales (a_F X) i) (fun Fb e_Fb => ?_)
        refine q_aload_n K 1 dX3_gales_43 rfl ?_
        refine q_get (.ref ((A 1) 0)) K ws_X3 0 rfl rfl 0 (by decide) fl_X3_12 rfl dX3_gales_44 ?_
        refine q_aload_n K 1 dX3_gales_47 rfl ?_
        refine q_get (.ref ((A 1) 0)) K ws_X3 0 rfl rfl 0 (by decide) fl_X3_12 rfl dX3_gales_48 ?_
        refine q_cvI (q0 := 0) (As := []) (rest := [.ref ((A 1) 0)]) K kv_X0_draw (c_X0_draw (k_l M) (k_Z M) (A 1) Fb) (w_G (k_Z M) A (a_kp X) (a_fd X)) (w_F (k_Z M) (A 2) T ++ (w_F (k_Z M) (A 3) (a_K X) ++ (w_T (k_Z M) (A 4) (t_of (a_tp X) J) ++ (w_SS (k_Z M) A (a_S X))))) rfl rfl rfl ml_X3_164 rfl rfl (Nat.le_of_ble_eq_true rfl) ⟨Nat.le_of_ble_eq_true rfl, Nat.le_of_ble_eq_true rfl⟩ dX3_gales_51 (fun r_11 w2 h_10 => ?_)
        obtain ⟨e_r_11, rfl⟩ := h_10
        refine k_name (P := fun z1 => kJ M 3 54 [(2, .int (nI i)), (0, .ref ((A 0) 0)), (1, .int (nI k))] [.int r_11, .ref ((A 1) 0)] (w_G (k_Z M) A (a_kp X) (a_fd X) ++ (w_F (k_Z M) (A 1) (f_setz Fb z1) ++ (w_F (k_Z M) (A 2) T ++ (w_F (k_Z M) (A 3) (a_K X) ++ (w_T (k_Z M) (A 4) (t_of (a_tp X) J) ++ (w_SS (k_Z M) A (a_S X)))))))) (f_nz (f_zz Fb)) (fun z1 e_z1 => ?_)
        rw [← e_z1] at e_r_11
        refine k_name (P := fun F1 => kJ M 3 54 [(2, .int (nI i)), (0, .ref ((A 0) 0)), (1, .int (nI k))] [.int r_11, .ref ((A 1) 0)] (w_G (k_Z M) A (a_kp X) (a_fd X) ++ (w_F (k_Z M) (A 1) F1 ++ (w_F (k_Z M) (A 2) T ++ (w_F (k_Z M) (A 3) (a_K X) ++ (w_T (k_Z M) (A 4) (t_of (a_tp X) J) ++ (w_SS (k_Z M) A (a_S X)))))))) (f_setz Fb z1) (fun F1 e_F1 => ?_)
        refine q_eqi (f_drw z1) e_r_11 ?_
        refine q_bipush 10 K dX3_gales_54 rfl ?_
        refine q_irem K dX3_gales_56 (by decide) ?_
        refine q_topi (fun wv e_wv => ?_)
        have e_wv : wv = f_r10 (f_drw z1) := e_wv
        refine q_put (ty := .int) (ws' := w_G (k_Z M) A (a_kp X) (a_fd X) ++ (w_F (k_Z M) (A 1) (f_bs F1, f_gs F1, f_kd F1, f_fd F1, f_wy F1, f_md F1, f_ps F1, f_hd F1, f_wk F1, wv, f_hr F1, f_zz F1) ++ (w_F (k_Z M) (A 2) T ++ (w_F (k_Z M) (A 3) (a_K X) ++ (w_T (k_Z M) (A 4) (t_of (a_tp X) J) ++ (w_SS (k_Z M) A (a_S X))))))) K ws_X0 tyX0 tyX0_ok nmX0 3 rfl rfl 5 (by decide) fl_X3_71 rfl (by decide +kernel) rfl rfl (Nat.le_of_ble_eq_true rfl) rfl dX3_gales_57 ?_
        refine q_ws (ws' := w_G (k_Z M) A (a_kp X) (a_fd X) ++ (w_F (k_Z M) (A 1) (f_setwd F1 wv) ++ (w_F (k_Z M) (A 2) T ++ (w_F (k_Z M) (A 3) (a_K X) ++ (w_T (k_Z M) (A 4) (t_of (a_tp X) J) ++ (w_SS (k_Z M) A (a_S X))))))) rfl ?_
        refine k_name (P := fun F2 => kJ M 3 60 [(2, .int (nI i)), (0, .ref ((A 0) 0)), (1, .int (nI k))] [] (w_G (k_Z M) A (a_kp X) (a_fd X) ++ (w_F (k_Z M) (A 1) F2 ++ (w_F (k_Z M) (A 2) T ++ (w_F (k_Z M) (A 3) (a_K X) ++ (w_T (k_Z M) (A 4) (t_of (a_tp X) J) ++ (w_SS (k_Z M) A (a_S X)))))))) (f_setwd F1 wv) (fun F2 e_F2 => ?_)
        refine q_aload_n K 1 dX3_gales_60 rfl ?_
        refine q_get (.ref ((A 1) 0)) K ws_X3 0 rfl rfl 0 (by decide) fl_X3_12 rfl dX3_gales_61 ?_
        refine q_get (.ref ((A 1) 2)) K ws_X0 3 rfl rfl 1 (by decide) fl_X3_68 rfl dX3_gales_64 ?_
        refine q_aload_n K 1 dX3_gales_67 rfl ?_
        refine q_get (.ref ((A 1) 0)) K ws_X3 0 rfl rfl 0 (by decide) fl_X3_12 rfl dX3_gales_68 ?_
        refine q_cvI (q0 := 0) (As := []) (rest := [.ref ((A 1) 2)]) K kv_X0_draw (c_X0_draw (k_l M) (k_Z M) (A 1) F2) (w_G (k_Z M) A (a_kp X) (a_fd X)) (w_F (k_Z M) (A 2) T ++ (w_F (k_Z M) (A 3) (a_K X) ++ (w_T (k_Z M) (A 4) (t_of (a_tp X) J) ++ (w_SS (k_Z M) A (a_S X))))) rfl rfl rfl ml_X3_164 rfl rfl (Nat.le_of_ble_eq_true rfl) ⟨Nat.le_of_ble_eq_true rfl, Nat.le_of_ble_eq_true rfl⟩ dX3_gales_71 (fun r_13 w2 h_12 => ?_)
        obtain ⟨e_r_13, rfl⟩ := h_12
        refine k_name (P := fun z3 => kJ M 3 74 [(2, .int (nI i)), (0, .ref ((A 0) 0)), (1, .int (nI k))] [.int r_13, .ref ((A 1) 2)] (w_G (k_Z M) A (a_kp X) (a_fd X) ++ (w_F (k_Z M) (A 1) (f_setz F2 z3) ++ (w_F (k_Z M) (A 2) T ++ (w_F (k_Z M) (A 3) (a_K X) ++ (w_T (k_Z M) (A 4) (t_of (a_tp X) J) ++ (w_SS (k_Z M) A (a_S X)))))))) (f_nz (f_zz F2)) (fun z3 e_z3 => ?_)
        rw [← e_z3] at e_r_13
        refine k_name (P := fun F3 => kJ M 3 74 [(2, .int (nI i)), (0, .ref ((A 0) 0)), (1, .int (nI k))] [.int r_13, .ref ((A 1) 2)] (w_G (k_Z M) A (a_kp X) (a_fd X) ++ (w_F (k_Z M) (A 1) F3 ++ (w_F (k_Z M) (A 2) T ++ (w_F (k_Z M) (A 3) (a_K X) ++ (w_T (k_Z M) (A 4) (t_of (a_tp X) J) ++ (w_SS (k_Z M) A (a_S X)))))))) (f_setz F2 z3) (fun F3 e_F3 => ?_)
        refine q_eqi (f_drw z3) e_r_13 ?_
        refine q_bipush 8 K dX3_gales_74 rfl ?_
        refine q_irem K dX3_gales_76 (by decide) ?_
        refine q_eqi (f_r8 (f_drw z3)) rfl ?_
        obtain ⟨g, hg, eg⟩ := f_r8_nat z3
        rw [eg]
        refine q_iconst 2 K dX3_gales_77 rfl ?_
        refine q_iast (ws' := w_G (k_Z M) A (a_kp X) (a_fd X) ++ (w_F (k_Z M) (A 1) (f_bs F3, upd (f_gs F3) g 2, f_kd F3, f_fd F3, f_wy F3, f_md F3, f_ps F3, f_hd F3, f_wk F3, f_wd F3, f_hr F3, f_zz F3) ++ (w_F (k_Z M) (A 2) T ++ (w_F (k_Z M) (A 3) (a_K X) ++ (w_T (k_Z M) (A 4) (t_of (a_tp X) J) ++ (w_SS (k_Z M) A (a_S X))))))) K 5 rfl (vp_in_nI (n := g) (N := 8) (by omega) (by omega)) (by rw [nI_clamp (n := g) (by omega)] <;> rfl) dX3_gales_78 ?_
        refine q_ws (ws' := w_G (k_Z M) A (a_kp X) (a_fd X) ++ (w_F (k_Z M) (A 1) (f_setgs F3 (upd (f_gs F3) g 2)) ++ (w_F (k_Z M) (A 2) T ++ (w_F (k_Z M) (A 3) (a_K X) ++ (w_T (k_Z M) (A 4) (t_of (a_tp X) J) ++ (w_SS (k_Z M) A (a_S X))))))) rfl ?_
        refine k_name (P := fun F4 => kJ M 3 79 [(2, .int (nI i)), (0, .ref ((A 0) 0)), (1, .int (nI k))] [] (w_G (k_Z M) A (a_kp X) (a_fd X) ++ (w_F (k_Z M) (A 1) F4 ++ (w_F (k_Z M) (A 2) T ++ (w_F (k_Z M) (A 3) (a_K X) ++ (w_T (k_Z M) (A 4) (t_of (a_tp X) J) ++ (w_SS (k_Z M) A (a_S X)))))))) (f_setgs F3 (upd (f_gs F3) g 2)) (fun F4 e_F4 => ?_)
        have e_q : F4 = f_ga3 (f_gales (a_F X) i) := by
          have e_p : f_nz z1 = z3 := by rw [e_z3, e_F2, f_setwd_zz, e_F1, f_setz_zz]
          rw [f_ga3, f_ga2, f_ga1, ← e_Fb, ← e_z1, ← e_wv, e_p, ← e_F1, ← e_F2, ← e_F3, eg, nI_clamp (by omega), e_F4, e_F3, f_setz_gs, e_F2, f_setwd_gs, e_F1, f_setz_gs]
        have hm4 : f_wk F4 = nI m := by rw [e_q, f_ga3_wk, f_gales_wk]; exact hm2
        refine q_aload_n K 1 dX3_gales_79 rfl ?_
        refine q_get (.ref ((A 1) 0)) K ws_X3 0 rfl rfl 0 (by decide) fl_X3_12 rfl dX3_gales_80 ?_
        refine q_iconst 1 K dX3_gales_83 rfl ?_
        refine q_sipush 255 K dX3_gales_84 rfl ?_
        refine q_cvV (q0 := 0) (As := [.int 1, .int 255]) (rest := []) K kv_X0_passHours (c_X0_passHours (k_l M) (k_Z M) (A 1) F4 m hm hm4 1 (by omega) 255) (w_G (k_Z M) A (a_kp X) (a_fd X)) (w_F (k_Z M) (A 2) T ++ (w_F (k_Z M) (A 3) (a_K X) ++ (w_T (k_Z M) (A 4) (t_of (a_tp X) J) ++ (w_SS (k_Z M) A (a_S X))))) rfl rfl rfl ml_X3_108 rfl rfl (Nat.le_of_ble_eq_true rfl) ⟨Nat.le_of_ble_eq_true rfl, Nat.le_of_ble_eq_true rfl⟩ dX3_gales_87 (fun w2 h_14 => ?_)
        obtain rfl := h_14
        refine q_ws (ws' := w_G (k_Z M) A (a_kp X) (a_fd X) ++ (w_F (k_Z M) (A 1) (f_hoursC (f_gm 255) F4 1) ++ (w_F (k_Z M) (A 2) T ++ (w_F (k_Z M) (A 3) (a_K X) ++ (w_T (k_Z M) (A 4) (t_of (a_tp X) J) ++ (w_SS (k_Z M) A (a_S X))))))) rfl ?_
        refine q_ws (ws' := w_G (k_Z M) A (a_kp X) (a_fd X) ++ (w_F (k_Z M) (A 1) (f_gales (a_F X) (i + 1)) ++ (w_F (k_Z M) (A 2) T ++ (w_F (k_Z M) (A 3) (a_K X) ++ (w_T (k_Z M) (A 4) (t_of (a_tp X) J) ++ (w_SS (k_Z M) A (a_S X))))))) (by rw [f_gales, f_gale, ← e_q, f_hoursC_1]) ?_
        refine q_iinc (nI (i + 1)) (lv' := [(2, .int (nI (i + 1))), (0, .ref ((A 0) 0)), (1, .int (nI k))]) K 0 dX3_gales_90 rfl (kn_inc i) (by decide) rfl ?_
        refine q_goto 38 K dX3_gales_93 (by decide) ?_
        exact ih_6 (n_4 - 1) (i + 1) (by omega) (by omega)
    · refine q_aload_n K 0 dX3_gales_30 rfl ?_
      refine q_iconst 4 K dX3_gales_31 rfl ?_
      refine q_wI (q0 := 0) (As := [.int 4]) (rest := []) K kv_X3_finding (c_X3_finding (k_l M) (k_Z M) A X T J 4 (by omega)) rfl rfl ml_X3_52 rfl rfl (Nat.le_of_ble_eq_true rfl) ⟨Nat.le_of_ble_eq_true rfl, Nat.le_of_ble_eq_true rfl⟩ dX3_gales_32 (fun r_17 w2 h_16 => ?_)
      obtain ⟨e_r_17, rfl⟩ := h_16
      refine q_eqi (r_fin 4) e_r_17 ?_
      refine q_ws (ws' := w_G (k_Z M) A (a_kp X) (fd_up (a_fd X) 4) ++ (w_F (k_Z M) (A 1) (a_F X) ++ (w_F (k_Z M) (A 2) T ++ (w_F (k_Z M) (A 3) (a_K X) ++ (w_T (k_Z M) (A 4) (t_of (a_tp X) J) ++ (w_SS (k_Z M) A (a_S X))))))) rfl ?_
      exact Rt _ _ (r_fin 4) (w_G (k_Z M) A (a_kp X) (fd_up (a_fd X) 4) ++ (w_F (k_Z M) (A 1) (a_F X) ++ (w_F (k_Z M) (A 2) T ++ (w_F (k_Z M) (A 3) (a_K X) ++ (w_T (k_Z M) (A 4) (t_of (a_tp X) J) ++ (w_SS (k_Z M) A (a_S X))))))) dX3_gales_35 rfl (⟨T, J, by simp only [o_gales, a_fin, if_pos c_2, if_neg c_3, e_r_1, nI_clamp (n := k) (by omega)], by simp only [o_gales, a_fin, if_pos c_2, if_neg c_3, nI_clamp (n := k) (by omega)]; rfl⟩)
  · have c_2 : ¬ (inR n 1 20) := (kn_eq e_r_1).mp c_2
    refine q_aload_n K 0 dX3_gales_10 rfl ?_
    refine q_iconst 0 K dX3_gales_11 rfl ?_
    refine q_wI (q0 := 0) (As := [.int 0]) (rest := []) K kv_X3_finding (c_X3_finding (k_l M) (k_Z M) A X T J 0 (by omega)) rfl rfl ml_X3_52 rfl rfl (Nat.le_of_ble_eq_true rfl) ⟨Nat.le_of_ble_eq_true rfl, Nat.le_of_ble_eq_true rfl⟩ dX3_gales_12 (fun r_19 w2 h_18 => ?_)
    obtain ⟨e_r_19, rfl⟩ := h_18
    refine q_eqi (r_fin 0) e_r_19 ?_
    refine q_ws (ws' := w_G (k_Z M) A (a_kp X) (fd_up (a_fd X) 0) ++ (w_F (k_Z M) (A 1) (a_F X) ++ (w_F (k_Z M) (A 2) T ++ (w_F (k_Z M) (A 3) (a_K X) ++ (w_T (k_Z M) (A 4) (t_of (a_tp X) J) ++ (w_SS (k_Z M) A (a_S X))))))) rfl ?_
    exact Rt _ _ (r_fin 0) (w_G (k_Z M) A (a_kp X) (fd_up (a_fd X) 0) ++ (w_F (k_Z M) (A 1) (a_F X) ++ (w_F (k_Z M) (A 2) T ++ (w_F (k_Z M) (A 3) (a_K X) ++ (w_T (k_Z M) (A 4) (t_of (a_tp X) J) ++ (w_SS (k_Z M) A (a_S X))))))) dX3_gales_15 rfl (⟨T, J, by simp only [o_gales, a_fin, if_neg c_2, e_r_1], by simp only [o_gales, a_fin, if_neg c_2]; rfl⟩)
theorem kv_X3_gales : k_iv yX3_gales cX3_gales 3 (some .int) 1 := ⟨⟨im_X3_gales, se_X3_gales⟩, in_X3, co_X3_gales, by decide +kernel⟩
set_option maxHeartbeats 4000000 in
set_option maxRecDepth 100000 in
theorem c_X3_power (l : Launch) (Z : kz_Z) (b : Int32) (n : Nat) (hn : n ≤ 20) : KL l Z yX3_power cX3_power 5 0 0 [.int b, .int (nI n)] ([]) (fun r w2 => r = j_pow b n ∧ w2 = []) := by
  refine kl_of (by decide) [(0, .int b), (1, .int (nI n))] (Nat.le_of_ble_eq_true rfl) rfl ?_
  intro M e1 e2 K Rt
  subst e1 e2
  refine q_lconst 1 K dX3_power_0 rfl ?_
  refine q_lstore_n (lv' := [(2, .long 1), (0, .int b), (1, .int (nI n))]) K dX3_power_1 (by decide) rfl ?_
  refine q_iconst 0 K dX3_power_2 rfl ?_
  refine q_istore (lv' := [(4, .int 0), (2, .long 1), (0, .int b), (1, .int (nI n))]) K dX3_power_3 (by decide) rfl ?_
  refine q_loop (α := Nat) (fun n9 i => i + n9 = n) 5 (fun i => [(4, .int (nI i)), (2, .long (j_pow b i)), (0, .int b), (1, .int (nI n))]) (fun i => []) (fun n_1 i hI_2 ih_3 => ?_) n 0 (by omega)
  refine q_iload K 0 dX3_power_5 rfl ?_
  refine q_iload_n K 3 dX3_power_7 rfl ?_
  refine q_icmp_ge 22 K dX3_power_8 (by decide) (fun c_4 => ?_) (fun c_4 => ?_)
  · have c_4n : n ≤ i := (nI_leI (a := n) (b := i) (by omega) (by omega)).mp c_4
    refine q_lload_n K 1 dX3_power_22 rfl ?_
    exact Rt _ _ (j_pow b i) ([]) dX3_power_23 (⟨by rw [show i = n by omega], rfl⟩)
  · have c_4n : ¬ (n ≤ i) := fun h9 => c_4 ((nI_leI (a := n) (b := i) (by omega) (by omega)).mpr h9)
    refine q_lload_n K 1 dX3_power_11 rfl ?_
    refine q_iload_n K 2 dX3_power_12 rfl ?_
    refine q_i2l K dX3_power_13 ?_
    refine q_lmul K dX3_power_14 ?_
    refine q_lstore_n (lv' := [(2, .long ((j_pow b i) * b.toInt64)), (4, .int (nI i)), (0, .int b), (1, .int (nI n))]) K dX3_power_15 (by decide) rfl ?_
    refine q_iinc (nI (i + 1)) (lv' := [(4, .int (nI (i + 1))), (2, .long ((j_pow b i) * b.toInt64)), (0, .int b), (1, .int (nI n))]) K 1 dX3_power_16 rfl (kn_inc i) (by decide) rfl ?_
    refine q_goto 5 K dX3_power_19 (by decide) ?_
    exact ih_3 (n_1 - 1) (i + 1) (by omega) (by omega)
theorem ks_X3_power : k_is yX3_power cX3_power 5 (some .long) 2 := ⟨sm_X3_power, in_X3, co_X3_power, by decide +kernel⟩
set_option maxHeartbeats 4000000 in
set_option maxRecDepth 100000 in
theorem c_X3_odds (l : Launch) (Z : kz_Z) (A : Nat → Nat → Nat) (X : AS) (T : FS) (J : TJ) (m : Nat) (hm : m ≤ 8) (hm2 : f_wk (a_F X) = nI m) (n what : Int32) : KL l Z yX3_odds cX3_odds 6 1 24 [.ref ((A 0) 0), .int n, .int what] (w_G Z A (a_kp X) (a_fd X) ++ (w_F Z (A 1) (a_F X) ++ (w_F Z (A 2) T ++ (w_F Z (A 3) (a_K X) ++ (w_T Z (A 4) (t_of (a_tp X) J) ++ (w_SS Z A (a_S X))))))) (fun r w2 => ∃ T2 J2, r = (o_odds X n what).1 ∧ w2 = w_C Z A (o_odds X n what).2 T2 J2) := by
  refine kl_of (by decide) [(0, .ref ((A 0) 0)), (1, .int n), (2, .int what)] (Nat.le_of_ble_eq_true rfl) rfl ?_
  intro M e1 e2 K Rt
  subst e1 e2
  refine q_iload_n K 1 dX3_odds_0 rfl ?_
  refine q_iconst 0 K dX3_odds_1 rfl ?_
  refine q_bipush 20 K dX3_odds_2 rfl ?_
  refine q_cp (rest := []) K ks_X3_isIn (c_X3_isIn (k_l M) (k_Z M) n 0 20) ml_X3_48 rfl rfl (Nat.le_of_ble_eq_true rfl) ⟨Nat.le_of_ble_eq_true rfl, Nat.le_of_ble_eq_true rfl⟩ dX3_odds_4 (fun r_1 e_r_1 => ?_)
  refine q_if_eq 19 K dX3_odds_7 (by decide) (fun c_2 => ?_) (fun c_2 => ?_)
  · have c_2 : ¬ (inR n 0 20) := (kn_eq e_r_1).mp c_2
    refine q_aload_n K 0 dX3_odds_19 rfl ?_
    refine q_iconst 0 K dX3_odds_20 rfl ?_
    refine q_wI (q0 := 0) (As := [.int 0]) (rest := []) K kv_X3_finding (c_X3_finding (k_l M) (k_Z M) A X T J 0 (by omega)) rfl rfl ml_X3_52 rfl rfl (Nat.le_of_ble_eq_true rfl) ⟨Nat.le_of_ble_eq_true rfl, Nat.le_of_ble_eq_true rfl⟩ dX3_odds_21 (fun r_4 w2 h_3 => ?_)
    obtain ⟨e_r_4, rfl⟩ := h_3
    refine q_eqi (r_fin 0) e_r_4 ?_
    refine q_ws (ws' := w_G (k_Z M) A (a_kp X) (fd_up (a_fd X) 0) ++ (w_F (k_Z M) (A 1) (a_F X) ++ (w_F (k_Z M) (A 2) T ++ (w_F (k_Z M) (A 3) (a_K X) ++ (w_T (k_Z M) (A 4) (t_of (a_tp X) J) ++ (w_SS (k_Z M) A (a_S X))))))) rfl ?_
    refine q_i2l K dX3_odds_24 ?_
    exact Rt _ _ ((r_fin 0).toInt64) (w_G (k_Z M) A (a_kp X) (fd_up (a_fd X) 0) ++ (w_F (k_Z M) (A 1) (a_F X) ++ (w_F (k_Z M) (A 2) T ++ (w_F (k_Z M) (A 3) (a_K X) ++ (w_T (k_Z M) (A 4) (t_of (a_tp X) J) ++ (w_SS (k_Z M) A (a_S X))))))) dX3_odds_25 (⟨T, J, by simp only [o_odds, a_fin, if_neg c_2], by simp only [o_odds, a_fin, if_neg c_2]; rfl⟩)
  · have c_2 : inR n 0 20 := (kn_ne e_r_1).mp c_2
    obtain ⟨k, h_k, e_k⟩ := kn_rng (n := 20) c_2 rfl
    subst e_k
    refine q_iload_n K 2 dX3_odds_10 rfl ?_
    refine q_iconst 0 K dX3_odds_11 rfl ?_
    refine q_iconst 1 K dX3_odds_12 rfl ?_
    refine q_cp (rest := []) K ks_X3_isIn (c_X3_isIn (k_l M) (k_Z M) what 0 1) ml_X3_48 rfl rfl (Nat.le_of_ble_eq_true rfl) ⟨Nat.le_of_ble_eq_true rfl, Nat.le_of_ble_eq_true rfl⟩ dX3_odds_13 (fun r_5 e_r_5 => ?_)
    refine q_if_ne 26 K dX3_odds_16 (by decide) (fun c_6 => ?_) (fun c_6 => ?_)
    · have c_6 : inR what 0 1 := (kn_ne e_r_5).mp c_6
      refine q_aload_n K 0 dX3_odds_26 rfl ?_
      refine q_get (.ref ((A 1) 0)) K ws_X3 0 rfl rfl 0 (by decide) fl_X3_12 rfl dX3_odds_27 ?_
      refine q_cvI (q0 := 0) (As := []) (rest := []) K kv_X0_notShut (c_X0_notShut (k_l M) (k_Z M) (A 1) (a_F X)) (w_G (k_Z M) A (a_kp X) (a_fd X)) (w_F (k_Z M) (A 2) T ++ (w_F (k_Z M) (A 3) (a_K X) ++ (w_T (k_Z M) (A 4) (t_of (a_tp X) J) ++ (w_SS (k_Z M) A (a_S X))))) rfl rfl rfl ml_X3_119 rfl rfl (Nat.le_of_ble_eq_true rfl) ⟨Nat.le_of_ble_eq_true rfl, Nat.le_of_ble_eq_true rfl⟩ dX3_odds_30 (fun r_8 w2 h_7 => ?_)
      obtain ⟨e_r_8, rfl⟩ := h_7
      refine q_eqi (f_ns (a_F X) 8) e_r_8 ?_
      refine q_ws (ws' := w_G (k_Z M) A (a_kp X) (a_fd X) ++ (w_F (k_Z M) (A 1) (a_F X) ++ (w_F (k_Z M) (A 2) T ++ (w_F (k_Z M) (A 3) (a_K X) ++ (w_T (k_Z M) (A 4) (t_of (a_tp X) J) ++ (w_SS (k_Z M) A (a_S X))))))) rfl ?_
      refine q_cp (rest := []) K ks_J6_bitCount_0f7a4 (c_J6_bitCount_0f7a4 (k_l M) (k_Z M) (f_ns (a_F X) 8)) ml_X3_167 rfl rfl (Nat.le_of_ble_eq_true rfl) ⟨Nat.le_of_ble_eq_true rfl, Nat.le_of_ble_eq_true rfl⟩ dX3_odds_33 (fun r_9 e_r_9 => ?_)
      obtain ⟨c, hc, ec⟩ := j_bc_ns (a_F X)
      refine q_eqi (nI c) (by rw [e_r_9]; exact ec) ?_
      rcases (show c = 0 ∨ c = 1 ∨ c = 2 ∨ c = 3 ∨ c = 4 ∨ c = 5 ∨ c = 6 ∨ c = 7 ∨ c = 8 by omega) with rfl | rfl | rfl | rfl | rfl | rfl | rfl | rfl | rfl
      · refine q_eqi 0 rfl ?_
        refine q_istore_n (lv' := [(3, .int 0), (0, .ref ((A 0) 0)), (1, .int (nI k)), (2, .int what)]) K dX3_odds_36 (by decide) rfl ?_
        refine q_bipush 8 K dX3_odds_37 rfl ?_
        refine q_istore (lv' := [(4, .int 8), (3, .int 0), (0, .ref ((A 0) 0)), (1, .int (nI k)), (2, .int what)]) K dX3_odds_39 (by decide) rfl ?_
        refine q_iconst 0 K dX3_odds_41 rfl ?_
        refine q_istore (lv' := [(5, .int 0), (4, .int 8), (3, .int 0), (0, .ref ((A 0) 0)), (1, .int (nI k)), (2, .int what)]) K dX3_odds_42 (by decide) rfl ?_
        refine q_iload K 0 dX3_odds_44 rfl ?_
        refine q_iconst 3 K dX3_odds_46 rfl ?_
        refine q_icmp_ge 78 K dX3_odds_47 (by decide) (fun c_0 => absurd c_0 (by decide)) (fun c_0 => ?_)
        refine q_iload_n K 2 dX3_odds_50 rfl ?_
        refine q_iconst 2 K dX3_odds_51 rfl ?_
        refine q_irem K dX3_odds_52 (by decide) ?_
        refine q_eqi 0 rfl ?_
        refine q_if_ne 78 K dX3_odds_53 (by decide) (fun c_0 => absurd c_0 (by decide)) (fun c_0 => ?_)
        refine q_iload K 1 dX3_odds_56 rfl ?_
        refine q_iconst 1 K dX3_odds_58 rfl ?_
        refine q_icmp_le 78 K dX3_odds_59 (by decide) (fun c_0 => absurd c_0 (by decide)) (fun c_0 => ?_)
        refine q_iload_n K 2 dX3_odds_62 rfl ?_
        refine q_iconst 2 K dX3_odds_63 rfl ?_
        refine q_idiv K dX3_odds_64 (by decide) ?_
        refine q_eqi 0 rfl ?_
        refine q_istore_n (lv' := [(3, .int 0), (5, .int 0), (4, .int 8), (0, .ref ((A 0) 0)), (1, .int (nI k)), (2, .int what)]) K dX3_odds_65 (by decide) rfl ?_
        refine q_iload K 2 dX3_odds_66 rfl ?_
        refine q_iconst 2 K dX3_odds_68 rfl ?_
        refine q_idiv K dX3_odds_69 (by decide) ?_
        refine q_eqi 4 rfl ?_
        refine q_istore (lv' := [(4, .int 4), (3, .int 0), (5, .int 0), (0, .ref ((A 0) 0)), (1, .int (nI k)), (2, .int what)]) K dX3_odds_70 (by decide) rfl ?_
        refine q_iinc 1 (lv' := [(5, .int 1), (4, .int 4), (3, .int 0), (0, .ref ((A 0) 0)), (1, .int (nI k)), (2, .int what)]) K 2 dX3_odds_72 rfl rfl (by decide) rfl ?_
        refine q_goto 44 K dX3_odds_75 (by decide) ?_
        refine q_iload K 0 dX3_odds_44 rfl ?_
        refine q_iconst 3 K dX3_odds_46 rfl ?_
        refine q_icmp_ge 78 K dX3_odds_47 (by decide) (fun c_0 => absurd c_0 (by decide)) (fun c_0 => ?_)
        refine q_iload_n K 2 dX3_odds_50 rfl ?_
        refine q_iconst 2 K dX3_odds_51 rfl ?_
        refine q_irem K dX3_odds_52 (by decide) ?_
        refine q_eqi 0 rfl ?_
        refine q_if_ne 78 K dX3_odds_53 (by decide) (fun c_0 => absurd c_0 (by decide)) (fun c_0 => ?_)
        refine q_iload K 1 dX3_odds_56 rfl ?_
        refine q_iconst 1 K dX3_odds_58 rfl ?_
        refine q_icmp_le 78 K dX3_odds_59 (by decide) (fun c_0 => absurd c_0 (by decide)) (fun c_0 => ?_)
        refine q_iload_n K 2 dX3_odds_62 rfl ?_
        refine q_iconst 2 K dX3_odds_63 rfl ?_
        refine q_idiv K dX3_odds_64 (by decide) ?_
        refine q_eqi 0 rfl ?_
        refine q_istore_n (lv' := [(3, .int 0), (5, .int 1), (4, .int 4), (0, .ref ((A 0) 0)), (1, .int (nI k)), (2, .int what)]) K dX3_odds_65 (by decide) rfl ?_
        refine q_iload K 2 dX3_odds_66 rfl ?_
        refine q_iconst 2 K dX3_odds_68 rfl ?_
        refine q_idiv K dX3_odds_69 (by decide) ?_
        refine q_eqi 2 rfl ?_
        refine q_istore (lv' := [(4, .int 2), (3, .int 0), (5, .int 1), (0, .ref ((A 0) 0)), (1, .int (nI k)), (2, .int what)]) K dX3_odds_70 (by decide) rfl ?_
        refine q_iinc 2 (lv' := [(5, .int 2), (4, .int 2), (3, .int 0), (0, .ref ((A 0) 0)), (1, .int (nI k)), (2, .int what)]) K 2 dX3_odds_72 rfl rfl (by decide) rfl ?_
        refine q_goto 44 K dX3_odds_75 (by decide) ?_
        refine q_iload K 0 dX3_odds_44 rfl ?_
        refine q_iconst 3 K dX3_odds_46 rfl ?_
        refine q_icmp_ge 78 K dX3_odds_47 (by decide) (fun c_0 => absurd c_0 (by decide)) (fun c_0 => ?_)
        refine q_iload_n K 2 dX3_odds_50 rfl ?_
        refine q_iconst 2 K dX3_odds_51 rfl ?_
        refine q_irem K dX3_odds_52 (by decide) ?_
        refine q_eqi 0 rfl ?_
        refine q_if_ne 78 K dX3_odds_53 (by decide) (fun c_0 => absurd c_0 (by decide)) (fun c_0 => ?_)
        refine q_iload K 1 dX3_odds_56 rfl ?_
        refine q_iconst 1 K dX3_odds_58 rfl ?_
        refine q_icmp_le 78 K dX3_odds_59 (by decide) (fun c_0 => absurd c_0 (by decide)) (fun c_0 => ?_)
        refine q_iload_n K 2 dX3_odds_62 rfl ?_
        refine q_iconst 2 K dX3_odds_63 rfl ?_
        refine q_idiv K dX3_odds_64 (by decide) ?_
        refine q_eqi 0 rfl ?_
        refine q_istore_n (lv' := [(3, .int 0), (5, .int 2), (4, .int 2), (0, .ref ((A 0) 0)), (1, .int (nI k)), (2, .int what)]) K dX3_odds_65 (by decide) rfl ?_
        refine q_iload K 2 dX3_odds_66 rfl ?_
        refine q_iconst 2 K dX3_odds_68 rfl ?_
        refine q_idiv K dX3_odds_69 (by decide) ?_
        refine q_eqi 1 rfl ?_
        refine q_istore (lv' := [(4, .int 1), (3, .int 0), (5, .int 2), (0, .ref ((A 0) 0)), (1, .int (nI k)), (2, .int what)]) K dX3_odds_70 (by decide) rfl ?_
        refine q_iinc 3 (lv' := [(5, .int 3), (4, .int 1), (3, .int 0), (0, .ref ((A 0) 0)), (1, .int (nI k)), (2, .int what)]) K 2 dX3_odds_72 rfl rfl (by decide) rfl ?_
        refine q_goto 44 K dX3_odds_75 (by decide) ?_
        refine q_iload K 0 dX3_odds_44 rfl ?_
        refine q_iconst 3 K dX3_odds_46 rfl ?_
        refine q_icmp_ge 78 K dX3_odds_47 (by decide) (fun c_0 => ?_) (fun c_0 => absurd c_0 (by decide))
        refine q_iload_n K 5 dX3_odds_78 rfl ?_
        refine q_cuti (fun v9 : Int32 => v9 = (if what = 0 then 0 else 1)) 88 (st := []) (fun v_10 e_v_10 => ?_) (fun j_v_10 => ?_)
        · have e_v_10b : v_10 = if ¬ (what = 0) then 1 else 0 := kn_neg e_v_10
          refine q_iload_n K 4 dX3_odds_88 rfl ?_
          refine q_csL (rest := []) K ks_X3_power (c_X3_power (k_l M) (k_Z M) v_10 k (by omega)) [] (w_G (k_Z M) A (a_kp X) (a_fd X) ++ (w_F (k_Z M) (A 1) (a_F X) ++ (w_F (k_Z M) (A 2) T ++ (w_F (k_Z M) (A 3) (a_K X) ++ (w_T (k_Z M) (A 4) (t_of (a_tp X) J) ++ (w_SS (k_Z M) A (a_S X))))))) rfl ml_X3_170 rfl rfl (Nat.le_of_ble_eq_true rfl) ⟨Nat.le_of_ble_eq_true rfl, Nat.le_of_ble_eq_true rfl⟩ dX3_odds_89 (fun r_12 w2 h_13 => ?_)
          obtain ⟨e_r_12, rfl⟩ := h_13
          refine q_ws (ws' := w_G (k_Z M) A (a_kp X) (a_fd X) ++ (w_F (k_Z M) (A 1) (a_F X) ++ (w_F (k_Z M) (A 2) T ++ (w_F (k_Z M) (A 3) (a_K X) ++ (w_T (k_Z M) (A 4) (t_of (a_tp X) J) ++ (w_SS (k_Z M) A (a_S X))))))) rfl ?_
          exact Rt _ _ r_12 (w_G (k_Z M) A (a_kp X) (a_fd X) ++ (w_F (k_Z M) (A 1) (a_F X) ++ (w_F (k_Z M) (A 2) T ++ (w_F (k_Z M) (A 3) (a_K X) ++ (w_T (k_Z M) (A 4) (t_of (a_tp X) J) ++ (w_SS (k_Z M) A (a_S X))))))) dX3_odds_92 (⟨T, J, by rw [e_r_12, e_v_10]; simp only [o_odds, if_pos c_2, if_pos c_6, nI_clamp (n := k) (by omega), ec, nI_clamp (n := 0) (by omega)]; rfl, by simp only [o_odds, if_pos c_2, if_pos c_6, nI_clamp (n := k) (by omega), ec, nI_clamp (n := 0) (by omega)]; rfl⟩)
        · refine q_if_ne 86 K dX3_odds_79 (by decide) (fun c_11 => ?_) (fun c_11 => ?_)
          · refine q_iload K 1 dX3_odds_86 rfl ?_
            exact j_v_10 _ (if_neg c_11).symm
          · refine q_iload_n K 2 dX3_odds_82 rfl ?_
            refine q_goto 88 K dX3_odds_83 (by decide) ?_
            exact j_v_10 _ (if_pos c_11).symm
      · refine q_eqi 1 rfl ?_
        refine q_istore_n (lv' := [(3, .int 1), (0, .ref ((A 0) 0)), (1, .int (nI k)), (2, .int what)]) K dX3_odds_36 (by decide) rfl ?_
        refine q_bipush 8 K dX3_odds_37 rfl ?_
        refine q_istore (lv' := [(4, .int 8), (3, .int 1), (0, .ref ((A 0) 0)), (1, .int (nI k)), (2, .int what)]) K dX3_odds_39 (by decide) rfl ?_
        refine q_iconst 0 K dX3_odds_41 rfl ?_
        refine q_istore (lv' := [(5, .int 0), (4, .int 8), (3, .int 1), (0, .ref ((A 0) 0)), (1, .int (nI k)), (2, .int what)]) K dX3_odds_42 (by decide) rfl ?_
        refine q_iload K 0 dX3_odds_44 rfl ?_
        refine q_iconst 3 K dX3_odds_46 rfl ?_
        refine q_icmp_ge 78 K dX3_odds_47 (by decide) (fun c_0 => absurd c_0 (by decide)) (fun c_0 => ?_)
        refine q_iload_n K 2 dX3_odds_50 rfl ?_
        refine q_iconst 2 K dX3_odds_51 rfl ?_
        refine q_irem K dX3_odds_52 (by decide) ?_
        refine q_eqi 1 rfl ?_
        refine q_if_ne 78 K dX3_odds_53 (by decide) (fun c_0 => ?_) (fun c_0 => absurd c_0 (by decide))
        refine q_iload_n K 5 dX3_odds_78 rfl ?_
        refine q_cuti (fun v9 : Int32 => v9 = (if what = 0 then 1 else 8)) 88 (st := []) (fun v_14 e_v_14 => ?_) (fun j_v_14 => ?_)
        · refine q_iload_n K 4 dX3_odds_88 rfl ?_
          refine q_csL (rest := []) K ks_X3_power (c_X3_power (k_l M) (k_Z M) v_14 k (by omega)) [] (w_G (k_Z M) A (a_kp X) (a_fd X) ++ (w_F (k_Z M) (A 1) (a_F X) ++ (w_F (k_Z M) (A 2) T ++ (w_F (k_Z M) (A 3) (a_K X) ++ (w_T (k_Z M) (A 4) (t_of (a_tp X) J) ++ (w_SS (k_Z M) A (a_S X))))))) rfl ml_X3_170 rfl rfl (Nat.le_of_ble_eq_true rfl) ⟨Nat.le_of_ble_eq_true rfl, Nat.le_of_ble_eq_true rfl⟩ dX3_odds_89 (fun r_16 w2 h_17 => ?_)
          obtain ⟨e_r_16, rfl⟩ := h_17
          refine q_ws (ws' := w_G (k_Z M) A (a_kp X) (a_fd X) ++ (w_F (k_Z M) (A 1) (a_F X) ++ (w_F (k_Z M) (A 2) T ++ (w_F (k_Z M) (A 3) (a_K X) ++ (w_T (k_Z M) (A 4) (t_of (a_tp X) J) ++ (w_SS (k_Z M) A (a_S X))))))) rfl ?_
          exact Rt _ _ r_16 (w_G (k_Z M) A (a_kp X) (a_fd X) ++ (w_F (k_Z M) (A 1) (a_F X) ++ (w_F (k_Z M) (A 2) T ++ (w_F (k_Z M) (A 3) (a_K X) ++ (w_T (k_Z M) (A 4) (t_of (a_tp X) J) ++ (w_SS (k_Z M) A (a_S X))))))) dX3_odds_92 (⟨T, J, by rw [e_r_16, e_v_14]; simp only [o_odds, if_pos c_2, if_pos c_6, nI_clamp (n := k) (by omega), ec, nI_clamp (n := 1) (by omega)]; rfl, by simp only [o_odds, if_pos c_2, if_pos c_6, nI_clamp (n := k) (by omega), ec, nI_clamp (n := 1) (by omega)]; rfl⟩)
        · refine q_if_ne 86 K dX3_odds_79 (by decide) (fun c_15 => ?_) (fun c_15 => ?_)
          · refine q_iload K 1 dX3_odds_86 rfl ?_
            exact j_v_14 _ (if_neg c_15).symm
          · refine q_iload_n K 2 dX3_odds_82 rfl ?_
            refine q_goto 88 K dX3_odds_83 (by decide) ?_
            exact j_v_14 _ (if_pos c_15).symm
      · refine q_eqi 2 rfl ?_
        refine q_istore_n (lv' := [(3, .int 2), (0, .ref ((A 0) 0)), (1, .int (nI k)), (2, .int what)]) K dX3_odds_36 (by decide) rfl ?_
        refine q_bipush 8 K dX3_odds_37 rfl ?_
        refine q_istore (lv' := [(4, .int 8), (3, .int 2), (0, .ref ((A 0) 0)), (1, .int (nI k)), (2, .int what)]) K dX3_odds_39 (by decide) rfl ?_
        refine q_iconst 0 K dX3_odds_41 rfl ?_
        refine q_istore (lv' := [(5, .int 0), (4, .int 8), (3, .int 2), (0, .ref ((A 0) 0)), (1, .int (nI k)), (2, .int what)]) K dX3_odds_42 (by decide) rfl ?_
        refine q_iload K 0 dX3_odds_44 rfl ?_
        refine q_iconst 3 K dX3_odds_46 rfl ?_
        refine q_icmp_ge 78 K dX3_odds_47 (by decide) (fun c_0 => absurd c_0 (by decide)) (fun c_0 => ?_)
        refine q_iload_n K 2 dX3_odds_50 rfl ?_
        refine q_iconst 2 K dX3_odds_51 rfl ?_
        refine q_irem K dX3_odds_52 (by decide) ?_
        refine q_eqi 0 rfl ?_
        refine q_if_ne 78 K dX3_odds_53 (by decide) (fun c_0 => absurd c_0 (by decide)) (fun c_0 => ?_)
        refine q_iload K 1 dX3_odds_56 rfl ?_
        refine q_iconst 1 K dX3_odds_58 rfl ?_
        refine q_icmp_le 78 K dX3_odds_59 (by decide) (fun c_0 => absurd c_0 (by decide)) (fun c_0 => ?_)
        refine q_iload_n K 2 dX3_odds_62 rfl ?_
        refine q_iconst 2 K dX3_odds_63 rfl ?_
        refine q_idiv K dX3_odds_64 (by decide) ?_
        refine q_eqi 1 rfl ?_
        refine q_istore_n (lv' := [(3, .int 1), (5, .int 0), (4, .int 8), (0, .ref ((A 0) 0)), (1, .int (nI k)), (2, .int what)]) K dX3_odds_65 (by decide) rfl ?_
        refine q_iload K 2 dX3_odds_66 rfl ?_
        refine q_iconst 2 K dX3_odds_68 rfl ?_
        refine q_idiv K dX3_odds_69 (by decide) ?_
        refine q_eqi 4 rfl ?_
        refine q_istore (lv' := [(4, .int 4), (3, .int 1), (5, .int 0), (0, .ref ((A 0) 0)), (1, .int (nI k)), (2, .int what)]) K dX3_odds_70 (by decide) rfl ?_
        refine q_iinc 1 (lv' := [(5, .int 1), (4, .int 4), (3, .int 1), (0, .ref ((A 0) 0)), (1, .int (nI k)), (2, .int what)]) K 2 dX3_odds_72 rfl rfl (by decide) rfl ?_
        refine q_goto 44 K dX3_odds_75 (by decide) ?_
        refine q_iload K 0 dX3_odds_44 rfl ?_
        refine q_iconst 3 K dX3_odds_46 rfl ?_
        refine q_icmp_ge 78 K dX3_odds_47 (by decide) (fun c_0 => absurd c_0 (by decide)) (fun c_0 => ?_)
        refine q_iload_n K 2 dX3_odds_50 rfl ?_
        refine q_iconst 2 K dX3_odds_51 rfl ?_
        refine q_irem K dX3_odds_52 (by decide) ?_
        refine q_eqi 1 rfl ?_
        refine q_if_ne 78 K dX3_odds_53 (by decide) (fun c_0 => ?_) (fun c_0 => absurd c_0 (by decide))
        refine q_iload_n K 5 dX3_odds_78 rfl ?_
        refine q_cuti (fun v9 : Int32 => v9 = (if what = 0 then 1 else 4)) 88 (st := []) (fun v_18 e_v_18 => ?_) (fun j_v_18 => ?_)
        · refine q_iload_n K 4 dX3_odds_88 rfl ?_
          refine q_csL (rest := []) K ks_X3_power (c_X3_power (k_l M) (k_Z M) v_18 k (by omega)) [] (w_G (k_Z M) A (a_kp X) (a_fd X) ++ (w_F (k_Z M) (A 1) (a_F X) ++ (w_F (k_Z M) (A 2) T ++ (w_F (k_Z M) (A 3) (a_K X) ++ (w_T (k_Z M) (A 4) (t_of (a_tp X) J) ++ (w_SS (k_Z M) A (a_S X))))))) rfl ml_X3_170 rfl rfl (Nat.le_of_ble_eq_true rfl) ⟨Nat.le_of_ble_eq_true rfl, Nat.le_of_ble_eq_true rfl⟩ dX3_odds_89 (fun r_20 w2 h_21 => ?_)
          obtain ⟨e_r_20, rfl⟩ := h_21
          refine q_ws (ws' := w_G (k_Z M) A (a_kp X) (a_fd X) ++ (w_F (k_Z M) (A 1) (a_F X) ++ (w_F (k_Z M) (A 2) T ++ (w_F (k_Z M) (A 3) (a_K X) ++ (w_T (k_Z M) (A 4) (t_of (a_tp X) J) ++ (w_SS (k_Z M) A (a_S X))))))) rfl ?_
          exact Rt _ _ r_20 (w_G (k_Z M) A (a_kp X) (a_fd X) ++ (w_F (k_Z M) (A 1) (a_F X) ++ (w_F (k_Z M) (A 2) T ++ (w_F (k_Z M) (A 3) (a_K X) ++ (w_T (k_Z M) (A 4) (t_of (a_tp X) J) ++ (w_SS (k_Z M) A (a_S X))))))) dX3_odds_92 (⟨T, J, by rw [e_r_20, e_v_18]; simp only [o_odds, if_pos c_2, if_pos c_6, nI_clamp (n := k) (by omega), ec, nI_clamp (n := 2) (by omega)]; rfl, by simp only [o_odds, if_pos c_2, if_pos c_6, nI_clamp (n := k) (by omega), ec, nI_clamp (n := 2) (by omega)]; rfl⟩)
        · refine q_if_ne 86 K dX3_odds_79 (by decide) (fun c_19 => ?_) (fun c_19 => ?_)
          · refine q_iload K 1 dX3_odds_86 rfl ?_
            exact j_v_18 _ (if_neg c_19).symm
          · refine q_iload_n K 2 dX3_odds_82 rfl ?_
            refine q_goto 88 K dX3_odds_83 (by decide) ?_
            exact j_v_18 _ (if_pos c_19).symm
      · refine q_eqi 3 rfl ?_
        refine q_istore_n (lv' := [(3, .int 3), (0, .ref ((A 0) 0)), (1, .int (nI k)), (2, .int what)]) K dX3_odds_36 (by decide) rfl ?_
        refine q_bipush 8 K dX3_odds_37 rfl ?_
        refine q_istore (lv' := [(4, .int 8), (3, .int 3), (0, .ref ((A 0) 0)), (1, .int (nI k)), (2, .int what)]) K dX3_odds_39 (by decide) rfl ?_
        refine q_iconst 0 K dX3_odds_41 rfl ?_
        refine q_istore (lv' := [(5, .int 0), (4, .int 8), (3, .int 3), (0, .ref ((A 0) 0)), (1, .int (nI k)), (2, .int what)]) K dX3_odds_42 (by decide) rfl ?_
        refine q_iload K 0 dX3_odds_44 rfl ?_
        refine q_iconst 3 K dX3_odds_46 rfl ?_
        refine q_icmp_ge 78 K dX3_odds_47 (by decide) (fun c_0 => absurd c_0 (by decide)) (fun c_0 => ?_)
        refine q_iload_n K 2 dX3_odds_50 rfl ?_
        refine q_iconst 2 K dX3_odds_51 rfl ?_
        refine q_irem K dX3_odds_52 (by decide) ?_
        refine q_eqi 1 rfl ?_
        refine q_if_ne 78 K dX3_odds_53 (by decide) (fun c_0 => ?_) (fun c_0 => absurd c_0 (by decide))
        refine q_iload_n K 5 dX3_odds_78 rfl ?_
        refine q_cuti (fun v9 : Int32 => v9 = (if what = 0 then 3 else 8)) 88 (st := []) (fun v_22 e_v_22 => ?_) (fun j_v_22 => ?_)
        · refine q_iload_n K 4 dX3_odds_88 rfl ?_
          refine q_csL (rest := []) K ks_X3_power (c_X3_power (k_l M) (k_Z M) v_22 k (by omega)) [] (w_G (k_Z M) A (a_kp X) (a_fd X) ++ (w_F (k_Z M) (A 1) (a_F X) ++ (w_F (k_Z M) (A 2) T ++ (w_F (k_Z M) (A 3) (a_K X) ++ (w_T (k_Z M) (A 4) (t_of (a_tp X) J) ++ (w_SS (k_Z M) A (a_S X))))))) rfl ml_X3_170 rfl rfl (Nat.le_of_ble_eq_true rfl) ⟨Nat.le_of_ble_eq_true rfl, Nat.le_of_ble_eq_true rfl⟩ dX3_odds_89 (fun r_24 w2 h_25 => ?_)
          obtain ⟨e_r_24, rfl⟩ := h_25
          refine q_ws (ws' := w_G (k_Z M) A (a_kp X) (a_fd X) ++ (w_F (k_Z M) (A 1) (a_F X) ++ (w_F (k_Z M) (A 2) T ++ (w_F (k_Z M) (A 3) (a_K X) ++ (w_T (k_Z M) (A 4) (t_of (a_tp X) J) ++ (w_SS (k_Z M) A (a_S X))))))) rfl ?_
          exact Rt _ _ r_24 (w_G (k_Z M) A (a_kp X) (a_fd X) ++ (w_F (k_Z M) (A 1) (a_F X) ++ (w_F (k_Z M) (A 2) T ++ (w_F (k_Z M) (A 3) (a_K X) ++ (w_T (k_Z M) (A 4) (t_of (a_tp X) J) ++ (w_SS (k_Z M) A (a_S X))))))) dX3_odds_92 (⟨T, J, by rw [e_r_24, e_v_22]; simp only [o_odds, if_pos c_2, if_pos c_6, nI_clamp (n := k) (by omega), ec, nI_clamp (n := 3) (by omega)]; rfl, by simp only [o_odds, if_pos c_2, if_pos c_6, nI_clamp (n := k) (by omega), ec, nI_clamp (n := 3) (by omega)]; rfl⟩)
        · refine q_if_ne 86 K dX3_odds_79 (by decide) (fun c_23 => ?_) (fun c_23 => ?_)
          · refine q_iload K 1 dX3_odds_86 rfl ?_
            exact j_v_22 _ (if_neg c_23).symm
          · refine q_iload_n K 2 dX3_odds_82 rfl ?_
            refine q_goto 88 K dX3_odds_83 (by decide) ?_
            exact j_v_22 _ (if_pos c_23).symm
      · refine q_eqi 4 rfl ?_
        refine q_istore_n (lv' := [(3, .int 4), (0, .ref ((A 0) 0)), (1, .int (nI k)), (2, .int what)]) K dX3_odds_36 (by decide) rfl ?_
        refine q_bipush 8 K dX3_odds_37 rfl ?_
        refine q_istore (lv' := [(4, .int 8), (3, .int 4), (0, .ref ((A 0) 0)), (1, .int (nI k)), (2, .int what)]) K dX3_odds_39 (by decide) rfl ?_
        refine q_iconst 0 K dX3_odds_41 rfl ?_
        refine q_istore (lv' := [(5, .int 0), (4, .int 8), (3, .int 4), (0, .ref ((A 0) 0)), (1, .int (nI k)), (2, .int what)]) K dX3_odds_42 (by decide) rfl ?_
        refine q_iload K 0 dX3_odds_44 rfl ?_
        refine q_iconst 3 K dX3_odds_46 rfl ?_
        refine q_icmp_ge 78 K dX3_odds_47 (by decide) (fun c_0 => absurd c_0 (by decide)) (fun c_0 => ?_)
        refine q_iload_n K 2 dX3_odds_50 rfl ?_
        refine q_iconst 2 K dX3_odds_51 rfl ?_
        refine q_irem K dX3_odds_52 (by decide) ?_
        refine q_eqi 0 rfl ?_
        refine q_if_ne 78 K dX3_odds_53 (by decide) (fun c_0 => absurd c_0 (by decide)) (fun c_0 => ?_)
        refine q_iload K 1 dX3_odds_56 rfl ?_
        refine q_iconst 1 K dX3_odds_58 rfl ?_
        refine q_icmp_le 78 K dX3_odds_59 (by decide) (fun c_0 => absurd c_0 (by decide)) (fun c_0 => ?_)
        refine q_iload_n K 2 dX3_odds_62 rfl ?_
        refine q_iconst 2 K dX3_odds_63 rfl ?_
        refine q_idiv K dX3_odds_64 (by decide) ?_
        refine q_eqi 2 rfl ?_
        refine q_istore_n (lv' := [(3, .int 2), (5, .int 0), (4, .int 8), (0, .ref ((A 0) 0)), (1, .int (nI k)), (2, .int what)]) K dX3_odds_65 (by decide) rfl ?_
        refine q_iload K 2 dX3_odds_66 rfl ?_
        refine q_iconst 2 K dX3_odds_68 rfl ?_
        refine q_idiv K dX3_odds_69 (by decide) ?_
        refine q_eqi 4 rfl ?_
        refine q_istore (lv' := [(4, .int 4), (3, .int 2), (5, .int 0), (0, .ref ((A 0) 0)), (1, .int (nI k)), (2, .int what)]) K dX3_odds_70 (by decide) rfl ?_
        refine q_iinc 1 (lv' := [(5, .int 1), (4, .int 4), (3, .int 2), (0, .ref ((A 0) 0)), (1, .int (nI k)), (2, .int what)]) K 2 dX3_odds_72 rfl rfl (by decide) rfl ?_
        refine q_goto 44 K dX3_odds_75 (by decide) ?_
        refine q_iload K 0 dX3_odds_44 rfl ?_
        refine q_iconst 3 K dX3_odds_46 rfl ?_
        refine q_icmp_ge 78 K dX3_odds_47 (by decide) (fun c_0 => absurd c_0 (by decide)) (fun c_0 => ?_)
        refine q_iload_n K 2 dX3_odds_50 rfl ?_
        refine q_iconst 2 K dX3_odds_51 rfl ?_
        refine q_irem K dX3_odds_52 (by decide) ?_
        refine q_eqi 0 rfl ?_
        refine q_if_ne 78 K dX3_odds_53 (by decide) (fun c_0 => absurd c_0 (by decide)) (fun c_0 => ?_)
        refine q_iload K 1 dX3_odds_56 rfl ?_
        refine q_iconst 1 K dX3_odds_58 rfl ?_
        refine q_icmp_le 78 K dX3_odds_59 (by decide) (fun c_0 => absurd c_0 (by decide)) (fun c_0 => ?_)
        refine q_iload_n K 2 dX3_odds_62 rfl ?_
        refine q_iconst 2 K dX3_odds_63 rfl ?_
        refine q_idiv K dX3_odds_64 (by decide) ?_
        refine q_eqi 1 rfl ?_
        refine q_istore_n (lv' := [(3, .int 1), (5, .int 1), (4, .int 4), (0, .ref ((A 0) 0)), (1, .int (nI k)), (2, .int what)]) K dX3_odds_65 (by decide) rfl ?_
        refine q_iload K 2 dX3_odds_66 rfl ?_
        refine q_iconst 2 K dX3_odds_68 rfl ?_
        refine q_idiv K dX3_odds_69 (by decide) ?_
        refine q_eqi 2 rfl ?_
        refine q_istore (lv' := [(4, .int 2), (3, .int 1), (5, .int 1), (0, .ref ((A 0) 0)), (1, .int (nI k)), (2, .int what)]) K dX3_odds_70 (by decide) rfl ?_
        refine q_iinc 2 (lv' := [(5, .int 2), (4, .int 2), (3, .int 1), (0, .ref ((A 0) 0)), (1, .int (nI k)), (2, .int what)]) K 2 dX3_odds_72 rfl rfl (by decide) rfl ?_
        refine q_goto 44 K dX3_odds_75 (by decide) ?_
        refine q_iload K 0 dX3_odds_44 rfl ?_
        refine q_iconst 3 K dX3_odds_46 rfl ?_
        refine q_icmp_ge 78 K dX3_odds_47 (by decide) (fun c_0 => absurd c_0 (by decide)) (fun c_0 => ?_)
        refine q_iload_n K 2 dX3_odds_50 rfl ?_
        refine q_iconst 2 K dX3_odds_51 rfl ?_
        refine q_irem K dX3_odds_52 (by decide) ?_
        refine q_eqi 1 rfl ?_
        refine q_if_ne 78 K dX3_odds_53 (by decide) (fun c_0 => ?_) (fun c_0 => absurd c_0 (by decide))
        refine q_iload_n K 5 dX3_odds_78 rfl ?_
        refine q_cuti (fun v9 : Int32 => v9 = (if what = 0 then 1 else 2)) 88 (st := []) (fun v_26 e_v_26 => ?_) (fun j_v_26 => ?_)
        · refine q_iload_n K 4 dX3_odds_88 rfl ?_
          refine q_csL (rest := []) K ks_X3_power (c_X3_power (k_l M) (k_Z M) v_26 k (by omega)) [] (w_G (k_Z M) A (a_kp X) (a_fd X) ++ (w_F (k_Z M) (A 1) (a_F X) ++ (w_F (k_Z M) (A 2) T ++ (w_F (k_Z M) (A 3) (a_K X) ++ (w_T (k_Z M) (A 4) (t_of (a_tp X) J) ++ (w_SS (k_Z M) A (a_S X))))))) rfl ml_X3_170 rfl rfl (Nat.le_of_ble_eq_true rfl) ⟨Nat.le_of_ble_eq_true rfl, Nat.le_of_ble_eq_true rfl⟩ dX3_odds_89 (fun r_28 w2 h_29 => ?_)
          obtain ⟨e_r_28, rfl⟩ := h_29
          refine q_ws (ws' := w_G (k_Z M) A (a_kp X) (a_fd X) ++ (w_F (k_Z M) (A 1) (a_F X) ++ (w_F (k_Z M) (A 2) T ++ (w_F (k_Z M) (A 3) (a_K X) ++ (w_T (k_Z M) (A 4) (t_of (a_tp X) J) ++ (w_SS (k_Z M) A (a_S X))))))) rfl ?_
          exact Rt _ _ r_28 (w_G (k_Z M) A (a_kp X) (a_fd X) ++ (w_F (k_Z M) (A 1) (a_F X) ++ (w_F (k_Z M) (A 2) T ++ (w_F (k_Z M) (A 3) (a_K X) ++ (w_T (k_Z M) (A 4) (t_of (a_tp X) J) ++ (w_SS (k_Z M) A (a_S X))))))) dX3_odds_92 (⟨T, J, by rw [e_r_28, e_v_26]; simp only [o_odds, if_pos c_2, if_pos c_6, nI_clamp (n := k) (by omega), ec, nI_clamp (n := 4) (by omega)]; rfl, by simp only [o_odds, if_pos c_2, if_pos c_6, nI_clamp (n := k) (by omega), ec, nI_clamp (n := 4) (by omega)]; rfl⟩)
        · refine q_if_ne 86 K dX3_odds_79 (by decide) (fun c_27 => ?_) (fun c_27 => ?_)
          · refine q_iload K 1 dX3_odds_86 rfl ?_
            exact j_v_26 _ (if_neg c_27).symm
          · refine q_iload_n K 2 dX3_odds_82 rfl ?_
            refine q_goto 88 K dX3_odds_83 (by decide) ?_
            exact j_v_26 _ (if_pos c_27).symm
      · refine q_eqi 5 rfl ?_
        refine q_istore_n (lv' := [(3, .int 5), (0, .ref ((A 0) 0)), (1, .int (nI k)), (2, .int what)]) K dX3_odds_36 (by decide) rfl ?_
        refine q_bipush 8 K dX3_odds_37 rfl ?_
        refine q_istore (lv' := [(4, .int 8), (3, .int 5), (0, .ref ((A 0) 0)), (1, .int (nI k)), (2, .int what)]) K dX3_odds_39 (by decide) rfl ?_
        refine q_iconst 0 K dX3_odds_41 rfl ?_
        refine q_istore (lv' := [(5, .int 0), (4, .int 8), (3, .int 5), (0, .ref ((A 0) 0)), (1, .int (nI k)), (2, .int what)]) K dX3_odds_42 (by decide) rfl ?_
        refine q_iload K 0 dX3_odds_44 rfl ?_
        refine q_iconst 3 K dX3_odds_46 rfl ?_
        refine q_icmp_ge 78 K dX3_odds_47 (by decide) (fun c_0 => absurd c_0 (by decide)) (fun c_0 => ?_)
        refine q_iload_n K 2 dX3_odds_50 rfl ?_
        refine q_iconst 2 K dX3_odds_51 rfl ?_
        refine q_irem K dX3_odds_52 (by decide) ?_
        refine q_eqi 1 rfl ?_
        refine q_if_ne 78 K dX3_odds_53 (by decide) (fun c_0 => ?_) (fun c_0 => absurd c_0 (by decide))
        refine q_iload_n K 5 dX3_odds_78 rfl ?_
        refine q_cuti (fun v9 : Int32 => v9 = (if what = 0 then 5 else 8)) 88 (st := []) (fun v_30 e_v_30 => ?_) (fun j_v_30 => ?_)
        · refine q_iload_n K 4 dX3_odds_88 rfl ?_
          refine q_csL (rest := []) K ks_X3_power (c_X3_power (k_l M) (k_Z M) v_30 k (by omega)) [] (w_G (k_Z M) A (a_kp X) (a_fd X) ++ (w_F (k_Z M) (A 1) (a_F X) ++ (w_F (k_Z M) (A 2) T ++ (w_F (k_Z M) (A 3) (a_K X) ++ (w_T (k_Z M) (A 4) (t_of (a_tp X) J) ++ (w_SS (k_Z M) A (a_S X))))))) rfl ml_X3_170 rfl rfl (Nat.le_of_ble_eq_true rfl) ⟨Nat.le_of_ble_eq_true rfl, Nat.le_of_ble_eq_true rfl⟩ dX3_odds_89 (fun r_32 w2 h_33 => ?_)
          obtain ⟨e_r_32, rfl⟩ := h_33
          refine q_ws (ws' := w_G (k_Z M) A (a_kp X) (a_fd X) ++ (w_F (k_Z M) (A 1) (a_F X) ++ (w_F (k_Z M) (A 2) T ++ (w_F (k_Z M) (A 3) (a_K X) ++ (w_T (k_Z M) (A 4) (t_of (a_tp X) J) ++ (w_SS (k_Z M) A (a_S X))))))) rfl ?_
          exact Rt _ _ r_32 (w_G (k_Z M) A (a_kp X) (a_fd X) ++ (w_F (k_Z M) (A 1) (a_F X) ++ (w_F (k_Z M) (A 2) T ++ (w_F (k_Z M) (A 3) (a_K X) ++ (w_T (k_Z M) (A 4) (t_of (a_tp X) J) ++ (w_SS (k_Z M) A (a_S X))))))) dX3_odds_92 (⟨T, J, by rw [e_r_32, e_v_30]; simp only [o_odds, if_pos c_2, if_pos c_6, nI_clamp (n := k) (by omega), ec, nI_clamp (n := 5) (by omega)]; rfl, by simp only [o_odds, if_pos c_2, if_pos c_6, nI_clamp (n := k) (by omega), ec, nI_clamp (n := 5) (by omega)]; rfl⟩)
        · refine q_if_ne 86 K dX3_odds_79 (by decide) (fun c_31 => ?_) (fun c_31 => ?_)
          · refine q_iload K 1 dX3_odds_86 rfl ?_
            exact j_v_30 _ (if_neg c_31).symm
          · refine q_iload_n K 2 dX3_odds_82 rfl ?_
            refine q_goto 88 K dX3_odds_83 (by decide) ?_
            exact j_v_30 _ (if_pos c_31).symm
      · refine q_eqi 6 rfl ?_
        refine q_istore_n (lv' := [(3, .int 6), (0, .ref ((A 0) 0)), (1, .int (nI k)), (2, .int what)]) K dX3_odds_36 (by decide) rfl ?_
        refine q_bipush 8 K dX3_odds_37 rfl ?_
        refine q_istore (lv' := [(4, .int 8), (3, .int 6), (0, .ref ((A 0) 0)), (1, .int (nI k)), (2, .int what)]) K dX3_odds_39 (by decide) rfl ?_
        refine q_iconst 0 K dX3_odds_41 rfl ?_
        refine q_istore (lv' := [(5, .int 0), (4, .int 8), (3, .int 6), (0, .ref ((A 0) 0)), (1, .int (nI k)), (2, .int what)]) K dX3_odds_42 (by decide) rfl ?_
        refine q_iload K 0 dX3_odds_44 rfl ?_
        refine q_iconst 3 K dX3_odds_46 rfl ?_
        refine q_icmp_ge 78 K dX3_odds_47 (by decide) (fun c_0 => absurd c_0 (by decide)) (fun c_0 => ?_)
        refine q_iload_n K 2 dX3_odds_50 rfl ?_
        refine q_iconst 2 K dX3_odds_51 rfl ?_
        refine q_irem K dX3_odds_52 (by decide) ?_
        refine q_eqi 0 rfl ?_
        refine q_if_ne 78 K dX3_odds_53 (by decide) (fun c_0 => absurd c_0 (by decide)) (fun c_0 => ?_)
        refine q_iload K 1 dX3_odds_56 rfl ?_
        refine q_iconst 1 K dX3_odds_58 rfl ?_
        refine q_icmp_le 78 K dX3_odds_59 (by decide) (fun c_0 => absurd c_0 (by decide)) (fun c_0 => ?_)
        refine q_iload_n K 2 dX3_odds_62 rfl ?_
        refine q_iconst 2 K dX3_odds_63 rfl ?_
        refine q_idiv K dX3_odds_64 (by decide) ?_
        refine q_eqi 3 rfl ?_
        refine q_istore_n (lv' := [(3, .int 3), (5, .int 0), (4, .int 8), (0, .ref ((A 0) 0)), (1, .int (nI k)), (2, .int what)]) K dX3_odds_65 (by decide) rfl ?_
        refine q_iload K 2 dX3_odds_66 rfl ?_
        refine q_iconst 2 K dX3_odds_68 rfl ?_
        refine q_idiv K dX3_odds_69 (by decide) ?_
        refine q_eqi 4 rfl ?_
        refine q_istore (lv' := [(4, .int 4), (3, .int 3), (5, .int 0), (0, .ref ((A 0) 0)), (1, .int (nI k)), (2, .int what)]) K dX3_odds_70 (by decide) rfl ?_
        refine q_iinc 1 (lv' := [(5, .int 1), (4, .int 4), (3, .int 3), (0, .ref ((A 0) 0)), (1, .int (nI k)), (2, .int what)]) K 2 dX3_odds_72 rfl rfl (by decide) rfl ?_
        refine q_goto 44 K dX3_odds_75 (by decide) ?_
        refine q_iload K 0 dX3_odds_44 rfl ?_
        refine q_iconst 3 K dX3_odds_46 rfl ?_
        refine q_icmp_ge 78 K dX3_odds_47 (by decide) (fun c_0 => absurd c_0 (by decide)) (fun c_0 => ?_)
        refine q_iload_n K 2 dX3_odds_50 rfl ?_
        refine q_iconst 2 K dX3_odds_51 rfl ?_
        refine q_irem K dX3_odds_52 (by decide) ?_
        refine q_eqi 1 rfl ?_
        refine q_if_ne 78 K dX3_odds_53 (by decide) (fun c_0 => ?_) (fun c_0 => absurd c_0 (by decide))
        refine q_iload_n K 5 dX3_odds_78 rfl ?_
        refine q_cuti (fun v9 : Int32 => v9 = (if what = 0 then 3 else 4)) 88 (st := []) (fun v_34 e_v_34 => ?_) (fun j_v_34 => ?_)
        · refine q_iload_n K 4 dX3_odds_88 rfl ?_
          refine q_csL (rest := []) K ks_X3_power (c_X3_power (k_l M) (k_Z M) v_34 k (by omega)) [] (w_G (k_Z M) A (a_kp X) (a_fd X) ++ (w_F (k_Z M) (A 1) (a_F X) ++ (w_F (k_Z M) (A 2) T ++ (w_F (k_Z M) (A 3) (a_K X) ++ (w_T (k_Z M) (A 4) (t_of (a_tp X) J) ++ (w_SS (k_Z M) A (a_S X))))))) rfl ml_X3_170 rfl rfl (Nat.le_of_ble_eq_true rfl) ⟨Nat.le_of_ble_eq_true rfl, Nat.le_of_ble_eq_true rfl⟩ dX3_odds_89 (fun r_36 w2 h_37 => ?_)
          obtain ⟨e_r_36, rfl⟩ := h_37
          refine q_ws (ws' := w_G (k_Z M) A (a_kp X) (a_fd X) ++ (w_F (k_Z M) (A 1) (a_F X) ++ (w_F (k_Z M) (A 2) T ++ (w_F (k_Z M) (A 3) (a_K X) ++ (w_T (k_Z M) (A 4) (t_of (a_tp X) J) ++ (w_SS (k_Z M) A (a_S X))))))) rfl ?_
          exact Rt _ _ r_36 (w_G (k_Z M) A (a_kp X) (a_fd X) ++ (w_F (k_Z M) (A 1) (a_F X) ++ (w_F (k_Z M) (A 2) T ++ (w_F (k_Z M) (A 3) (a_K X) ++ (w_T (k_Z M) (A 4) (t_of (a_tp X) J) ++ (w_SS (k_Z M) A (a_S X))))))) dX3_odds_92 (⟨T, J, by rw [e_r_36, e_v_34]; simp only [o_odds, if_pos c_2, if_pos c_6, nI_clamp (n := k) (by omega), ec, nI_clamp (n := 6) (by omega)]; rfl, by simp only [o_odds, if_pos c_2, if_pos c_6, nI_clamp (n := k) (by omega), ec, nI_clamp (n := 6) (by omega)]; rfl⟩)
        · refine q_if_ne 86 K dX3_odds_79 (by decide) (fun c_35 => ?_) (fun c_35 => ?_)
          · refine q_iload K 1 dX3_odds_86 rfl ?_
            exact j_v_34 _ (if_neg c_35).symm
          · refine q_iload_n K 2 dX3_odds_82 rfl ?_
            refine q_goto 88 K dX3_odds_83 (by decide) ?_
            exact j_v_34 _ (if_pos c_35).symm
      · refine q_eqi 7 rfl ?_
        refine q_istore_n (lv' := [(3, .int 7), (0, .ref ((A 0) 0)), (1, .int (nI k)), (2, .int what)]) K dX3_odds_36 (by decide) rfl ?_
        refine q_bipush 8 K dX3_odds_37 rfl ?_
        refine q_istore (lv' := [(4, .int 8), (3, .int 7), (0, .ref ((A 0) 0)), (1, .int (nI k)), (2, .int what)]) K dX3_odds_39 (by decide) rfl ?_
        refine q_iconst 0 K dX3_odds_41 rfl ?_
        refine q_istore (lv' := [(5, .int 0), (4, .int 8), (3, .int 7), (0, .ref ((A 0) 0)), (1, .int (nI k)), (2, .int what)]) K dX3_odds_42 (by decide) rfl ?_
        refine q_iload K 0 dX3_odds_44 rfl ?_
        refine q_iconst 3 K dX3_odds_46 rfl ?_
        refine q_icmp_ge 78 K dX3_odds_47 (by decide) (fun c_0 => absurd c_0 (by decide)) (fun c_0 => ?_)
        refine q_iload_n K 2 dX3_odds_50 rfl ?_
        refine q_iconst 2 K dX3_odds_51 rfl ?_
        refine q_irem K dX3_odds_52 (by decide) ?_
        refine q_eqi 1 rfl ?_
        refine q_if_ne 78 K dX3_odds_53 (by decide) (fun c_0 => ?_) (fun c_0 => absurd c_0 (by decide))
        refine q_iload_n K 5 dX3_odds_78 rfl ?_
        refine q_cuti (fun v9 : Int32 => v9 = (if what = 0 then 7 else 8)) 88 (st := []) (fun v_38 e_v_38 => ?_) (fun j_v_38 => ?_)
        · refine q_iload_n K 4 dX3_odds_88 rfl ?_
          refine q_csL (rest := []) K ks_X3_power (c_X3_power (k_l M) (k_Z M) v_38 k (by omega)) [] (w_G (k_Z M) A (a_kp X) (a_fd X) ++ (w_F (k_Z M) (A 1) (a_F X) ++ (w_F (k_Z M) (A 2) T ++ (w_F (k_Z M) (A 3) (a_K X) ++ (w_T (k_Z M) (A 4) (t_of (a_tp X) J) ++ (w_SS (k_Z M) A (a_S X))))))) rfl ml_X3_170 rfl rfl (Nat.le_of_ble_eq_true rfl) ⟨Nat.le_of_ble_eq_true rfl, Nat.le_of_ble_eq_true rfl⟩ dX3_odds_89 (fun r_40 w2 h_41 => ?_)
          obtain ⟨e_r_40, rfl⟩ := h_41
          refine q_ws (ws' := w_G (k_Z M) A (a_kp X) (a_fd X) ++ (w_F (k_Z M) (A 1) (a_F X) ++ (w_F (k_Z M) (A 2) T ++ (w_F (k_Z M) (A 3) (a_K X) ++ (w_T (k_Z M) (A 4) (t_of (a_tp X) J) ++ (w_SS (k_Z M) A (a_S X))))))) rfl ?_
          exact Rt _ _ r_40 (w_G (k_Z M) A (a_kp X) (a_fd X) ++ (w_F (k_Z M) (A 1) (a_F X) ++ (w_F (k_Z M) (A 2) T ++ (w_F (k_Z M) (A 3) (a_K X) ++ (w_T (k_Z M) (A 4) (t_of (a_tp X) J) ++ (w_SS (k_Z M) A (a_S X))))))) dX3_odds_92 (⟨T, J, by rw [e_r_40, e_v_38]; simp only [o_odds, if_pos c_2, if_pos c_6, nI_clamp (n := k) (by omega), ec, nI_clamp (n := 7) (by omega)]; rfl, by simp only [o_odds, if_pos c_2, if_pos c_6, nI_clamp (n := k) (by omega), ec, nI_clamp (n := 7) (by omega)]; rfl⟩)
        · refine q_if_ne 86 K dX3_odds_79 (by decide) (fun c_39 => ?_) (fun c_39 => ?_)
          · refine q_iload K 1 dX3_odds_86 rfl ?_
            exact j_v_38 _ (if_neg c_39).symm
          · refine q_iload_n K 2 dX3_odds_82 rfl ?_
            refine q_goto 88 K dX3_odds_83 (by decide) ?_
            exact j_v_38 _ (if_pos c_39).symm
      · refine q_eqi 8 rfl ?_
        refine q_istore_n (lv' := [(3, .int 8), (0, .ref ((A 0) 0)), (1, .int (nI k)), (2, .int what)]) K dX3_odds_36 (by decide) rfl ?_
        refine q_bipush 8 K dX3_odds_37 rfl ?_
        refine q_istore (lv' := [(4, .int 8), (3, .int 8), (0, .ref ((A 0) 0)), (1, .int (nI k)), (2, .int what)]) K dX3_odds_39 (by decide) rfl ?_
        refine q_iconst 0 K dX3_odds_41 rfl ?_
        refine q_istore (lv' := [(5, .int 0), (4, .int 8), (3, .int 8), (0, .ref ((A 0) 0)), (1, .int (nI k)), (2, .int what)]) K dX3_odds_42 (by decide) rfl ?_
        refine q_iload K 0 dX3_odds_44 rfl ?_
        refine q_iconst 3 K dX3_odds_46 rfl ?_
        refine q_icmp_ge 78 K dX3_odds_47 (by decide) (fun c_0 => absurd c_0 (by decide)) (fun c_0 => ?_)
        refine q_iload_n K 2 dX3_odds_50 rfl ?_
        refine q_iconst 2 K dX3_odds_51 rfl ?_
        refine q_irem K dX3_odds_52 (by decide) ?_
        refine q_eqi 0 rfl ?_
        refine q_if_ne 78 K dX3_odds_53 (by decide) (fun c_0 => absurd c_0 (by decide)) (fun c_0 => ?_)
        refine q_iload K 1 dX3_odds_56 rfl ?_
        refine q_iconst 1 K dX3_odds_58 rfl ?_
        refine q_icmp_le 78 K dX3_odds_59 (by decide) (fun c_0 => absurd c_0 (by decide)) (fun c_0 => ?_)
        refine q_iload_n K 2 dX3_odds_62 rfl ?_
        refine q_iconst 2 K dX3_odds_63 rfl ?_
        refine q_idiv K dX3_odds_64 (by decide) ?_
        refine q_eqi 4 rfl ?_
        refine q_istore_n (lv' := [(3, .int 4), (5, .int 0), (4, .int 8), (0, .ref ((A 0) 0)), (1, .int (nI k)), (2, .int what)]) K dX3_odds_65 (by decide) rfl ?_
        refine q_iload K 2 dX3_odds_66 rfl ?_
        refine q_iconst 2 K dX3_odds_68 rfl ?_
        refine q_idiv K dX3_odds_69 (by decide) ?_
        refine q_eqi 4 rfl ?_
        refine q_istore (lv' := [(4, .int 4), (3, .int 4), (5, .int 0), (0, .ref ((A 0) 0)), (1, .int (nI k)), (2, .int what)]) K dX3_odds_70 (by decide) rfl ?_
        refine q_iinc 1 (lv' := [(5, .int 1), (4, .int 4), (3, .int 4), (0, .ref ((A 0) 0)), (1, .int (nI k)), (2, .int what)]) K 2 dX3_odds_72 rfl rfl (by decide) rfl ?_
        refine q_goto 44 K dX3_odds_75 (by decide) ?_
        refine q_iload K 0 dX3_odds_44 rfl ?_
        refine q_iconst 3 K dX3_odds_46 rfl ?_
        refine q_icmp_ge 78 K dX3_odds_47 (by decide) (fun c_0 => absurd c_0 (by decide)) (fun c_0 => ?_)
        refine q_iload_n K 2 dX3_odds_50 rfl ?_
        refine q_iconst 2 K dX3_odds_51 rfl ?_
        refine q_irem K dX3_odds_52 (by decide) ?_
        refine q_eqi 0 rfl ?_
        refine q_if_ne 78 K dX3_odds_53 (by decide) (fun c_0 => absurd c_0 (by decide)) (fun c_0 => ?_)
        refine q_iload K 1 dX3_odds_56 rfl ?_
        refine q_iconst 1 K dX3_odds_58 rfl ?_
        refine q_icmp_le 78 K dX3_odds_59 (by decide) (fun c_0 => absurd c_0 (by decide)) (fun c_0 => ?_)
        refine q_iload_n K 2 dX3_odds_62 rfl ?_
        refine q_iconst 2 K dX3_odds_63 rfl ?_
        refine q_idiv K dX3_odds_64 (by decide) ?_
        refine q_eqi 2 rfl ?_
        refine q_istore_n (lv' := [(3, .int 2), (5, .int 1), (4, .int 4), (0, .ref ((A 0) 0)), (1, .int (nI k)), (2, .int what)]) K dX3_odds_65 (by decide) rfl ?_
        refine q_iload K 2 dX3_odds_66 rfl ?_
        refine q_iconst 2 K dX3_odds_68 rfl ?_
        refine q_idiv K dX3_odds_69 (by decide) ?_
        refine q_eqi 2 rfl ?_
        refine q_istore (lv' := [(4, .int 2), (3, .int 2), (5, .int 1), (0, .ref ((A 0) 0)), (1, .int (nI k)), (2, .int what)]) K dX3_odds_70 (by decide) rfl ?_
        refine q_iinc 2 (lv' := [(5, .int 2), (4, .int 2), (3, .int 2), (0, .ref ((A 0) 0)), (1, .int (nI k)), (2, .int what)]) K 2 dX3_odds_72 rfl rfl (by decide) rfl ?_
        refine q_goto 44 K dX3_odds_75 (by decide) ?_
        refine q_iload K 0 dX3_odds_44 rfl ?_
        refine q_iconst 3 K dX3_odds_46 rfl ?_
        refine q_icmp_ge 78 K dX3_odds_47 (by decide) (fun c_0 => absurd c_0 (by decide)) (fun c_0 => ?_)
        refine q_iload_n K 2 dX3_odds_50 rfl ?_
        refine q_iconst 2 K dX3_odds_51 rfl ?_
        refine q_irem K dX3_odds_52 (by decide) ?_
        refine q_eqi 0 rfl ?_
        refine q_if_ne 78 K dX3_odds_53 (by decide) (fun c_0 => absurd c_0 (by decide)) (fun c_0 => ?_)
        refine q_iload K 1 dX3_odds_56 rfl ?_
        refine q_iconst 1 K dX3_odds_58 rfl ?_
        refine q_icmp_le 78 K dX3_odds_59 (by decide) (fun c_0 => absurd c_0 (by decide)) (fun c_0 => ?_)
        refine q_iload_n K 2 dX3_odds_62 rfl ?_
        refine q_iconst 2 K dX3_odds_63 rfl ?_
        refine q_idiv K dX3_odds_64 (by decide) ?_
        refine q_eqi 1 rfl ?_
        refine q_istore_n (lv' := [(3, .int 1), (5, .int 2), (4, .int 2), (0, .ref ((A 0) 0)), (1, .int (nI k)), (2, .int what)]) K dX3_odds_65 (by decide) rfl ?_
        refine q_iload K 2 dX3_odds_66 rfl ?_
        refine q_iconst 2 K dX3_odds_68 rfl ?_
        refine q_idiv K dX3_odds_69 (by decide) ?_
        refine q_eqi 1 rfl ?_
        refine q_istore (lv' := [(4, .int 1), (3, .int 1), (5, .int 2), (0, .ref ((A 0) 0)), (1, .int (nI k)), (2, .int what)]) K dX3_odds_70 (by decide) rfl ?_
        refine q_iinc 3 (lv' := [(5, .int 3), (4, .int 1), (3, .int 1), (0, .ref ((A 0) 0)), (1, .int (nI k)), (2, .int what)]) K 2 dX3_odds_72 rfl rfl (by decide) rfl ?_
        refine q_goto 44 K dX3_odds_75 (by decide) ?_
        refine q_iload K 0 dX3_odds_44 rfl ?_
        refine q_iconst 3 K dX3_odds_46 rfl ?_
        refine q_icmp_ge 78 K dX3_odds_47 (by decide) (fun c_0 => ?_) (fun c_0 => absurd c_0 (by decide))
        refine q_iload_n K 5 dX3_odds_78 rfl ?_
        refine q_cuti (fun v9 : Int32 => v9 = (if what = 0 then 1 else 1)) 88 (st := []) (fun v_42 e_v_42 => ?_) (fun j_v_42 => ?_)
        · refine q_iload_n K 4 dX3_odds_88 rfl ?_
          refine q_csL (rest := []) K ks_X3_power (c_X3_power (k_l M) (k_Z M) v_42 k (by omega)) [] (w_G (k_Z M) A (a_kp X) (a_fd X) ++ (w_F (k_Z M) (A 1) (a_F X) ++ (w_F (k_Z M) (A 2) T ++ (w_F (k_Z M) (A 3) (a_K X) ++ (w_T (k_Z M) (A 4) (t_of (a_tp X) J) ++ (w_SS (k_Z M) A (a_S X))))))) rfl ml_X3_170 rfl rfl (Nat.le_of_ble_eq_true rfl) ⟨Nat.le_of_ble_eq_true rfl, Nat.le_of_ble_eq_true rfl⟩ dX3_odds_89 (fun r_44 w2 h_45 => ?_)
          obtain ⟨e_r_44, rfl⟩ := h_45
          refine q_ws (ws' := w_G (k_Z M) A (a_kp X) (a_fd X) ++ (w_F (k_Z M) (A 1) (a_F X) ++ (w_F (k_Z M) (A 2) T ++ (w_F (k_Z M) (A 3) (a_K X) ++ (w_T (k_Z M) (A 4) (t_of (a_tp X) J) ++ (w_SS (k_Z M) A (a_S X))))))) rfl ?_
          exact Rt _ _ r_44 (w_G (k_Z M) A (a_kp X) (a_fd X) ++ (w_F (k_Z M) (A 1) (a_F X) ++ (w_F (k_Z M) (A 2) T ++ (w_F (k_Z M) (A 3) (a_K X) ++ (w_T (k_Z M) (A 4) (t_of (a_tp X) J) ++ (w_SS (k_Z M) A (a_S X))))))) dX3_odds_92 (⟨T, J, by rw [e_r_44, e_v_42]; simp only [o_odds, if_pos c_2, if_pos c_6, nI_clamp (n := k) (by omega), ec, nI_clamp (n := 8) (by omega)]; rfl, by simp only [o_odds, if_pos c_2, if_pos c_6, nI_clamp (n := k) (by omega), ec, nI_clamp (n := 8) (by omega)]; rfl⟩)
        · refine q_if_ne 86 K dX3_odds_79 (by decide) (fun c_43 => ?_) (fun c_43 => ?_)
          · refine q_iload K 1 dX3_odds_86 rfl ?_
            exact j_v_42 _ (if_neg c_43).symm
          · refine q_iload_n K 2 dX3_odds_82 rfl ?_
            refine q_goto 88 K dX3_odds_83 (by decide) ?_
            exact j_v_42 _ (if_pos c_43).symm
    · have c_6 : ¬ (inR what 0 1) := (kn_eq e_r_5).mp c_6
      refine q_aload_n K 0 dX3_odds_19 rfl ?_
      refine q_iconst 0 K dX3_odds_20 rfl ?_
      refine q_wI (q0 := 0) (As := [.int 0]) (rest := []) K kv_X3_finding (c_X3_finding (k_l M) (k_Z M) A X T J 0 (by omega)) rfl rfl ml_X3_52 rfl rfl (Nat.le_of_ble_eq_true rfl) ⟨Nat.le_of_ble_eq_true rfl, Nat.le_of_ble_eq_true rfl⟩ dX3_odds_21 (fun r_47 w2 h_46 => ?_)
      obtain ⟨e_r_47, rfl⟩ := h_46
      refine q_eqi (r_fin 0) e_r_47 ?_
      refine q_ws (ws' := w_G (k_Z M) A (a_kp X) (fd_up (a_fd X) 0) ++ (w_F (k_Z M) (A 1) (a_F X) ++ (w_F (k_Z M) (A 2) T ++ (w_F (k_Z M) (A 3) (a_K X) ++ (w_T (k_Z M) (A 4) (t_of (a_tp X) J) ++ (w_SS (k_Z M) A (a_S X))))))) rfl ?_
      refine q_i2l K dX3_odds_24 ?_
      exact Rt _ _ ((r_fin 0).toInt64) (w_G (k_Z M) A (a_kp X) (fd_up (a_fd X) 0) ++ (w_F (k_Z M) (A 1) (a_F X) ++ (w_F (k_Z M) (A 2) T ++ (w_F (k_Z M) (A 3) (a_K X) ++ (w_T (k_Z M) (A 4) (t_of (a_tp X) J) ++ (w_SS (k_Z M) A (a_S X))))))) dX3_odds_25 (⟨T, J, by simp only [o_odds, a_fin, if_pos c_2, if_neg c_6, nI_clamp (n := k) (by omega)], by simp only [o_odds, a_fin, if_pos c_2, if_neg c_6, nI_clamp (n := k) (by omega)]; rfl⟩)
theorem kv_X3_odds : k_iv yX3_odds cX3_odds 6 (some .long) 2 := ⟨⟨im_X3_odds, se_X3_odds⟩, in_X3, co_X3_odds, by decide +kernel⟩
