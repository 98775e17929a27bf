set_option maxHeartbeats 4000000 in
set_option maxRecDepth 100000 in
theorem c_X3_copy (l : Launch) (Z : kz_Z) (A : Nat → Nat → Nat) (X : AS) (T : FS) (J : TJ) (m : Nat) (hm : m ≤ 8) (hm2 : f_wk (a_F X) = nI m) (hsh : a_shok X) (s f t u n : Int32) : KI l Z yX3_copy cX3_copy 6 .int 2 42 [.ref ((A 0) 0), .int s, .int f, .int t, .int u, .int n] (w_G Z A (a_kp X) (a_fd X) ++ (w_F Z (A 1) (a_F X) ++ (w_F Z (A 2) T ++ (w_F Z (A 3) (a_K X) ++ (w_T Z (A 4) (t_of (a_tp X) J) ++ (w_SS Z A (a_S X))))))) (fun r w2 => ∃ T2 J2, r = (o_copy X s f t u n).1 ∧ w2 = w_C Z A (o_copy X s f t u n).2 T2 J2) := by
  refine ki_of (by decide) [(0, .ref ((A 0) 0)), (1, .int s), (2, .int f), (3, .int t), (4, .int u), (5, .int n)] (Nat.le_of_ble_eq_true rfl) rfl ?_
  intro M e1 e2 K Rt
  subst e1 e2
  refine q_iload_n K 1 dX3_copy_0 rfl ?_
  refine q_cp (rest := []) K ks_X3_isSheet (c_X3_isSheet (k_l M) (k_Z M) s) ml_X3_197 rfl rfl (Nat.le_of_ble_eq_true rfl) ⟨Nat.le_of_ble_eq_true rfl, Nat.le_of_ble_eq_true rfl⟩ dX3_copy_1 (fun r_1 e_r_1 => ?_)
  refine q_if_eq 14 K dX3_copy_4 (by decide) (fun c_2 => ?_) (fun c_2 => ?_)
  · have c_2 : ¬ (inR s 0 3) := (kn_eq e_r_1).mp c_2
    refine q_aload_n K 0 dX3_copy_14 rfl ?_
    refine q_iconst 0 K dX3_copy_15 rfl ?_
    refine q_wI (q0 := 0) (As := [.int 0]) (rest := []) K kv_X3_finding (c_X3_finding (k_l M) (k_Z M) A X T J 0 (by omega)) rfl rfl ml_X3_52 rfl rfl (Nat.le_of_ble_eq_true rfl) ⟨Nat.le_of_ble_eq_true rfl, Nat.le_of_ble_eq_true rfl⟩ dX3_copy_16 (fun r_4 w2 h_3 => ?_)
    obtain ⟨e_r_4, rfl⟩ := h_3
    refine q_eqi (r_fin 0) e_r_4 ?_
    refine q_ws (ws' := w_G (k_Z M) A (a_kp X) (fd_up (a_fd X) 0) ++ (w_F (k_Z M) (A 1) (a_F X) ++ (w_F (k_Z M) (A 2) T ++ (w_F (k_Z M) (A 3) (a_K X) ++ (w_T (k_Z M) (A 4) (t_of (a_tp X) J) ++ (w_SS (k_Z M) A (a_S X))))))) rfl ?_
    exact Rt _ _ (r_fin 0) (w_G (k_Z M) A (a_kp X) (fd_up (a_fd X) 0) ++ (w_F (k_Z M) (A 1) (a_F X) ++ (w_F (k_Z M) (A 2) T ++ (w_F (k_Z M) (A 3) (a_K X) ++ (w_T (k_Z M) (A 4) (t_of (a_tp X) J) ++ (w_SS (k_Z M) A (a_S X))))))) dX3_copy_19 rfl (⟨T, J, by simp only [o_copy, o_copys, o_copyd, a_fin, if_neg c_2, if_true], by simp only [o_copy, o_copys, o_copyd, a_fin, if_neg c_2, if_true]; rfl⟩)
  · have c_2 : inR s 0 3 := (kn_ne e_r_1).mp c_2
    obtain ⟨y, h_y, e_y⟩ := kn_rng (n := 3) c_2 rfl
    subst e_y
    obtain ⟨zy, hzy, ezy⟩ := hsh y (by omega)
    refine q_iload_n K 3 dX3_copy_7 rfl ?_
    refine q_cp (rest := []) K ks_X3_isSheet (c_X3_isSheet (k_l M) (k_Z M) t) ml_X3_197 rfl rfl (Nat.le_of_ble_eq_true rfl) ⟨Nat.le_of_ble_eq_true rfl, Nat.le_of_ble_eq_true rfl⟩ dX3_copy_8 (fun r_5 e_r_5 => ?_)
    refine q_if_ne 20 K dX3_copy_11 (by decide) (fun c_6 => ?_) (fun c_6 => ?_)
    · have c_6 : inR t 0 3 := (kn_ne e_r_5).mp c_6
      obtain ⟨x, h_x, e_x⟩ := kn_rng (n := 3) c_6 rfl
      subst e_x
      obtain ⟨zx, hzx, ezx⟩ := hsh x (by omega)
      refine q_aload_n K 0 dX3_copy_20 rfl ?_
      refine q_get (.ref ((A 0) 1)) K ws_X3 0 rfl rfl 5 (by decide) fl_X3_35 rfl dX3_copy_21 ?_
      refine q_iload_n K 1 dX3_copy_24 rfl ?_
      refine q_aldo (y := (A (5 + y)) 0) K 1 rfl (vp_in_nI (n := y) (N := 4) (by omega) (by omega)) (by rw [nI_clamp (n := y) (by omega)]) dX3_copy_25 ?_
      refine q_perm (ws' := w_G (k_Z M) A (a_kp X) (a_fd X) ++ (w_F (k_Z M) (A 1) (a_F X) ++ (w_F (k_Z M) (A 2) T ++ (w_F (k_Z M) (A 3) (a_K X) ++ (w_T (k_Z M) (A 4) (t_of (a_tp X) J) ++ (w_S (k_Z M) (A (5 + y)) ((a_S X) y) ++ (w_SR (k_Z M) A (a_S X) y))))))) (List.Perm.append_left _ (List.Perm.append_left _ (List.Perm.append_left _ (List.Perm.append_left _ (List.Perm.append_left _ (k_foc (by omega))))))) ?_
      refine q_cvI (q0 := 0) (As := []) (rest := []) K kv_X1_isMissing (c_X1_isMissing (k_l M) (k_Z M) (A (5 + y)) ((a_S X) y)) (w_G (k_Z M) A (a_kp X) (a_fd X) ++ (w_F (k_Z M) (A 1) (a_F X) ++ (w_F (k_Z M) (A 2) T ++ (w_F (k_Z M) (A 3) (a_K X) ++ (w_T (k_Z M) (A 4) (t_of (a_tp X) J)))))) (w_SR (k_Z M) A (a_S X) y) rfl rfl rfl ml_X3_206 rfl rfl (Nat.le_of_ble_eq_true rfl) ⟨Nat.le_of_ble_eq_true rfl, Nat.le_of_ble_eq_true rfl⟩ dX3_copy_26 (fun r_8 w2 h_7 => ?_)
      obtain ⟨e_r_8, rfl⟩ := h_7
      refine q_ws (ws' := w_G (k_Z M) A (a_kp X) (a_fd X) ++ (w_F (k_Z M) (A 1) (a_F X) ++ (w_F (k_Z M) (A 2) T ++ (w_F (k_Z M) (A 3) (a_K X) ++ (w_T (k_Z M) (A 4) (t_of (a_tp X) J) ++ (w_S (k_Z M) (A (5 + y)) ((a_S X) y) ++ (w_SR (k_Z M) A (a_S X) y))))))) rfl ?_
      refine q_if_ne 44 K dX3_copy_29 (by decide) (fun c_9 => ?_) (fun c_9 => ?_)
      · have c_9 : s_bt ((a_S X) y) = 0 := (kn_ne e_r_8).mp c_9
        refine q_aload_n K 0 dX3_copy_44 rfl ?_
        refine q_iconst 5 K dX3_copy_45 rfl ?_
        refine q_perm (ws' := w_G (k_Z M) A (a_kp X) (a_fd X) ++ (w_F (k_Z M) (A 1) (a_F X) ++ (w_F (k_Z M) (A 2) T ++ (w_F (k_Z M) (A 3) (a_K X) ++ (w_T (k_Z M) (A 4) (t_of (a_tp X) J) ++ (w_SS (k_Z M) A (a_S X))))))) (List.Perm.append_left _ (List.Perm.append_left _ (List.Perm.append_left _ (List.Perm.append_left _ (List.Perm.append_left _ (k_foc (by omega)).symm))))) ?_
        refine q_wI (q0 := 0) (As := [.int 5]) (rest := []) K kv_X3_finding (c_X3_finding (k_l M) (k_Z M) A X T J 5 (by omega)) rfl rfl ml_X3_52 rfl rfl (Nat.le_of_ble_eq_true rfl) ⟨Nat.le_of_ble_eq_true rfl, Nat.le_of_ble_eq_true rfl⟩ dX3_copy_46 (fun r_11 w2 h_10 => ?_)
        obtain ⟨e_r_11, rfl⟩ := h_10
        refine q_eqi (r_fin 5) e_r_11 ?_
        refine q_ws (ws' := w_G (k_Z M) A (a_kp X) (fd_up (a_fd X) 5) ++ (w_F (k_Z M) (A 1) (a_F X) ++ (w_F (k_Z M) (A 2) T ++ (w_F (k_Z M) (A 3) (a_K X) ++ (w_T (k_Z M) (A 4) (t_of (a_tp X) J) ++ (w_SS (k_Z M) A (a_S X))))))) rfl ?_
        exact Rt _ _ (r_fin 5) (w_G (k_Z M) A (a_kp X) (fd_up (a_fd X) 5) ++ (w_F (k_Z M) (A 1) (a_F X) ++ (w_F (k_Z M) (A 2) T ++ (w_F (k_Z M) (A 3) (a_K X) ++ (w_T (k_Z M) (A 4) (t_of (a_tp X) J) ++ (w_SS (k_Z M) A (a_S X))))))) dX3_copy_49 rfl (⟨T, J, by simp only [o_copy, o_copys, o_copyd, a_fin, if_pos c_2, if_pos c_6, if_pos c_9, nI_clamp (n := y) (by omega), nI_clamp (n := x) (by omega), if_true], by simp only [o_copy, o_copys, o_copyd, a_fin, if_pos c_2, if_pos c_6, if_pos c_9, nI_clamp (n := y) (by omega), nI_clamp (n := x) (by omega), if_true]; rfl⟩)
      · have c_9 : ¬ (s_bt ((a_S X) y) = 0) := (kn_eq e_r_8).mp c_9
        refine q_aload_n K 0 dX3_copy_32 rfl ?_
        refine q_get (.ref ((A 0) 1)) K ws_X3 0 rfl rfl 5 (by decide) fl_X3_35 rfl dX3_copy_33 ?_
        refine q_iload_n K 3 dX3_copy_36 rfl ?_
        refine q_aldo (y := (A (5 + x)) 0) K 1 rfl (vp_in_nI (n := x) (N := 4) (by omega) (by omega)) (by rw [nI_clamp (n := x) (by omega)]) dX3_copy_37 ?_
        refine q_perm (ws' := w_G (k_Z M) A (a_kp X) (a_fd X) ++ (w_F (k_Z M) (A 1) (a_F X) ++ (w_F (k_Z M) (A 2) T ++ (w_F (k_Z M) (A 3) (a_K X) ++ (w_T (k_Z M) (A 4) (t_of (a_tp X) J) ++ (w_SS (k_Z M) A (a_S X))))))) (List.Perm.append_left _ (List.Perm.append_left _ (List.Perm.append_left _ (List.Perm.append_left _ (List.Perm.append_left _ (k_foc (by omega)).symm))))) ?_
        refine q_perm (ws' := w_G (k_Z M) A (a_kp X) (a_fd X) ++ (w_F (k_Z M) (A 1) (a_F X) ++ (w_F (k_Z M) (A 2) T ++ (w_F (k_Z M) (A 3) (a_K X) ++ (w_T (k_Z M) (A 4) (t_of (a_tp X) J) ++ (w_S (k_Z M) (A (5 + x)) ((a_S X) x) ++ (w_SR (k_Z M) A (a_S X) x))))))) (List.Perm.append_left _ (List.Perm.append_left _ (List.Perm.append_left _ (List.Perm.append_left _ (List.Perm.append_left _ (k_foc (by omega))))))) ?_
        refine q_cvI (q0 := 0) (As := []) (rest := []) K kv_X1_isMissing (c_X1_isMissing (k_l M) (k_Z M) (A (5 + x)) ((a_S X) x)) (w_G (k_Z M) A (a_kp X) (a_fd X) ++ (w_F (k_Z M) (A 1) (a_F X) ++ (w_F (k_Z M) (A 2) T ++ (w_F (k_Z M) (A 3) (a_K X) ++ (w_T (k_Z M) (A 4) (t_of (a_tp X) J)))))) (w_SR (k_Z M) A (a_S X) x) rfl rfl rfl ml_X3_206 rfl rfl (Nat.le_of_ble_eq_true rfl) ⟨Nat.le_of_ble_eq_true rfl, Nat.le_of_ble_eq_true rfl⟩ dX3_copy_38 (fun r_13 w2 h_12 => ?_)
        obtain ⟨e_r_13, rfl⟩ := h_12
        refine q_ws (ws' := w_G (k_Z M) A (a_kp X) (a_fd X) ++ (w_F (k_Z M) (A 1) (a_F X) ++ (w_F (k_Z M) (A 2) T ++ (w_F (k_Z M) (A 3) (a_K X) ++ (w_T (k_Z M) (A 4) (t_of (a_tp X) J) ++ (w_S (k_Z M) (A (5 + x)) ((a_S X) x) ++ (w_SR (k_Z M) A (a_S X) x))))))) rfl ?_
        refine q_if_eq 50 K dX3_copy_41 (by decide) (fun c_14 => ?_) (fun c_14 => ?_)
        · have c_14 : ¬ (s_bt ((a_S X) x) = 0) := (kn_eq e_r_13).mp c_14
          refine q_aload_n K 0 dX3_copy_50 rfl ?_
          refine q_get (.ref ((A 0) 1)) K ws_X3 0 rfl rfl 5 (by decide) fl_X3_35 rfl dX3_copy_51 ?_
          refine q_iload_n K 1 dX3_copy_54 rfl ?_
          refine q_aldo (y := (A (5 + y)) 0) K 1 rfl (vp_in_nI (n := y) (N := 4) (by omega) (by omega)) (by rw [nI_clamp (n := y) (by omega)]) dX3_copy_55 ?_
          refine q_perm (ws' := w_G (k_Z M) A (a_kp X) (a_fd X) ++ (w_F (k_Z M) (A 1) (a_F X) ++ (w_F (k_Z M) (A 2) T ++ (w_F (k_Z M) (A 3) (a_K X) ++ (w_T (k_Z M) (A 4) (t_of (a_tp X) J) ++ (w_SS (k_Z M) A (a_S X))))))) (List.Perm.append_left _ (List.Perm.append_left _ (List.Perm.append_left _ (List.Perm.append_left _ (List.Perm.append_left _ (k_foc (by omega)).symm))))) ?_
          refine q_perm (ws' := w_G (k_Z M) A (a_kp X) (a_fd X) ++ (w_F (k_Z M) (A 1) (a_F X) ++ (w_F (k_Z M) (A 2) T ++ (w_F (k_Z M) (A 3) (a_K X) ++ (w_T (k_Z M) (A 4) (t_of (a_tp X) J) ++ (w_S (k_Z M) (A (5 + y)) ((a_S X) y) ++ (w_SR (k_Z M) A (a_S X) y))))))) (List.Perm.append_left _ (List.Perm.append_left _ (List.Perm.append_left _ (List.Perm.append_left _ (List.Perm.append_left _ (k_foc (by omega))))))) ?_
          refine q_get (.int (s_bt ((a_S X) y))) K ws_X1 39 rfl rfl 1 (by decide) fl_X3_210 rfl dX3_copy_56 ?_
          refine q_aload_n K 0 dX3_copy_59 rfl ?_
          refine q_get (.ref ((A 0) 1)) K ws_X3 0 rfl rfl 5 (by decide) fl_X3_35 rfl dX3_copy_60 ?_
          refine q_iload_n K 3 dX3_copy_63 rfl ?_
          refine q_aldo (y := (A (5 + x)) 0) K 1 rfl (vp_in_nI (n := x) (N := 4) (by omega) (by omega)) (by rw [nI_clamp (n := x) (by omega)]) dX3_copy_64 ?_
          refine q_perm (ws' := w_G (k_Z M) A (a_kp X) (a_fd X) ++ (w_F (k_Z M) (A 1) (a_F X) ++ (w_F (k_Z M) (A 2) T ++ (w_F (k_Z M) (A 3) (a_K X) ++ (w_T (k_Z M) (A 4) (t_of (a_tp X) J) ++ (w_SS (k_Z M) A (a_S X))))))) (List.Perm.append_left _ (List.Perm.append_left _ (List.Perm.append_left _ (List.Perm.append_left _ (List.Perm.append_left _ (k_foc (by omega)).symm))))) ?_
          refine q_perm (ws' := w_G (k_Z M) A (a_kp X) (a_fd X) ++ (w_F (k_Z M) (A 1) (a_F X) ++ (w_F (k_Z M) (A 2) T ++ (w_F (k_Z M) (A 3) (a_K X) ++ (w_T (k_Z M) (A 4) (t_of (a_tp X) J) ++ (w_S (k_Z M) (A (5 + x)) ((a_S X) x) ++ (w_SR (k_Z M) A (a_S X) x))))))) (List.Perm.append_left _ (List.Perm.append_left _ (List.Perm.append_left _ (List.Perm.append_left _ (List.Perm.append_left _ (k_foc (by omega))))))) ?_
          refine q_get (.int (s_bt ((a_S X) x))) K ws_X1 39 rfl rfl 1 (by decide) fl_X3_210 rfl dX3_copy_65 ?_
          refine q_icmp_eq 77 K dX3_copy_68 (by decide) (fun c_15 => ?_) (fun c_15 => ?_)
          · refine q_aload_n K 0 dX3_copy_77 rfl ?_
            refine q_get (.ref ((A 0) 1)) K ws_X3 0 rfl rfl 5 (by decide) fl_X3_35 rfl dX3_copy_78 ?_
            refine q_iload_n K 1 dX3_copy_81 rfl ?_
            refine q_aldo (y := (A (5 + y)) 0) K 1 rfl (vp_in_nI (n := y) (N := 4) (by omega) (by omega)) (by rw [nI_clamp (n := y) (by omega)]) dX3_copy_82 ?_
            refine q_perm (ws' := w_G (k_Z M) A (a_kp X) (a_fd X) ++ (w_F (k_Z M) (A 1) (a_F X) ++ (w_F (k_Z M) (A 2) T ++ (w_F (k_Z M) (A 3) (a_K X) ++ (w_T (k_Z M) (A 4) (t_of (a_tp X) J) ++ (w_SS (k_Z M) A (a_S X))))))) (List.Perm.append_left _ (List.Perm.append_left _ (List.Perm.append_left _ (List.Perm.append_left _ (List.Perm.append_left _ (k_foc (by omega)).symm))))) ?_
            refine q_perm (ws' := w_G (k_Z M) A (a_kp X) (a_fd X) ++ (w_F (k_Z M) (A 1) (a_F X) ++ (w_F (k_Z M) (A 2) T ++ (w_F (k_Z M) (A 3) (a_K X) ++ (w_T (k_Z M) (A 4) (t_of (a_tp X) J) ++ (w_S (k_Z M) (A (5 + y)) ((a_S X) y) ++ (w_SR (k_Z M) A (a_S X) y))))))) (List.Perm.append_left _ (List.Perm.append_left _ (List.Perm.append_left _ (List.Perm.append_left _ (List.Perm.append_left _ (k_foc (by omega))))))) ?_
            refine q_iload_n K 2 dX3_copy_83 rfl ?_
            refine q_iload K 5 dX3_copy_84 rfl ?_
            refine q_cvI (q0 := 0) (As := [.int f, .int n]) (rest := []) K kv_X1_hasRow (c_X1_hasRow (k_l M) (k_Z M) (A (5 + y)) ((a_S X) y) f n) (w_G (k_Z M) A (a_kp X) (a_fd X) ++ (w_F (k_Z M) (A 1) (a_F X) ++ (w_F (k_Z M) (A 2) T ++ (w_F (k_Z M) (A 3) (a_K X) ++ (w_T (k_Z M) (A 4) (t_of (a_tp X) J)))))) (w_SR (k_Z M) A (a_S X) y) rfl rfl rfl ml_X3_213 rfl rfl (Nat.le_of_ble_eq_true rfl) ⟨Nat.le_of_ble_eq_true rfl, Nat.le_of_ble_eq_true rfl⟩ dX3_copy_86 (fun r_17 w2 h_16 => ?_)
            obtain ⟨e_r_17, rfl⟩ := h_16
            refine q_ws (ws' := w_G (k_Z M) A (a_kp X) (a_fd X) ++ (w_F (k_Z M) (A 1) (a_F X) ++ (w_F (k_Z M) (A 2) T ++ (w_F (k_Z M) (A 3) (a_K X) ++ (w_T (k_Z M) (A 4) (t_of (a_tp X) J) ++ (w_S (k_Z M) (A (5 + y)) ((a_S X) y) ++ (w_SR (k_Z M) A (a_S X) y))))))) rfl ?_
            refine q_if_eq 108 K dX3_copy_89 (by decide) (fun c_18 => ?_) (fun c_18 => ?_)
            · have c_18 : ¬ (s_has (s_sz ((a_S X) y)) f n) := (kn_eq e_r_17).mp c_18
              refine q_aload_n K 0 dX3_copy_108 rfl ?_
              refine q_iconst 0 K dX3_copy_109 rfl ?_
              refine q_perm (ws' := w_G (k_Z M) A (a_kp X) (a_fd X) ++ (w_F (k_Z M) (A 1) (a_F X) ++ (w_F (k_Z M) (A 2) T ++ (w_F (k_Z M) (A 3) (a_K X) ++ (w_T (k_Z M) (A 4) (t_of (a_tp X) J) ++ (w_SS (k_Z M) A (a_S X))))))) (List.Perm.append_left _ (List.Perm.append_left _ (List.Perm.append_left _ (List.Perm.append_left _ (List.Perm.append_left _ (k_foc (by omega)).symm))))) ?_
              refine q_wI (q0 := 0) (As := [.int 0]) (rest := []) K kv_X3_finding (c_X3_finding (k_l M) (k_Z M) A X T J 0 (by omega)) rfl rfl ml_X3_52 rfl rfl (Nat.le_of_ble_eq_true rfl) ⟨Nat.le_of_ble_eq_true rfl, Nat.le_of_ble_eq_true rfl⟩ dX3_copy_110 (fun r_20 w2 h_19 => ?_)
              obtain ⟨e_r_20, rfl⟩ := h_19
              refine q_eqi (r_fin 0) e_r_20 ?_
              refine q_ws (ws' := w_G (k_Z M) A (a_kp X) (fd_up (a_fd X) 0) ++ (w_F (k_Z M) (A 1) (a_F X) ++ (w_F (k_Z M) (A 2) T ++ (w_F (k_Z M) (A 3) (a_K X) ++ (w_T (k_Z M) (A 4) (t_of (a_tp X) J) ++ (w_SS (k_Z M) A (a_S X))))))) rfl ?_
              exact Rt _ _ (r_fin 0) (w_G (k_Z M) A (a_kp X) (fd_up (a_fd X) 0) ++ (w_F (k_Z M) (A 1) (a_F X) ++ (w_F (k_Z M) (A 2) T ++ (w_F (k_Z M) (A 3) (a_K X) ++ (w_T (k_Z M) (A 4) (t_of (a_tp X) J) ++ (w_SS (k_Z M) A (a_S X))))))) dX3_copy_113 rfl (⟨T, J, by simp only [o_copy, o_copys, o_copyd, a_fin, if_pos c_2, if_pos c_6, if_neg c_9, if_neg c_14, if_pos c_15, if_neg c_18, nI_clamp (n := y) (by omega), nI_clamp (n := x) (by omega), if_true], by simp only [o_copy, o_copys, o_copyd, a_fin, if_pos c_2, if_pos c_6, if_neg c_9, if_neg c_14, if_pos c_15, if_neg c_18, nI_clamp (n := y) (by omega), nI_clamp (n := x) (by omega), if_true]; rfl⟩)
            · have c_18 : s_has (s_sz ((a_S X) y)) f n := (kn_ne e_r_17).mp c_18
              refine q_aload_n K 0 dX3_copy_92 rfl ?_
              refine q_get (.ref ((A 0) 1)) K ws_X3 0 rfl rfl 5 (by decide) fl_X3_35 rfl dX3_copy_93 ?_
              refine q_iload_n K 3 dX3_copy_96 rfl ?_
              refine q_aldo (y := (A (5 + x)) 0) K 1 rfl (vp_in_nI (n := x) (N := 4) (by omega) (by omega)) (by rw [nI_clamp (n := x) (by omega)]) dX3_copy_97 ?_
              refine q_perm (ws' := w_G (k_Z M) A (a_kp X) (a_fd X) ++ (w_F (k_Z M) (A 1) (a_F X) ++ (w_F (k_Z M) (A 2) T ++ (w_F (k_Z M) (A 3) (a_K X) ++ (w_T (k_Z M) (A 4) (t_of (a_tp X) J) ++ (w_SS (k_Z M) A (a_S X))))))) (List.Perm.append_left _ (List.Perm.append_left _ (List.Perm.append_left _ (List.Perm.append_left _ (List.Perm.append_left _ (k_foc (by omega)).symm))))) ?_
              refine q_perm (ws' := w_G (k_Z M) A (a_kp X) (a_fd X) ++ (w_F (k_Z M) (A 1) (a_F X) ++ (w_F (k_Z M) (A 2) T ++ (w_F (k_Z M) (A 3) (a_K X) ++ (w_T (k_Z M) (A 4) (t_of (a_tp X) J) ++ (w_S (k_Z M) (A (5 + x)) ((a_S X) x) ++ (w_SR (k_Z M) A (a_S X) x))))))) (List.Perm.append_left _ (List.Perm.append_left _ (List.Perm.append_left _ (List.Perm.append_left _ (List.Perm.append_left _ (k_foc (by omega))))))) ?_
              refine q_iload K 4 dX3_copy_98 rfl ?_
              refine q_iload K 5 dX3_copy_100 rfl ?_
              refine q_cvI (q0 := 0) (As := [.int u, .int n]) (rest := []) K kv_X1_hasRow (c_X1_hasRow (k_l M) (k_Z M) (A (5 + x)) ((a_S X) x) u n) (w_G (k_Z M) A (a_kp X) (a_fd X) ++ (w_F (k_Z M) (A 1) (a_F X) ++ (w_F (k_Z M) (A 2) T ++ (w_F (k_Z M) (A 3) (a_K X) ++ (w_T (k_Z M) (A 4) (t_of (a_tp X) J)))))) (w_SR (k_Z M) A (a_S X) x) rfl rfl rfl ml_X3_213 rfl rfl (Nat.le_of_ble_eq_true rfl) ⟨Nat.le_of_ble_eq_true rfl, Nat.le_of_ble_eq_true rfl⟩ dX3_copy_102 (fun r_22 w2 h_21 => ?_)
              obtain ⟨e_r_22, rfl⟩ := h_21
              refine q_ws (ws' := w_G (k_Z M) A (a_kp X) (a_fd X) ++ (w_F (k_Z M) (A 1) (a_F X) ++ (w_F (k_Z M) (A 2) T ++ (w_F (k_Z M) (A 3) (a_K X) ++ (w_T (k_Z M) (A 4) (t_of (a_tp X) J) ++ (w_S (k_Z M) (A (5 + x)) ((a_S X) x) ++ (w_SR (k_Z M) A (a_S X) x))))))) rfl ?_
              refine q_if_ne 114 K dX3_copy_105 (by decide) (fun c_23 => ?_) (fun c_23 => ?_)
              · have c_23 : s_has (s_sz ((a_S X) x)) u n := (kn_ne e_r_22).mp c_23
                refine q_aload_n K 0 dX3_copy_114 rfl ?_
                refine q_get (.ref ((A 0) 1)) K ws_X3 0 rfl rfl 5 (by decide) fl_X3_35 rfl dX3_copy_115 ?_
                refine q_iload_n K 1 dX3_copy_118 rfl ?_
                refine q_aldo (y := (A (5 + y)) 0) K 1 rfl (vp_in_nI (n := y) (N := 4) (by omega) (by omega)) (by rw [nI_clamp (n := y) (by omega)]) dX3_copy_119 ?_
                refine q_perm (ws' := w_G (k_Z M) A (a_kp X) (a_fd X) ++ (w_F (k_Z M) (A 1) (a_F X) ++ (w_F (k_Z M) (A 2) T ++ (w_F (k_Z M) (A 3) (a_K X) ++ (w_T (k_Z M) (A 4) (t_of (a_tp X) J) ++ (w_SS (k_Z M) A (a_S X))))))) (List.Perm.append_left _ (List.Perm.append_left _ (List.Perm.append_left _ (List.Perm.append_left _ (List.Perm.append_left _ (k_foc (by omega)).symm))))) ?_
                refine q_perm (ws' := w_G (k_Z M) A (a_kp X) (a_fd X) ++ (w_F (k_Z M) (A 1) (a_F X) ++ (w_F (k_Z M) (A 2) T ++ (w_F (k_Z M) (A 3) (a_K X) ++ (w_T (k_Z M) (A 4) (t_of (a_tp X) J) ++ (w_S (k_Z M) (A (5 + y)) ((a_S X) y) ++ (w_SR (k_Z M) A (a_S X) y))))))) (List.Perm.append_left _ (List.Perm.append_left _ (List.Perm.append_left _ (List.Perm.append_left _ (List.Perm.append_left _ (k_foc (by omega))))))) ?_
                refine q_get (.ref ((A (5 + y)) 1)) K ws_X1 39 rfl rfl 0 (by decide) fl_X3_216 rfl dX3_copy_120 ?_
                refine q_iload_n K 2 dX3_copy_123 rfl ?_
                refine q_aload_n K 0 dX3_copy_124 rfl ?_
                refine q_get (.ref ((A 0) 1)) K ws_X3 0 rfl rfl 5 (by decide) fl_X3_35 rfl dX3_copy_125 ?_
                refine q_iload_n K 3 dX3_copy_128 rfl ?_
                refine q_aldo (y := (A (5 + x)) 0) K 1 rfl (vp_in_nI (n := x) (N := 4) (by omega) (by omega)) (by rw [nI_clamp (n := x) (by omega)]) dX3_copy_129 ?_
                refine q_perm (ws' := w_G (k_Z M) A (a_kp X) (a_fd X) ++ (w_F (k_Z M) (A 1) (a_F X) ++ (w_F (k_Z M) (A 2) T ++ (w_F (k_Z M) (A 3) (a_K X) ++ (w_T (k_Z M) (A 4) (t_of (a_tp X) J) ++ (w_SS (k_Z M) A (a_S X))))))) (List.Perm.append_left _ (List.Perm.append_left _ (List.Perm.append_left _ (List.Perm.append_left _ (List.Perm.append_left _ (k_foc (by omega)).symm))))) ?_
                refine q_perm (ws' := w_G (k_Z M) A (a_kp X) (a_fd X) ++ (w_F (k_Z M) (A 1) (a_F X) ++ (w_F (k_Z M) (A 2) T ++ (w_F (k_Z M) (A 3) (a_K X) ++ (w_T (k_Z M) (A 4) (t_of (a_tp X) J) ++ (w_S (k_Z M) (A (5 + x)) ((a_S X) x) ++ (w_SR (k_Z M) A (a_S X) x))))))) (List.Perm.append_left _ (List.Perm.append_left _ (List.Perm.append_left _ (List.Perm.append_left _ (List.Perm.append_left _ (k_foc (by omega))))))) ?_
                refine q_get (.ref ((A (5 + x)) 1)) K ws_X1 39 rfl rfl 0 (by decide) fl_X3_216 rfl dX3_copy_130 ?_
                refine q_iload K 4 dX3_copy_133 rfl ?_
                refine q_iload K 5 dX3_copy_135 rfl ?_
                refine q_perm (ws' := w_G (k_Z M) A (a_kp X) (a_fd X) ++ (w_F (k_Z M) (A 1) (a_F X) ++ (w_F (k_Z M) (A 2) T ++ (w_F (k_Z M) (A 3) (a_K X) ++ (w_T (k_Z M) (A 4) (t_of (a_tp X) J) ++ (w_SS (k_Z M) A (a_S X))))))) (List.Perm.append_left _ (List.Perm.append_left _ (List.Perm.append_left _ (List.Perm.append_left _ (List.Perm.append_left _ (k_foc (by omega)).symm))))) ?_
                by_cases hxy : x = y
                · subst hxy
                  refine q_perm (ws' := w_G (k_Z M) A (a_kp X) (a_fd X) ++ (w_F (k_Z M) (A 1) (a_F X) ++ (w_F (k_Z M) (A 2) T ++ (w_F (k_Z M) (A 3) (a_K X) ++ (w_T (k_Z M) (A 4) (t_of (a_tp X) J) ++ (w_S (k_Z M) (A (5 + x)) ((a_S X) x) ++ (w_SR (k_Z M) A (a_S X) x))))))) (List.Perm.append_left _ (List.Perm.append_left _ (List.Perm.append_left _ (List.Perm.append_left _ (List.Perm.append_left _ (k_foc (by omega))))))) ?_
                  have hsA := s_has_nat hzx (ezx ▸ c_18)
                  have hsB := s_has_nat hzx (ezx ▸ c_23)
                  refine q_copy (ws' := w_G (k_Z M) A (a_kp X) (a_fd X) ++ (w_F (k_Z M) (A 1) (a_F X) ++ (w_F (k_Z M) (A 2) T ++ (w_F (k_Z M) (A 3) (a_K X) ++ (w_T (k_Z M) (A 4) (t_of (a_tp X) J) ++ (w_S (k_Z M) (A (5 + x)) (va_cpy (s_nm ((a_S X) x)) (s_nm ((a_S X) x)) f.toNatClampNeg u.toNatClampNeg n.toNatClampNeg, s_bt ((a_S X) x), s_sz ((a_S X) x)) ++ (w_SR (k_Z M) A (a_S X) x))))))) K ml_X3_219 40 40 rfl rfl c_18.1 c_23.1 c_18.2.1 (by omega) (by omega) (Nat.le_of_ble_eq_true rfl) (Nat.le_of_ble_eq_true rfl) rfl dX3_copy_137 ?_
                  refine q_iload K 5 dX3_copy_140 rfl ?_
                  refine q_perm (ws' := w_G (k_Z M) A (a_kp X) (a_fd X) ++ (w_F (k_Z M) (A 1) (a_F X) ++ (w_F (k_Z M) (A 2) T ++ (w_F (k_Z M) (A 3) (a_K X) ++ (w_T (k_Z M) (A 4) (t_of (a_tp X) J) ++ (w_SS (k_Z M) A (k_upS (a_S X) x (va_cpy (s_nm ((a_S X) x)) (s_nm ((a_S X) x)) f.toNatClampNeg u.toNatClampNeg n.toNatClampNeg, s_bt ((a_S X) x), s_sz ((a_S X) x))))))))) (List.Perm.append_left _ (List.Perm.append_left _ (List.Perm.append_left _ (List.Perm.append_left _ (List.Perm.append_left _ (k_unf (by omega) _)))))) ?_
                  exact Rt _ _ n (w_G (k_Z M) A (a_kp X) (a_fd X) ++ (w_F (k_Z M) (A 1) (a_F X) ++ (w_F (k_Z M) (A 2) T ++ (w_F (k_Z M) (A 3) (a_K X) ++ (w_T (k_Z M) (A 4) (t_of (a_tp X) J) ++ (w_SS (k_Z M) A (k_upS (a_S X) x (va_cpy (s_nm ((a_S X) x)) (s_nm ((a_S X) x)) f.toNatClampNeg u.toNatClampNeg n.toNatClampNeg, s_bt ((a_S X) x), s_sz ((a_S X) x))))))))) dX3_copy_142 rfl (⟨T, J, by simp only [o_copy, o_copys, o_copyd, a_fin, if_pos c_2, if_pos c_6, if_neg c_9, if_neg c_14, if_pos c_15, if_pos c_18, if_pos c_23, nI_clamp (n := x) (by omega), if_true], by simp only [o_copy, o_copys, o_copyd, a_fin, if_pos c_2, if_pos c_6, if_neg c_9, if_neg c_14, if_pos c_15, if_pos c_18, if_pos c_23, nI_clamp (n := x) (by omega), if_true]; rfl⟩)
                · refine q_perm (ws' := w_G (k_Z M) A (a_kp X) (a_fd X) ++ (w_F (k_Z M) (A 1) (a_F X) ++ (w_F (k_Z M) (A 2) T ++ (w_F (k_Z M) (A 3) (a_K X) ++ (w_T (k_Z M) (A 4) (t_of (a_tp X) J) ++ (w_S (k_Z M) (A (5 + y)) (a_S X y) ++ (w_S (k_Z M) (A (5 + x)) (a_S X x) ++ (w_SL (k_Z M) A (a_S X) (k_oth y x))))))))) (List.Perm.append_left _ (List.Perm.append_left _ (List.Perm.append_left _ (List.Perm.append_left _ (List.Perm.append_left _ (k_foc2 (by omega) (by omega) hxy)))))) ?_
                  have hsA := s_has_nat hzy (ezy ▸ c_18)
                  have hsB := s_has_nat hzx (ezx ▸ c_23)
                  refine q_copy (ws' := w_G (k_Z M) A (a_kp X) (a_fd X) ++ (w_F (k_Z M) (A 1) (a_F X) ++ (w_F (k_Z M) (A 2) T ++ (w_F (k_Z M) (A 3) (a_K X) ++ (w_T (k_Z M) (A 4) (t_of (a_tp X) J) ++ (w_S (k_Z M) (A (5 + y)) (a_S X y) ++ (w_S (k_Z M) (A (5 + x)) (va_cpy (s_nm (a_S X y)) (s_nm (a_S X x)) f.toNatClampNeg u.toNatClampNeg n.toNatClampNeg, s_bt (a_S X x), s_sz (a_S X x)) ++ (w_SL (k_Z M) A (a_S X) (k_oth y x))))))))) K ml_X3_219 40 42 rfl rfl c_18.1 c_23.1 c_18.2.1 (by omega) (by omega) (Nat.le_of_ble_eq_true rfl) (Nat.le_of_ble_eq_true rfl) rfl dX3_copy_137 ?_
                  refine q_perm (ws' := w_G (k_Z M) A (a_kp X) (a_fd X) ++ (w_F (k_Z M) (A 1) (a_F X) ++ (w_F (k_Z M) (A 2) T ++ (w_F (k_Z M) (A 3) (a_K X) ++ (w_T (k_Z M) (A 4) (t_of (a_tp X) J) ++ (w_SS (k_Z M) A (k_upS (a_S X) x (va_cpy (s_nm (a_S X y)) (s_nm (a_S X x)) f.toNatClampNeg u.toNatClampNeg n.toNatClampNeg, s_bt (a_S X x), s_sz (a_S X x))))))))) (List.Perm.append_left _ (List.Perm.append_left _ (List.Perm.append_left _ (List.Perm.append_left _ (List.Perm.append_left _ (k_unf2 (by omega) (by omega) hxy _)))))) ?_
                  refine q_iload K 5 dX3_copy_140 rfl ?_
                  exact Rt _ _ n (w_G (k_Z M) A (a_kp X) (a_fd X) ++ (w_F (k_Z M) (A 1) (a_F X) ++ (w_F (k_Z M) (A 2) T ++ (w_F (k_Z M) (A 3) (a_K X) ++ (w_T (k_Z M) (A 4) (t_of (a_tp X) J) ++ (w_SS (k_Z M) A (k_upS (a_S X) x (va_cpy (s_nm (a_S X y)) (s_nm (a_S X x)) f.toNatClampNeg u.toNatClampNeg n.toNatClampNeg, s_bt (a_S X x), s_sz (a_S X x))))))))) dX3_copy_142 rfl (⟨T, J, by simp only [o_copy, o_copys, o_copyd, a_fin, if_pos c_2, if_pos c_6, if_neg c_9, if_neg c_14, if_pos c_15, if_pos c_18, if_pos c_23, nI_clamp (n := x) (by omega), nI_clamp (n := y) (by omega), if_true], by simp only [o_copy, o_copys, o_copyd, a_fin, if_pos c_2, if_pos c_6, if_neg c_9, if_neg c_14, if_pos c_15, if_pos c_18, if_pos c_23, nI_clamp (n := x) (by omega), nI_clamp (n := y) (by omega), if_true]; rfl⟩)
              · have c_23 : ¬ (s_has (s_sz ((a_S X) x)) u n) := (kn_eq e_r_22).mp c_23
                refine q_aload_n K 0 dX3_copy_108 rfl ?_
                refine q_iconst 0 K dX3_copy_109 rfl ?_
                refine q_perm (ws' := w_G (k_Z M) A (a_kp X) (a_fd X) ++ (w_F (k_Z M) (A 1) (a_F X) ++ (w_F (k_Z M) (A 2) T ++ (w_F (k_Z M) (A 3) (a_K X) ++ (w_T (k_Z M) (A 4) (t_of (a_tp X) J) ++ (w_SS (k_Z M) A (a_S X))))))) (List.Perm.append_left _ (List.Perm.append_left _ (List.Perm.append_left _ (List.Perm.append_left _ (List.Perm.append_left _ (k_foc (by omega)).symm))))) ?_
                refine q_wI (q0 := 0) (As := [.int 0]) (rest := []) K kv_X3_finding (c_X3_finding (k_l M) (k_Z M) A X T J 0 (by omega)) rfl rfl ml_X3_52 rfl rfl (Nat.le_of_ble_eq_true rfl) ⟨Nat.le_of_ble_eq_true rfl, Nat.le_of_ble_eq_true rfl⟩ dX3_copy_110 (fun r_25 w2 h_24 => ?_)
                obtain ⟨e_r_25, rfl⟩ := h_24
                refine q_eqi (r_fin 0) e_r_25 ?_
                refine q_ws (ws' := w_G (k_Z M) A (a_kp X) (fd_up (a_fd X) 0) ++ (w_F (k_Z M) (A 1) (a_F X) ++ (w_F (k_Z M) (A 2) T ++ (w_F (k_Z M) (A 3) (a_K X) ++ (w_T (k_Z M) (A 4) (t_of (a_tp X) J) ++ (w_SS (k_Z M) A (a_S X))))))) rfl ?_
                exact Rt _ _ (r_fin 0) (w_G (k_Z M) A (a_kp X) (fd_up (a_fd X) 0) ++ (w_F (k_Z M) (A 1) (a_F X) ++ (w_F (k_Z M) (A 2) T ++ (w_F (k_Z M) (A 3) (a_K X) ++ (w_T (k_Z M) (A 4) (t_of (a_tp X) J) ++ (w_SS (k_Z M) A (a_S X))))))) dX3_copy_113 rfl (⟨T, J, by simp only [o_copy, o_copys, o_copyd, a_fin, if_pos c_2, if_pos c_6, if_neg c_9, if_neg c_14, if_pos c_15, if_pos c_18, if_neg c_23, nI_clamp (n := y) (by omega), nI_clamp (n := x) (by omega), if_true], by simp only [o_copy, o_copys, o_copyd, a_fin, if_pos c_2, if_pos c_6, if_neg c_9, if_neg c_14, if_pos c_15, if_pos c_18, if_neg c_23, nI_clamp (n := y) (by omega), nI_clamp (n := x) (by omega), if_true]; rfl⟩)
          · refine q_aload_n K 0 dX3_copy_71 rfl ?_
            refine q_iconst 2 K dX3_copy_72 rfl ?_
            refine q_perm (ws' := w_G (k_Z M) A (a_kp X) (a_fd X) ++ (w_F (k_Z M) (A 1) (a_F X) ++ (w_F (k_Z M) (A 2) T ++ (w_F (k_Z M) (A 3) (a_K X) ++ (w_T (k_Z M) (A 4) (t_of (a_tp X) J) ++ (w_SS (k_Z M) A (a_S X))))))) (List.Perm.append_left _ (List.Perm.append_left _ (List.Perm.append_left _ (List.Perm.append_left _ (List.Perm.append_left _ (k_foc (by omega)).symm))))) ?_
            refine q_wI (q0 := 0) (As := [.int 2]) (rest := []) K kv_X3_finding (c_X3_finding (k_l M) (k_Z M) A X T J 2 (by omega)) rfl rfl ml_X3_52 rfl rfl (Nat.le_of_ble_eq_true rfl) ⟨Nat.le_of_ble_eq_true rfl, Nat.le_of_ble_eq_true rfl⟩ dX3_copy_73 (fun r_27 w2 h_26 => ?_)
            obtain ⟨e_r_27, rfl⟩ := h_26
            refine q_eqi (r_fin 2) e_r_27 ?_
            refine q_ws (ws' := w_G (k_Z M) A (a_kp X) (fd_up (a_fd X) 2) ++ (w_F (k_Z M) (A 1) (a_F X) ++ (w_F (k_Z M) (A 2) T ++ (w_F (k_Z M) (A 3) (a_K X) ++ (w_T (k_Z M) (A 4) (t_of (a_tp X) J) ++ (w_SS (k_Z M) A (a_S X))))))) rfl ?_
            exact Rt _ _ (r_fin 2) (w_G (k_Z M) A (a_kp X) (fd_up (a_fd X) 2) ++ (w_F (k_Z M) (A 1) (a_F X) ++ (w_F (k_Z M) (A 2) T ++ (w_F (k_Z M) (A 3) (a_K X) ++ (w_T (k_Z M) (A 4) (t_of (a_tp X) J) ++ (w_SS (k_Z M) A (a_S X))))))) dX3_copy_76 rfl (⟨T, J, by simp only [o_copy, o_copys, o_copyd, a_fin, if_pos c_2, if_pos c_6, if_neg c_9, if_neg c_14, if_neg c_15, nI_clamp (n := y) (by omega), nI_clamp (n := x) (by omega), if_true], by simp only [o_copy, o_copys, o_copyd, a_fin, if_pos c_2, if_pos c_6, if_neg c_9, if_neg c_14, if_neg c_15, nI_clamp (n := y) (by omega), nI_clamp (n := x) (by omega), if_true]; rfl⟩)
        · have c_14 : s_bt ((a_S X) x) = 0 := (kn_ne e_r_13).mp c_14
          refine q_aload_n K 0 dX3_copy_44 rfl ?_
          refine q_iconst 5 K dX3_copy_45 rfl ?_
          refine q_perm (ws' := w_G (k_Z M) A (a_kp X) (a_fd X) ++ (w_F (k_Z M) (A 1) (a_F X) ++ (w_F (k_Z M) (A 2) T ++ (w_F (k_Z M) (A 3) (a_K X) ++ (w_T (k_Z M) (A 4) (t_of (a_tp X) J) ++ (w_SS (k_Z M) A (a_S X))))))) (List.Perm.append_left _ (List.Perm.append_left _ (List.Perm.append_left _ (List.Perm.append_left _ (List.Perm.append_left _ (k_foc (by omega)).symm))))) ?_
          refine q_wI (q0 := 0) (As := [.int 5]) (rest := []) K kv_X3_finding (c_X3_finding (k_l M) (k_Z M) A X T J 5 (by omega)) rfl rfl ml_X3_52 rfl rfl (Nat.le_of_ble_eq_true rfl) ⟨Nat.le_of_ble_eq_true rfl, Nat.le_of_ble_eq_true rfl⟩ dX3_copy_46 (fun r_29 w2 h_28 => ?_)
          obtain ⟨e_r_29, rfl⟩ := h_28
          refine q_eqi (r_fin 5) e_r_29 ?_
          refine q_ws (ws' := w_G (k_Z M) A (a_kp X) (fd_up (a_fd X) 5) ++ (w_F (k_Z M) (A 1) (a_F X) ++ (w_F (k_Z M) (A 2) T ++ (w_F (k_Z M) (A 3) (a_K X) ++ (w_T (k_Z M) (A 4) (t_of (a_tp X) J) ++ (w_SS (k_Z M) A (a_S X))))))) rfl ?_
          exact Rt _ _ (r_fin 5) (w_G (k_Z M) A (a_kp X) (fd_up (a_fd X) 5) ++ (w_F (k_Z M) (A 1) (a_F X) ++ (w_F (k_Z M) (A 2) T ++ (w_F (k_Z M) (A 3) (a_K X) ++ (w_T (k_Z M) (A 4) (t_of (a_tp X) J) ++ (w_SS (k_Z M) A (a_S X))))))) dX3_copy_49 rfl (⟨T, J, by simp only [o_copy, o_copys, o_copyd, a_fin, if_pos c_2, if_pos c_6, if_neg c_9, if_pos c_14, nI_clamp (n := y) (by omega), nI_clamp (n := x) (by omega), if_true], by simp only [o_copy, o_copys, o_copyd, a_fin, if_pos c_2, if_pos c_6, if_neg c_9, if_pos c_14, nI_clamp (n := y) (by omega), nI_clamp (n := x) (by omega), if_true]; rfl⟩)
    · have c_6 : ¬ (inR t 0 3) := (kn_eq e_r_5).mp c_6
      refine q_aload_n K 0 dX3_copy_14 rfl ?_
      refine q_iconst 0 K dX3_copy_15 rfl ?_
      refine q_wI (q0 := 0) (As := [.int 0]) (rest := []) K kv_X3_finding (c_X3_finding (k_l M) (k_Z M) A X T J 0 (by omega)) rfl rfl ml_X3_52 rfl rfl (Nat.le_of_ble_eq_true rfl) ⟨Nat.le_of_ble_eq_true rfl, Nat.le_of_ble_eq_true rfl⟩ dX3_copy_16 (fun r_31 w2 h_30 => ?_)
      obtain ⟨e_r_31, rfl⟩ := h_30
      refine q_eqi (r_fin 0) e_r_31 ?_
      refine q_ws (ws' := w_G (k_Z M) A (a_kp X) (fd_up (a_fd X) 0) ++ (w_F (k_Z M) (A 1) (a_F X) ++ (w_F (k_Z M) (A 2) T ++ (w_F (k_Z M) (A 3) (a_K X) ++ (w_T (k_Z M) (A 4) (t_of (a_tp X) J) ++ (w_SS (k_Z M) A (a_S X))))))) rfl ?_
      exact Rt _ _ (r_fin 0) (w_G (k_Z M) A (a_kp X) (fd_up (a_fd X) 0) ++ (w_F (k_Z M) (A 1) (a_F X) ++ (w_F (k_Z M) (A 2) T ++ (w_F (k_Z M) (A 3) (a_K X) ++ (w_T (k_Z M) (A 4) (t_of (a_tp X) J) ++ (w_SS (k_Z M) A (a_S X))))))) dX3_copy_19 rfl (⟨T, J, by simp only [o_copy, o_copys, o_copyd, a_fin, if_pos c_2, if_neg c_6, nI_clamp (n := y) (by omega), if_true], by simp only [o_copy, o_copys, o_copyd, a_fin, if_pos c_2, if_neg c_6, nI_clamp (n := y) (by omega), if_true]; rfl⟩)
theorem kv_X3_copy : k_iv yX3_copy cX3_copy 6 (some .int) 5 := ⟨⟨im_X3_copy, se_X3_copy⟩, in_X3, co_X3_copy, by decide +kernel⟩
set_option maxHeartbeats 4000000 in
set_option maxRecDepth 100000 in
theorem c_X2_put (l : Launch) (Z : kz_Z) (c : Nat → Nat) (p : TP) (J : TJ) (hp : p.2 < 120) (v : Int32) : KV l Z yX2_put cX2_put 2 0 0 [.ref (c 0), .int v] (w_T Z c (t_of p J)) (fun w2 => w2 = w_T Z c (t_of (tp_put p v) J)) := by
  refine kv_of (by decide) [(0, .ref (c 0)), (1, .int v)] (Nat.le_of_ble_eq_true rfl) rfl ?_
  intro M e1 e2 K Rt
  subst e1 e2
  refine q_aload_n K 0 dX2_put_0 rfl ?_
  refine q_get (.int (t_sz (t_of p J))) K ws_X2 0 rfl rfl 1 (by decide) fl_X2_15 rfl dX2_put_1 ?_
  refine q_eqi (nI p.2) rfl ?_
  refine q_bipush 120 K dX2_put_4 rfl ?_
  refine q_icmp_ge 30 K dX2_put_6 (by decide) (fun c_1 => ?_) (fun c_1 => ?_)
  · have c_1n : 120 ≤ p.2 := (nI_leI (a := 120) (b := p.2) (by omega) (by omega)).mp c_1
    exact absurd c_1n (by omega)
  · have c_1n : ¬ (120 ≤ p.2) := fun h9 => c_1 ((nI_leI (a := 120) (b := p.2) (by omega) (by omega)).mpr h9)
    refine q_aload_n K 0 dX2_put_9 rfl ?_
    refine q_get (.ref (c 1)) K ws_X2 0 rfl rfl 0 (by decide) fl_X2_9 rfl dX2_put_10 ?_
    refine q_aload_n K 0 dX2_put_13 rfl ?_
    refine q_get (.int (t_sz (t_of p J))) K ws_X2 0 rfl rfl 1 (by decide) fl_X2_15 rfl dX2_put_14 ?_
    refine q_eqi (nI p.2) rfl ?_
    refine q_iload_n K 1 dX2_put_17 rfl ?_
    refine q_i2b K dX2_put_18 ?_
    refine q_bast (ws' := w_T (k_Z M) c (upd (t_by (t_of p J)) p.2 (vp_nar .byte v.toInt8.toInt32), t_sz (t_of p J), t_so (t_of p J), t_pl (t_of p J), t_ln (t_of p J), t_nx (t_of p J))) K 1 rfl (vp_in_nI (n := p.2) (N := 120) (by omega) (by omega)) (by rw [nI_clamp (n := p.2) (by omega)] <;> rfl) dX2_put_19 ?_
    refine q_aload_n K 0 dX2_put_20 rfl ?_
    refine q_dup K dX2_put_21 rfl ?_
    refine q_get (.int (t_sz (t_of p J))) K ws_X2 0 rfl rfl 1 (by decide) fl_X2_15 rfl dX2_put_22 ?_
    refine q_eqi (nI p.2) rfl ?_
    refine q_iconst 1 K dX2_put_25 rfl ?_
    refine q_iadd K dX2_put_26 ?_
    refine q_eqi (nI (p.2 + 1)) (kn_add p.2 1) ?_
    refine q_put (ty := .int) (ws' := w_T (k_Z M) c (upd (t_by (t_of p J)) p.2 (vp_nar .byte v.toInt8.toInt32), nI (p.2 + 1), t_so (t_of p J), t_pl (t_of p J), t_ln (t_of p J), t_nx (t_of p J))) K ws_X2 tyX2 tyX2_ok nmX2 0 rfl rfl 1 (by decide) fl_X2_15 rfl (by decide +kernel) rfl rfl (Nat.le_of_ble_eq_true rfl) rfl dX2_put_27 ?_
    exact Rt _ _ (w_T (k_Z M) c (upd (t_by (t_of p J)) p.2 (vp_nar .byte v.toInt8.toInt32), nI (p.2 + 1), t_so (t_of p J), t_pl (t_of p J), t_ln (t_of p J), t_nx (t_of p J))) dX2_put_30 (by show w_T (k_Z M) c (upd (fun k => (p.1 k).toInt8.toInt32) p.2 (vp_nar .byte v.toInt8.toInt32), nI (p.2 + 1), J.1, J.2.1, J.2.2.1, J.2.2.2) = _; rw [t_put]; rfl)
theorem kv_X2_put : k_iv yX2_put cX2_put 2 none 1 := ⟨⟨im_X2_put, se_X2_put⟩, in_X2, co_X2_put, by decide +kernel⟩
set_option maxHeartbeats 4000000 in
set_option maxRecDepth 100000 in
theorem c_X3_feed (l : Launch) (Z : kz_Z) (A : Nat → Nat → Nat) (X : AS) (T : FS) (J : TJ) (m : Nat) (hm : m ≤ 8) (hm2 : f_wk (a_F X) = nI m) (hq : (a_tp X).2 ≤ 120) (b n : Int32) : KI l Z yX3_feed cX3_feed 4 .int 1 22 [.ref ((A 0) 0), .int b, .int n] (w_G Z A (a_kp X) (a_fd X) ++ (w_F Z (A 1) (a_F X) ++ (w_F Z (A 2) T ++ (w_F Z (A 3) (a_K X) ++ (w_T Z (A 4) (t_of (a_tp X) J) ++ (w_SS Z A (a_S X))))))) (fun r w2 => ∃ T2 J2, r = (o_feed X b n).1 ∧ w2 = w_C Z A (o_feed X b n).2 T2 J2) := by
  refine ki_of (by decide) [(0, .ref ((A 0) 0)), (1, .int b), (2, .int n)] (Nat.le_of_ble_eq_true rfl) rfl ?_
  intro M e1 e2 K Rt
  subst e1 e2
  refine q_iload_n K 2 dX3_feed_0 rfl ?_
  refine q_iconst 1 K dX3_feed_1 rfl ?_
  refine q_iconst 4 K dX3_feed_2 rfl ?_
  refine q_cp (rest := []) K ks_X3_isIn (c_X3_isIn (k_l M) (k_Z M) n 1 4) ml_X3_48 rfl rfl (Nat.le_of_ble_eq_true rfl) ⟨Nat.le_of_ble_eq_true rfl, Nat.le_of_ble_eq_true rfl⟩ dX3_feed_3 (fun r_1 e_r_1 => ?_)
  refine q_if_ne 15 K dX3_feed_6 (by decide) (fun c_2 => ?_) (fun c_2 => ?_)
  · have c_2 : inR n 1 4 := (kn_ne e_r_1).mp c_2
    obtain ⟨k, h_k, e_k⟩ := kn_rng1 (n := 4) c_2 rfl
    subst e_k
    refine q_aload_n K 0 dX3_feed_15 rfl ?_
    refine q_get (.ref ((A 4) 0)) K ws_X3 0 rfl rfl 4 (by decide) fl_X3_29 rfl dX3_feed_16 ?_
    refine q_get (.int (t_sz (t_of (a_tp X) J))) K ws_X2 33 rfl rfl 1 (by decide) fl_X3_177 rfl dX3_feed_19 ?_
    refine q_eqi (nI (a_tp X).2) rfl ?_
    refine q_iload_n K 2 dX3_feed_22 rfl ?_
    refine q_iadd K dX3_feed_23 ?_
    refine q_eqi (nI (((a_tp X).2) + k)) (kn_add ((a_tp X).2) k) ?_
    refine q_bipush 120 K dX3_feed_24 rfl ?_
    refine q_icmp_le 35 K dX3_feed_26 (by decide) (fun c_3 => ?_) (fun c_3 => ?_)
    · have c_3n : ((a_tp X).2) + k ≤ 120 := (nI_leI (a := ((a_tp X).2) + k) (b := 120) (by omega) (by omega)).mp c_3
      refine q_iload_n K 2 dX3_feed_35 rfl ?_
      refine q_iconst 1 K dX3_feed_36 rfl ?_
      refine q_isub K dX3_feed_37 ?_
      rcases (show k = 1 ∨ k = 2 ∨ k = 3 ∨ k = 4 by omega) with rfl | rfl | rfl | rfl
      · refine q_eqi 0 rfl ?_
        refine q_istore_n (lv' := [(3, .int 0), (0, .ref ((A 0) 0)), (1, .int b), (2, .int (nI 1))]) K dX3_feed_38 (by decide) rfl ?_
        refine q_iload_n K 0 dX3_feed_39 rfl ?_
        refine q_if_lt 62 K dX3_feed_40 (by decide) (fun c_0 => absurd c_0 (by decide)) (fun c_0 => ?_)
        refine q_aload_n K 1 dX3_feed_43 rfl ?_
        refine q_get (.ref ((A 4) 0)) K ws_X3 0 rfl rfl 4 (by decide) fl_X3_29 rfl dX3_feed_44 ?_
        refine q_iload_n K 2 dX3_feed_47 rfl ?_
        refine q_bipush 8 K dX3_feed_48 rfl ?_
        refine q_iload_n K 0 dX3_feed_50 rfl ?_
        refine q_imul K dX3_feed_51 ?_
        refine q_eqi 0 rfl ?_
        refine q_iushr K dX3_feed_52 ?_
        refine q_eqi (j_us b 0) rfl ?_
        refine q_cvV (q0 := 0) (As := [.int (j_us b 0)]) (rest := []) K kv_X2_put (c_X2_put (k_l M) (k_Z M) (A 4) (a_tp X) J (show (a_tp X).2 < 120 by omega) (j_us b 0)) (w_G (k_Z M) A (a_kp X) (a_fd X) ++ (w_F (k_Z M) (A 1) (a_F X) ++ (w_F (k_Z M) (A 2) T ++ (w_F (k_Z M) (A 3) (a_K X))))) (w_SS (k_Z M) A (a_S X)) rfl rfl rfl ml_X3_180 rfl rfl (Nat.le_of_ble_eq_true rfl) ⟨Nat.le_of_ble_eq_true rfl, Nat.le_of_ble_eq_true rfl⟩ dX3_feed_53 (fun w2 h_4 => ?_)
        obtain rfl := h_4
        refine q_ws (ws' := w_G (k_Z M) A (a_kp X) (a_fd X) ++ (w_F (k_Z M) (A 1) (a_F X) ++ (w_F (k_Z M) (A 2) T ++ (w_F (k_Z M) (A 3) (a_K X) ++ (w_T (k_Z M) (A 4) (t_of (tp_put (a_tp X) (j_us b 0)) J) ++ (w_SS (k_Z M) A (a_S X))))))) rfl ?_
        refine q_iinc (-1) (lv' := [(3, .int (-1)), (0, .ref ((A 0) 0)), (1, .int b), (2, .int (nI 1))]) K 0 dX3_feed_56 rfl rfl (by decide) rfl ?_
        refine q_goto 39 K dX3_feed_59 (by decide) ?_
        refine q_iload_n K 0 dX3_feed_39 rfl ?_
        refine q_if_lt 62 K dX3_feed_40 (by decide) (fun c_0 => ?_) (fun c_0 => absurd c_0 (by decide))
        refine q_aload_n K 1 dX3_feed_62 rfl ?_
        refine q_get (.ref ((A 4) 0)) K ws_X3 0 rfl rfl 4 (by decide) fl_X3_29 rfl dX3_feed_63 ?_
        refine q_get (.int (t_sz (t_of (tp_put (a_tp X) (j_us b 0)) J))) K ws_X2 33 rfl rfl 1 (by decide) fl_X3_177 rfl dX3_feed_66 ?_
        exact Rt _ _ (t_sz (t_of (tp_put (a_tp X) (j_us b 0)) J)) (w_G (k_Z M) A (a_kp X) (a_fd X) ++ (w_F (k_Z M) (A 1) (a_F X) ++ (w_F (k_Z M) (A 2) T ++ (w_F (k_Z M) (A 3) (a_K X) ++ (w_T (k_Z M) (A 4) (t_of (tp_put (a_tp X) (j_us b 0)) J) ++ (w_SS (k_Z M) A (a_S X))))))) dX3_feed_69 rfl (⟨T, J, by simp only [o_feed, kn_add, if_pos c_2, if_pos c_3, nI_clamp (n := 1) (by omega)]; rfl, by simp only [o_feed, kn_add, if_pos c_2, if_pos c_3, nI_clamp (n := 1) (by omega)]; rfl⟩)
      · refine q_eqi 1 rfl ?_
        refine q_istore_n (lv' := [(3, .int 1), (0, .ref ((A 0) 0)), (1, .int b), (2, .int (nI 2))]) K dX3_feed_38 (by decide) rfl ?_
        refine q_iload_n K 0 dX3_feed_39 rfl ?_
        refine q_if_lt 62 K dX3_feed_40 (by decide) (fun c_0 => absurd c_0 (by decide)) (fun c_0 => ?_)
        refine q_aload_n K 1 dX3_feed_43 rfl ?_
        refine q_get (.ref ((A 4) 0)) K ws_X3 0 rfl rfl 4 (by decide) fl_X3_29 rfl dX3_feed_44 ?_
        refine q_iload_n K 2 dX3_feed_47 rfl ?_
        refine q_bipush 8 K dX3_feed_48 rfl ?_
        refine q_iload_n K 0 dX3_feed_50 rfl ?_
        refine q_imul K dX3_feed_51 ?_
        refine q_eqi 8 rfl ?_
        refine q_iushr K dX3_feed_52 ?_
        refine q_eqi (j_us b 8) rfl ?_
        refine q_cvV (q0 := 0) (As := [.int (j_us b 8)]) (rest := []) K kv_X2_put (c_X2_put (k_l M) (k_Z M) (A 4) (a_tp X) J (show (a_tp X).2 < 120 by omega) (j_us b 8)) (w_G (k_Z M) A (a_kp X) (a_fd X) ++ (w_F (k_Z M) (A 1) (a_F X) ++ (w_F (k_Z M) (A 2) T ++ (w_F (k_Z M) (A 3) (a_K X))))) (w_SS (k_Z M) A (a_S X)) rfl rfl rfl ml_X3_180 rfl rfl (Nat.le_of_ble_eq_true rfl) ⟨Nat.le_of_ble_eq_true rfl, Nat.le_of_ble_eq_true rfl⟩ dX3_feed_53 (fun w2 h_6 => ?_)
        obtain rfl := h_6
        refine q_ws (ws' := w_G (k_Z M) A (a_kp X) (a_fd X) ++ (w_F (k_Z M) (A 1) (a_F X) ++ (w_F (k_Z M) (A 2) T ++ (w_F (k_Z M) (A 3) (a_K X) ++ (w_T (k_Z M) (A 4) (t_of (tp_put (a_tp X) (j_us b 8)) J) ++ (w_SS (k_Z M) A (a_S X))))))) rfl ?_
        refine q_iinc 0 (lv' := [(3, .int 0), (0, .ref ((A 0) 0)), (1, .int b), (2, .int (nI 2))]) K 0 dX3_feed_56 rfl rfl (by decide) rfl ?_
        refine q_goto 39 K dX3_feed_59 (by decide) ?_
        refine q_iload_n K 0 dX3_feed_39 rfl ?_
        refine q_if_lt 62 K dX3_feed_40 (by decide) (fun c_0 => absurd c_0 (by decide)) (fun c_0 => ?_)
        refine q_aload_n K 1 dX3_feed_43 rfl ?_
        refine q_get (.ref ((A 4) 0)) K ws_X3 0 rfl rfl 4 (by decide) fl_X3_29 rfl dX3_feed_44 ?_
        refine q_iload_n K 2 dX3_feed_47 rfl ?_
        refine q_bipush 8 K dX3_feed_48 rfl ?_
        refine q_iload_n K 0 dX3_feed_50 rfl ?_
        refine q_imul K dX3_feed_51 ?_
        refine q_eqi 0 rfl ?_
        refine q_iushr K dX3_feed_52 ?_
        refine q_eqi (j_us b 0) rfl ?_
        refine q_cvV (q0 := 0) (As := [.int (j_us b 0)]) (rest := []) K kv_X2_put (c_X2_put (k_l M) (k_Z M) (A 4) (tp_put (a_tp X) (j_us b 8)) J (show (a_tp X).2 + 1 < 120 by omega) (j_us b 0)) (w_G (k_Z M) A (a_kp X) (a_fd X) ++ (w_F (k_Z M) (A 1) (a_F X) ++ (w_F (k_Z M) (A 2) T ++ (w_F (k_Z M) (A 3) (a_K X))))) (w_SS (k_Z M) A (a_S X)) rfl rfl rfl ml_X3_180 rfl rfl (Nat.le_of_ble_eq_true rfl) ⟨Nat.le_of_ble_eq_true rfl, Nat.le_of_ble_eq_true rfl⟩ dX3_feed_53 (fun w2 h_8 => ?_)
        obtain rfl := h_8
        refine q_ws (ws' := w_G (k_Z M) A (a_kp X) (a_fd X) ++ (w_F (k_Z M) (A 1) (a_F X) ++ (w_F (k_Z M) (A 2) T ++ (w_F (k_Z M) (A 3) (a_K X) ++ (w_T (k_Z M) (A 4) (t_of (tp_put (tp_put (a_tp X) (j_us b 8)) (j_us b 0)) J) ++ (w_SS (k_Z M) A (a_S X))))))) rfl ?_
        refine q_iinc (-1) (lv' := [(3, .int (-1)), (0, .ref ((A 0) 0)), (1, .int b), (2, .int (nI 2))]) K 0 dX3_feed_56 rfl rfl (by decide) rfl ?_
        refine q_goto 39 K dX3_feed_59 (by decide) ?_
        refine q_iload_n K 0 dX3_feed_39 rfl ?_
        refine q_if_lt 62 K dX3_feed_40 (by decide) (fun c_0 => ?_) (fun c_0 => absurd c_0 (by decide))
        refine q_aload_n K 1 dX3_feed_62 rfl ?_
        refine q_get (.ref ((A 4) 0)) K ws_X3 0 rfl rfl 4 (by decide) fl_X3_29 rfl dX3_feed_63 ?_
        refine q_get (.int (t_sz (t_of (tp_put (tp_put (a_tp X) (j_us b 8)) (j_us b 0)) J))) K ws_X2 33 rfl rfl 1 (by decide) fl_X3_177 rfl dX3_feed_66 ?_
        exact Rt _ _ (t_sz (t_of (tp_put (tp_put (a_tp X) (j_us b 8)) (j_us b 0)) J)) (w_G (k_Z M) A (a_kp X) (a_fd X) ++ (w_F (k_Z M) (A 1) (a_F X) ++ (w_F (k_Z M) (A 2) T ++ (w_F (k_Z M) (A 3) (a_K X) ++ (w_T (k_Z M) (A 4) (t_of (tp_put (tp_put (a_tp X) (j_us b 8)) (j_us b 0)) J) ++ (w_SS (k_Z M) A (a_S X))))))) dX3_feed_69 rfl (⟨T, J, by simp only [o_feed, kn_add, if_pos c_2, if_pos c_3, nI_clamp (n := 2) (by omega)]; rfl, by simp only [o_feed, kn_add, if_pos c_2, if_pos c_3, nI_clamp (n := 2) (by omega)]; rfl⟩)
      · refine q_eqi 2 rfl ?_
        refine q_istore_n (lv' := [(3, .int 2), (0, .ref ((A 0) 0)), (1, .int b), (2, .int (nI 3))]) K dX3_feed_38 (by decide) rfl ?_
        refine q_iload_n K 0 dX3_feed_39 rfl ?_
        refine q_if_lt 62 K dX3_feed_40 (by decide) (fun c_0 => absurd c_0 (by decide)) (fun c_0 => ?_)
        refine q_aload_n K 1 dX3_feed_43 rfl ?_
        refine q_get (.ref ((A 4) 0)) K ws_X3 0 rfl rfl 4 (by decide) fl_X3_29 rfl dX3_feed_44 ?_
        refine q_iload_n K 2 dX3_feed_47 rfl ?_
        refine q_bipush 8 K dX3_feed_48 rfl ?_
        refine q_iload_n K 0 dX3_feed_50 rfl ?_
        refine q_imul K dX3_feed_51 ?_
        refine q_eqi 16 rfl ?_
        refine q_iushr K dX3_feed_52 ?_
        refine q_eqi (j_us b 16) rfl ?_
        refine q_cvV (q0 := 0) (As := [.int (j_us b 16)]) (rest := []) K kv_X2_put (c_X2_put (k_l M) (k_Z M) (A 4) (a_tp X) J (show (a_tp X).2 < 120 by omega) (j_us b 16)) (w_G (k_Z M) A (a_kp X) (a_fd X) ++ (w_F (k_Z M) (A 1) (a_F X) ++ (w_F (k_Z M) (A 2) T ++ (w_F (k_Z M) (A 3) (a_K X))))) (w_SS (k_Z M) A (a_S X)) rfl rfl rfl ml_X3_180 rfl rfl (Nat.le_of_ble_eq_true rfl) ⟨Nat.le_of_ble_eq_true rfl, Nat.le_of_ble_eq_true rfl⟩ dX3_feed_53 (fun w2 h_10 => ?_)
        obtain rfl := h_10
        refine q_ws (ws' := w_G (k_Z M) A (a_kp X) (a_fd X) ++ (w_F (k_Z M) (A 1) (a_F X) ++ (w_F (k_Z M) (A 2) T ++ (w_F (k_Z M) (A 3) (a_K X) ++ (w_T (k_Z M) (A 4) (t_of (tp_put (a_tp X) (j_us b 16)) J) ++ (w_SS (k_Z M) A (a_S X))))))) rfl ?_
        refine q_iinc 1 (lv' := [(3, .int 1), (0, .ref ((A 0) 0)), (1, .int b), (2, .int (nI 3))]) K 0 dX3_feed_56 rfl rfl (by decide) rfl ?_
        refine q_goto 39 K dX3_feed_59 (by decide) ?_
        refine q_iload_n K 0 dX3_feed_39 rfl ?_
        refine q_if_lt 62 K dX3_feed_40 (by decide) (fun c_0 => absurd c_0 (by decide)) (fun c_0 => ?_)
        refine q_aload_n K 1 dX3_feed_43 rfl ?_
        refine q_get (.ref ((A 4) 0)) K ws_X3 0 rfl rfl 4 (by decide) fl_X3_29 rfl dX3_feed_44 ?_
        refine q_iload_n K 2 dX3_feed_47 rfl ?_
        refine q_bipush 8 K dX3_feed_48 rfl ?_
        refine q_iload_n K 0 dX3_feed_50 rfl ?_
        refine q_imul K dX3_feed_51 ?_
        refine q_eqi 8 rfl ?_
        refine q_iushr K dX3_feed_52 ?_
        refine q_eqi (j_us b 8) rfl ?_
        refine q_cvV (q0 := 0) (As := [.int (j_us b 8)]) (rest := []) K kv_X2_put (c_X2_put (k_l M) (k_Z M) (A 4) (tp_put (a_tp X) (j_us b 16)) J (show (a_tp X).2 + 1 < 120 by omega) (j_us b 8)) (w_G (k_Z M) A (a_kp X) (a_fd X) ++ (w_F (k_Z M) (A 1) (a_F X) ++ (w_F (k_Z M) (A 2) T ++ (w_F (k_Z M) (A 3) (a_K X))))) (w_SS (k_Z M) A (a_S X)) rfl rfl rfl ml_X3_180 rfl rfl (Nat.le_of_ble_eq_true rfl) ⟨Nat.le_of_ble_eq_true rfl, Nat.le_of_ble_eq_true rfl⟩ dX3_feed_53 (fun w2 h_12 => ?_)
        obtain rfl := h_12
        refine q_ws (ws' := w_G (k_Z M) A (a_kp X) (a_fd X) ++ (w_F (k_Z M) (A 1) (a_F X) ++ (w_F (k_Z M) (A 2) T ++ (w_F (k_Z M) (A 3) (a_K X) ++ (w_T (k_Z M) (A 4) (t_of (tp_put (tp_put (a_tp X) (j_us b 16)) (j_us b 8)) J) ++ (w_SS (k_Z M) A (a_S X))))))) rfl ?_
        refine q_iinc 0 (lv' := [(3, .int 0), (0, .ref ((A 0) 0)), (1, .int b), (2, .int (nI 3))]) K 0 dX3_feed_56 rfl rfl (by decide) rfl ?_
        refine q_goto 39 K dX3_feed_59 (by decide) ?_
        refine q_iload_n K 0 dX3_feed_39 rfl ?_
        refine q_if_lt 62 K dX3_feed_40 (by decide) (fun c_0 => absurd c_0 (by decide)) (fun c_0 => ?_)
        refine q_aload_n K 1 dX3_feed_43 rfl ?_
        refine q_get (.ref ((A 4) 0)) K ws_X3 0 rfl rfl 4 (by decide) fl_X3_29 rfl dX3_feed_44 ?_
        refine q_iload_n K 2 dX3_feed_47 rfl ?_
        refine q_bipush 8 K dX3_feed_48 rfl ?_
        refine q_iload_n K 0 dX3_feed_50 rfl ?_
        refine q_imul K dX3_feed_51 ?_
        refine q_eqi 0 rfl ?_
        refine q_iushr K dX3_feed_52 ?_
        refine q_eqi (j_us b 0) rfl ?_
        refine q_cvV (q0 := 0) (As := [.int (j_us b 0)]) (rest := []) K kv_X2_put (c_X2_put (k_l M) (k_Z M) (A 4) (tp_put (tp_put (a_tp X) (j_us b 16)) (j_us b 8)) J (show (a_tp X).2 + 1 + 1 < 120 by omega) (j_us b 0)) (w_G (k_Z M) A (a_kp X) (a_fd X) ++ (w_F (k_Z M) (A 1) (a_F X) ++ (w_F (k_Z M) (A 2) T ++ (w_F (k_Z M) (A 3) (a_K X))))) (w_SS (k_Z M) A (a_S X)) rfl rfl rfl ml_X3_180 rfl rfl (Nat.le_of_ble_eq_true rfl) ⟨Nat.le_of_ble_eq_true rfl, Nat.le_of_ble_eq_true rfl⟩ dX3_feed_53 (fun w2 h_14 => ?_)
        obtain rfl := h_14
        refine q_ws (ws' := w_G (k_Z M) A (a_kp X) (a_fd X) ++ (w_F (k_Z M) (A 1) (a_F X) ++ (w_F (k_Z M) (A 2) T ++ (w_F (k_Z M) (A 3) (a_K X) ++ (w_T (k_Z M) (A 4) (t_of (tp_put (tp_put (tp_put (a_tp X) (j_us b 16)) (j_us b 8)) (j_us b 0)) J) ++ (w_SS (k_Z M) A (a_S X))))))) rfl ?_
        refine q_iinc (-1) (lv' := [(3, .int (-1)), (0, .ref ((A 0) 0)), (1, .int b), (2, .int (nI 3))]) K 0 dX3_feed_56 rfl rfl (by decide) rfl ?_
        refine q_goto 39 K dX3_feed_59 (by decide) ?_
        refine q_iload_n K 0 dX3_feed_39 rfl ?_
        refine q_if_lt 62 K dX3_feed_40 (by decide) (fun c_0 => ?_) (fun c_0 => absurd c_0 (by decide))
        refine q_aload_n K 1 dX3_feed_62 rfl ?_
        refine q_get (.ref ((A 4) 0)) K ws_X3 0 rfl rfl 4 (by decide) fl_X3_29 rfl dX3_feed_63 ?_
        refine q_get (.int (t_sz (t_of (tp_put (tp_put (tp_put (a_tp X) (j_us b 16)) (j_us b 8)) (j_us b 0)) J))) K ws_X2 33 rfl rfl 1 (by decide) fl_X3_177 rfl dX3_feed_66 ?_
        exact Rt _ _ (t_sz (t_of (tp_put (tp_put (tp_put (a_tp X) (j_us b 16)) (j_us b 8)) (j_us b 0)) J)) (w_G (k_Z M) A (a_kp X) (a_fd X) ++ (w_F (k_Z M) (A 1) (a_F X) ++ (w_F (k_Z M) (A 2) T ++ (w_F (k_Z M) (A 3) (a_K X) ++ (w_T (k_Z M) (A 4) (t_of (tp_put (tp_put (tp_put (a_tp X) (j_us b 16)) (j_us b 8)) (j_us b 0)) J) ++ (w_SS (k_Z M) A (a_S X))))))) dX3_feed_69 rfl (⟨T, J, by simp only [o_feed, kn_add, if_pos c_2, if_pos c_3, nI_clamp (n := 3) (by omega)]; rfl, by simp only [o_feed, kn_add, if_pos c_2, if_pos c_3, nI_clamp (n := 3) (by omega)]; rfl⟩)
      · refine q_eqi 3 rfl ?_
        refine q_istore_n (lv' := [(3, .int 3), (0, .ref ((A 0) 0)), (1, .int b), (2, .int (nI 4))]) K dX3_feed_38 (by decide) rfl ?_
        refine q_iload_n K 0 dX3_feed_39 rfl ?_
        refine q_if_lt 62 K dX3_feed_40 (by decide) (fun c_0 => absurd c_0 (by decide)) (fun c_0 => ?_)
        refine q_aload_n K 1 dX3_feed_43 rfl ?_
        refine q_get (.ref ((A 4) 0)) K ws_X3 0 rfl rfl 4 (by decide) fl_X3_29 rfl dX3_feed_44 ?_
        refine q_iload_n K 2 dX3_feed_47 rfl ?_
        refine q_bipush 8 K dX3_feed_48 rfl ?_
        refine q_iload_n K 0 dX3_feed_50 rfl ?_
        refine q_imul K dX3_feed_51 ?_
        refine q_eqi 24 rfl ?_
        refine q_iushr K dX3_feed_52 ?_
        refine q_eqi (j_us b 24) rfl ?_
        refine q_cvV (q0 := 0) (As := [.int (j_us b 24)]) (rest := []) K kv_X2_put (c_X2_put (k_l M) (k_Z M) (A 4) (a_tp X) J (show (a_tp X).2 < 120 by omega) (j_us b 24)) (w_G (k_Z M) A (a_kp X) (a_fd X) ++ (w_F (k_Z M) (A 1) (a_F X) ++ (w_F (k_Z M) (A 2) T ++ (w_F (k_Z M) (A 3) (a_K X))))) (w_SS (k_Z M) A (a_S X)) rfl rfl rfl ml_X3_180 rfl rfl (Nat.le_of_ble_eq_true rfl) ⟨Nat.le_of_ble_eq_true rfl, Nat.le_of_ble_eq_true rfl⟩ dX3_feed_53 (fun w2 h_16 => ?_)
        obtain rfl := h_16
        refine q_ws (ws' := w_G (k_Z M) A (a_kp X) (a_fd X) ++ (w_F (k_Z M) (A 1) (a_F X) ++ (w_F (k_Z M) (A 2) T ++ (w_F (k_Z M) (A 3) (a_K X) ++ (w_T (k_Z M) (A 4) (t_of (tp_put (a_tp X) (j_us b 24)) J) ++ (w_SS (k_Z M) A (a_S X))))))) rfl ?_
        refine q_iinc 2 (lv' := [(3, .int 2), (0, .ref ((A 0) 0)), (1, .int b), (2, .int (nI 4))]) K 0 dX3_feed_56 rfl rfl (by decide) rfl ?_
        refine q_goto 39 K dX3_feed_59 (by decide) ?_
        refine q_iload_n K 0 dX3_feed_39 rfl ?_
        refine q_if_lt 62 K dX3_feed_40 (by decide) (fun c_0 => absurd c_0 (by decide)) (fun c_0 => ?_)
        refine q_aload_n K 1 dX3_feed_43 rfl ?_
        refine q_get (.ref ((A 4) 0)) K ws_X3 0 rfl rfl 4 (by decide) fl_X3_29 rfl dX3_feed_44 ?_
        refine q_iload_n K 2 dX3_feed_47 rfl ?_
        refine q_bipush 8 K dX3_feed_48 rfl ?_
        refine q_iload_n K 0 dX3_feed_50 rfl ?_
        refine q_imul K dX3_feed_51 ?_
        refine q_eqi 16 rfl ?_
        refine q_iushr K dX3_feed_52 ?_
        refine q_eqi (j_us b 16) rfl ?_
        refine q_cvV (q0 := 0) (As := [.int (j_us b 16)]) (rest := []) K kv_X2_put (c_X2_put (k_l M) (k_Z M) (A 4) (tp_put (a_tp X) (j_us b 24)) J (show (a_tp X).2 + 1 < 120 by omega) (j_us b 16)) (w_G (k_Z M) A (a_kp X) (a_fd X) ++ (w_F (k_Z M) (A 1) (a_F X) ++ (w_F (k_Z M) (A 2) T ++ (w_F (k_Z M) (A 3) (a_K X))))) (w_SS (k_Z M) A (a_S X)) rfl rfl rfl ml_X3_180 rfl rfl (Nat.le_of_ble_eq_true rfl) ⟨Nat.le_of_ble_eq_true rfl, Nat.le_of_ble_eq_true rfl⟩ dX3_feed_53 (fun w2 h_18 => ?_)
        obtain rfl := h_18
        refine q_ws (ws' := w_G (k_Z M) A (a_kp X) (a_fd X) ++ (w_F (k_Z M) (A 1) (a_F X) ++ (w_F (k_Z M) (A 2) T ++ (w_F (k_Z M) (A 3) (a_K X) ++ (w_T (k_Z M) (A 4) (t_of (tp_put (tp_put (a_tp X) (j_us b 24)) (j_us b 16)) J) ++ (w_SS (k_Z M) A (a_S X))))))) rfl ?_
        refine q_iinc 1 (lv' := [(3, .int 1), (0, .ref ((A 0) 0)), (1, .int b), (2, .int (nI 4))]) K 0 dX3_feed_56 rfl rfl (by decide) rfl ?_
        refine q_goto 39 K dX3_feed_59 (by decide) ?_
        refine q_iload_n K 0 dX3_feed_39 rfl ?_
        refine q_if_lt 62 K dX3_feed_40 (by decide) (fun c_0 => absurd c_0 (by decide)) (fun c_0 => ?_)
        refine q_aload_n K 1 dX3_feed_43 rfl ?_
        refine q_get (.ref ((A 4) 0)) K ws_X3 0 rfl rfl 4 (by decide) fl_X3_29 rfl dX3_feed_44 ?_
        refine q_iload_n K 2 dX3_feed_47 rfl ?_
        refine q_bipush 8 K dX3_feed_48 rfl ?_
        refine q_iload_n K 0 dX3_feed_50 rfl ?_
        refine q_imul K dX3_feed_51 ?_
        refine q_eqi 8 rfl ?_
        refine q_iushr K dX3_feed_52 ?_
        refine q_eqi (j_us b 8) rfl ?_
        refine q_cvV (q0 := 0) (As := [.int (j_us b 8)]) (rest := []) K kv_X2_put (c_X2_put (k_l M) (k_Z M) (A 4) (tp_put (tp_put (a_tp X) (j_us b 24)) (j_us b 16)) J (show (a_tp X).2 + 1 + 1 < 120 by omega) (j_us b 8)) (w_G (k_Z M) A (a_kp X) (a_fd X) ++ (w_F (k_Z M) (A 1) (a_F X) ++ (w_F (k_Z M) (A 2) T ++ (w_F (k_Z M) (A 3) (a_K X))))) (w_SS (k_Z M) A (a_S X)) rfl rfl rfl ml_X3_180 rfl rfl (Nat.le_of_ble_eq_true rfl) ⟨Nat.le_of_ble_eq_true rfl, Nat.le_of_ble_eq_true rfl⟩ dX3_feed_53 (fun w2 h_20 => ?_)
        obtain rfl := h_20
        refine q_ws (ws' := w_G (k_Z M) A (a_kp X) (a_fd X) ++ (w_F (k_Z M) (A 1) (a_F X) ++ (w_F (k_Z M) (A 2) T ++ (w_F (k_Z M) (A 3) (a_K X) ++ (w_T (k_Z M) (A 4) (t_of (tp_put (tp_put (tp_put (a_tp X) (j_us b 24)) (j_us b 16)) (j_us b 8)) J) ++ (w_SS (k_Z M) A (a_S X))))))) rfl ?_
        refine q_iinc 0 (lv' := [(3, .int 0), (0, .ref ((A 0) 0)), (1, .int b), (2, .int (nI 4))]) K 0 dX3_feed_56 rfl rfl (by decide) rfl ?_
        refine q_goto 39 K dX3_feed_59 (by decide) ?_
        refine q_iload_n K 0 dX3_feed_39 rfl ?_
        refine q_if_lt 62 K dX3_feed_40 (by decide) (fun c_0 => absurd c_0 (by decide)) (fun c_0 => ?_)
        refine q_aload_n K 1 dX3_feed_43 rfl ?_
        refine q_get (.ref ((A 4) 0)) K ws_X3 0 rfl rfl 4 (by decide) fl_X3_29 rfl dX3_feed_44 ?_
        refine q_iload_n K 2 dX3_feed_47 rfl ?_
        refine q_bipush 8 K dX3_feed_48 rfl ?_
        refine q_iload_n K 0 dX3_feed_50 rfl ?_
        refine q_imul K dX3_feed_51 ?_
        refine q_eqi 0 rfl ?_
        refine q_iushr K dX3_feed_52 ?_
        refine q_eqi (j_us b 0) rfl ?_
        refine q_cvV (q0 := 0) (As := [.int (j_us b 0)]) (rest := []) K kv_X2_put (c_X2_put (k_l M) (k_Z M) (A 4) (tp_put (tp_put (tp_put (a_tp X) (j_us b 24)) (j_us b 16)) (j_us b 8)) J (show (a_tp X).2 + 1 + 1 + 1 < 120 by omega) (j_us b 0)) (w_G (k_Z M) A (a_kp X) (a_fd X) ++ (w_F (k_Z M) (A 1) (a_F X) ++ (w_F (k_Z M) (A 2) T ++ (w_F (k_Z M) (A 3) (a_K X))))) (w_SS (k_Z M) A (a_S X)) rfl rfl rfl ml_X3_180 rfl rfl (Nat.le_of_ble_eq_true rfl) ⟨Nat.le_of_ble_eq_true rfl, Nat.le_of_ble_eq_true rfl⟩ dX3_feed_53 (fun w2 h_22 => ?_)
        obtain rfl := h_22
        refine q_ws (ws' := w_G (k_Z M) A (a_kp X) (a_fd X) ++ (w_F (k_Z M) (A 1) (a_F X) ++ (w_F (k_Z M) (A 2) T ++ (w_F (k_Z M) (A 3) (a_K X) ++ (w_T (k_Z M) (A 4) (t_of (tp_put (tp_put (tp_put (tp_put (a_tp X) (j_us b 24)) (j_us b 16)) (j_us b 8)) (j_us b 0)) J) ++ (w_SS (k_Z M) A (a_S X))))))) rfl ?_
        refine q_iinc (-1) (lv' := [(3, .int (-1)), (0, .ref ((A 0) 0)), (1, .int b), (2, .int (nI 4))]) K 0 dX3_feed_56 rfl rfl (by decide) rfl ?_
        refine q_goto 39 K dX3_feed_59 (by decide) ?_
        refine q_iload_n K 0 dX3_feed_39 rfl ?_
        refine q_if_lt 62 K dX3_feed_40 (by decide) (fun c_0 => ?_) (fun c_0 => absurd c_0 (by decide))
        refine q_aload_n K 1 dX3_feed_62 rfl ?_
        refine q_get (.ref ((A 4) 0)) K ws_X3 0 rfl rfl 4 (by decide) fl_X3_29 rfl dX3_feed_63 ?_
        refine q_get (.int (t_sz (t_of (tp_put (tp_put (tp_put (tp_put (a_tp X) (j_us b 24)) (j_us b 16)) (j_us b 8)) (j_us b 0)) J))) K ws_X2 33 rfl rfl 1 (by decide) fl_X3_177 rfl dX3_feed_66 ?_
        exact Rt _ _ (t_sz (t_of (tp_put (tp_put (tp_put (tp_put (a_tp X) (j_us b 24)) (j_us b 16)) (j_us b 8)) (j_us b 0)) J)) (w_G (k_Z M) A (a_kp X) (a_fd X) ++ (w_F (k_Z M) (A 1) (a_F X) ++ (w_F (k_Z M) (A 2) T ++ (w_F (k_Z M) (A 3) (a_K X) ++ (w_T (k_Z M) (A 4) (t_of (tp_put (tp_put (tp_put (tp_put (a_tp X) (j_us b 24)) (j_us b 16)) (j_us b 8)) (j_us b 0)) J) ++ (w_SS (k_Z M) A (a_S X))))))) dX3_feed_69 rfl (⟨T, J, by simp only [o_feed, kn_add, if_pos c_2, if_pos c_3, nI_clamp (n := 4) (by omega)]; rfl, by simp only [o_feed, kn_add, if_pos c_2, if_pos c_3, nI_clamp (n := 4) (by omega)]; rfl⟩)
    · have c_3n : ¬ (((a_tp X).2) + k ≤ 120) := fun h9 => c_3 ((nI_leI (a := ((a_tp X).2) + k) (b := 120) (by omega) (by omega)).mpr h9)
      refine q_aload_n K 0 dX3_feed_29 rfl ?_
      refine q_iconst 1 K dX3_feed_30 rfl ?_
      refine q_wI (q0 := 0) (As := [.int 1]) (rest := []) K kv_X3_finding (c_X3_finding (k_l M) (k_Z M) A X T J 1 (by omega)) rfl rfl ml_X3_52 rfl rfl (Nat.le_of_ble_eq_true rfl) ⟨Nat.le_of_ble_eq_true rfl, Nat.le_of_ble_eq_true rfl⟩ dX3_feed_31 (fun r_25 w2 h_24 => ?_)
      obtain ⟨e_r_25, rfl⟩ := h_24
      refine q_eqi (r_fin 1) e_r_25 ?_
      refine q_ws (ws' := w_G (k_Z M) A (a_kp X) (fd_up (a_fd X) 1) ++ (w_F (k_Z M) (A 1) (a_F X) ++ (w_F (k_Z M) (A 2) T ++ (w_F (k_Z M) (A 3) (a_K X) ++ (w_T (k_Z M) (A 4) (t_of (a_tp X) J) ++ (w_SS (k_Z M) A (a_S X))))))) rfl ?_
      exact Rt _ _ (r_fin 1) (w_G (k_Z M) A (a_kp X) (fd_up (a_fd X) 1) ++ (w_F (k_Z M) (A 1) (a_F X) ++ (w_F (k_Z M) (A 2) T ++ (w_F (k_Z M) (A 3) (a_K X) ++ (w_T (k_Z M) (A 4) (t_of (a_tp X) J) ++ (w_SS (k_Z M) A (a_S X))))))) dX3_feed_34 rfl (⟨T, J, by simp only [o_feed, a_fin, if_pos c_2, if_neg c_3, e_r_1, nI_clamp (n := k) (by omega), kn_add], by simp only [o_feed, a_fin, if_pos c_2, if_neg c_3, nI_clamp (n := k) (by omega), kn_add]; rfl⟩)
  · have c_2 : ¬ (inR n 1 4) := (kn_eq e_r_1).mp c_2
    refine q_aload_n K 0 dX3_feed_9 rfl ?_
    refine q_iconst 0 K dX3_feed_10 rfl ?_
    refine q_wI (q0 := 0) (As := [.int 0]) (rest := []) K kv_X3_finding (c_X3_finding (k_l M) (k_Z M) A X T J 0 (by omega)) rfl rfl ml_X3_52 rfl rfl (Nat.le_of_ble_eq_true rfl) ⟨Nat.le_of_ble_eq_true rfl, Nat.le_of_ble_eq_true rfl⟩ dX3_feed_11 (fun r_27 w2 h_26 => ?_)
    obtain ⟨e_r_27, rfl⟩ := h_26
    refine q_eqi (r_fin 0) e_r_27 ?_
    refine q_ws (ws' := w_G (k_Z M) A (a_kp X) (fd_up (a_fd X) 0) ++ (w_F (k_Z M) (A 1) (a_F X) ++ (w_F (k_Z M) (A 2) T ++ (w_F (k_Z M) (A 3) (a_K X) ++ (w_T (k_Z M) (A 4) (t_of (a_tp X) J) ++ (w_SS (k_Z M) A (a_S X))))))) rfl ?_
    exact Rt _ _ (r_fin 0) (w_G (k_Z M) A (a_kp X) (fd_up (a_fd X) 0) ++ (w_F (k_Z M) (A 1) (a_F X) ++ (w_F (k_Z M) (A 2) T ++ (w_F (k_Z M) (A 3) (a_K X) ++ (w_T (k_Z M) (A 4) (t_of (a_tp X) J) ++ (w_SS (k_Z M) A (a_S X))))))) dX3_feed_14 rfl (⟨T, J, by simp only [o_feed, a_fin, if_neg c_2, e_r_1, kn_add], by simp only [o_feed, a_fin, if_neg c_2, kn_add]; rfl⟩)
theorem kv_X3_feed : k_iv yX3_feed cX3_feed 4 (some .int) 2 := ⟨⟨im_X3_feed, se_X3_feed⟩, in_X3, co_X3_feed, by decide +kernel⟩
