set_option maxHeartbeats 4000000 in
set_option maxRecDepth 100000 in
theorem c_X3_who (l : Launch) (Z : kz_Z) (A : Nat → Nat → Nat) (X : AS) (T : FS) (J : TJ) (m : Nat) (hm : m ≤ 8) (hm2 : f_wk (a_F X) = nI m) (hsh : a_shok X) (s : Int32) : KI l Z yX3_who cX3_who 5 .int 5 110 [.ref ((A 0) 0), .int s] (w_G Z A (a_kp X) (a_fd X) ++ (w_F Z (A 1) (a_F X) ++ (w_F Z (A 2) T ++ (w_F Z (A 3) (a_K X) ++ (w_T Z (A 4) (t_of (a_tp X) J) ++ (w_SS Z A (a_S X))))))) (fun r w2 => ∃ T2 J2, r = (o_who X s).1 ∧ w2 = w_C Z A (o_who X s).2 T2 J2) := by
  refine ki_of (by decide) [(0, .ref ((A 0) 0)), (1, .int s)] (Nat.le_of_ble_eq_true rfl) rfl ?_
  intro M e1 e2 K Rt
  subst e1 e2
  refine q_aload_n K 0 dX3_who_0 rfl ?_
  refine q_iload_n K 1 dX3_who_1 rfl ?_
  refine q_wI (q0 := 0) (As := [.int s]) (rest := []) K kv_X3_wrongSheet (c_X3_wrongSheet (k_l M) (k_Z M) A X T J s) rfl rfl ml_X3_153 rfl rfl (Nat.le_of_ble_eq_true rfl) ⟨Nat.le_of_ble_eq_true rfl, Nat.le_of_ble_eq_true rfl⟩ dX3_who_2 (fun r_2 w2 h_1 => ?_)
  rcases h_1 with ⟨c_3, e_r_2, rfl⟩ | ⟨c_3, c_4, e_r_2, rfl⟩ | ⟨c_3, c_4, e_r_2, rfl⟩
  · refine q_ws (ws' := w_G (k_Z M) A (a_kp X) (a_fd X) ++ (w_F (k_Z M) (A 1) (a_F X) ++ (w_F (k_Z M) (A 2) T ++ (w_F (k_Z M) (A 3) (a_K X) ++ (w_T (k_Z M) (A 4) (t_of (a_tp X) J) ++ (w_SS (k_Z M) A (a_S X))))))) rfl ?_
    refine q_eqi 0 e_r_2 ?_
    refine q_istore_n (lv' := [(2, .int 0), (0, .ref ((A 0) 0)), (1, .int s)]) K dX3_who_5 (by decide) rfl ?_
    refine q_iload_n K 0 dX3_who_6 rfl ?_
    refine q_iconst (-1) K dX3_who_7 rfl ?_
    refine q_icmp_eq 17 K dX3_who_8 (by decide) (fun c_0 => absurd c_0 (by decide)) (fun c_0 => ?_)
    refine q_aload_n K 1 dX3_who_11 rfl ?_
    refine q_iload_n K 0 dX3_who_12 rfl ?_
    refine q_wI (q0 := 0) (As := [.int 0]) (rest := []) K kv_X3_finding (c_X3_finding (k_l M) (k_Z M) A X T J 0 (by omega)) rfl rfl ml_X3_52 rfl rfl (Nat.le_of_ble_eq_true rfl) ⟨Nat.le_of_ble_eq_true rfl, Nat.le_of_ble_eq_true rfl⟩ dX3_who_13 (fun r_6 w2 h_5 => ?_)
    obtain ⟨e_r_6, rfl⟩ := h_5
    refine q_eqi (r_fin 0) e_r_6 ?_
    refine q_ws (ws' := w_G (k_Z M) A (a_kp X) (fd_up (a_fd X) 0) ++ (w_F (k_Z M) (A 1) (a_F X) ++ (w_F (k_Z M) (A 2) T ++ (w_F (k_Z M) (A 3) (a_K X) ++ (w_T (k_Z M) (A 4) (t_of (a_tp X) J) ++ (w_SS (k_Z M) A (a_S X))))))) rfl ?_
    exact Rt _ _ (r_fin 0) (w_G (k_Z M) A (a_kp X) (fd_up (a_fd X) 0) ++ (w_F (k_Z M) (A 1) (a_F X) ++ (w_F (k_Z M) (A 2) T ++ (w_F (k_Z M) (A 3) (a_K X) ++ (w_T (k_Z M) (A 4) (t_of (a_tp X) J) ++ (w_SS (k_Z M) A (a_S X))))))) dX3_who_16 rfl (⟨T, J, by simp only [o_who, o_with, a_fin, if_neg c_3] <;> rfl, by simp only [o_who, o_with, a_fin, if_neg c_3] <;> rfl⟩)
  · refine q_ws (ws' := w_G (k_Z M) A (a_kp X) (a_fd X) ++ (w_F (k_Z M) (A 1) (a_F X) ++ (w_F (k_Z M) (A 2) T ++ (w_F (k_Z M) (A 3) (a_K X) ++ (w_T (k_Z M) (A 4) (t_of (a_tp X) J) ++ (w_SS (k_Z M) A (a_S X))))))) rfl ?_
    refine q_eqi 5 e_r_2 ?_
    refine q_istore_n (lv' := [(2, .int 5), (0, .ref ((A 0) 0)), (1, .int s)]) K dX3_who_5 (by decide) rfl ?_
    refine q_iload_n K 0 dX3_who_6 rfl ?_
    refine q_iconst (-1) K dX3_who_7 rfl ?_
    refine q_icmp_eq 17 K dX3_who_8 (by decide) (fun c_0 => absurd c_0 (by decide)) (fun c_0 => ?_)
    refine q_aload_n K 1 dX3_who_11 rfl ?_
    refine q_iload_n K 0 dX3_who_12 rfl ?_
    refine q_wI (q0 := 0) (As := [.int 5]) (rest := []) K kv_X3_finding (c_X3_finding (k_l M) (k_Z M) A X T J 5 (by omega)) rfl rfl ml_X3_52 rfl rfl (Nat.le_of_ble_eq_true rfl) ⟨Nat.le_of_ble_eq_true rfl, Nat.le_of_ble_eq_true rfl⟩ dX3_who_13 (fun r_8 w2 h_7 => ?_)
    obtain ⟨e_r_8, rfl⟩ := h_7
    refine q_eqi (r_fin 5) e_r_8 ?_
    refine q_ws (ws' := w_G (k_Z M) A (a_kp X) (fd_up (a_fd X) 5) ++ (w_F (k_Z M) (A 1) (a_F X) ++ (w_F (k_Z M) (A 2) T ++ (w_F (k_Z M) (A 3) (a_K X) ++ (w_T (k_Z M) (A 4) (t_of (a_tp X) J) ++ (w_SS (k_Z M) A (a_S X))))))) rfl ?_
    exact Rt _ _ (r_fin 5) (w_G (k_Z M) A (a_kp X) (fd_up (a_fd X) 5) ++ (w_F (k_Z M) (A 1) (a_F X) ++ (w_F (k_Z M) (A 2) T ++ (w_F (k_Z M) (A 3) (a_K X) ++ (w_T (k_Z M) (A 4) (t_of (a_tp X) J) ++ (w_SS (k_Z M) A (a_S X))))))) dX3_who_16 rfl (⟨T, J, by simp only [o_who, o_with, a_fin, if_pos c_3, if_pos c_4] <;> rfl, by simp only [o_who, o_with, a_fin, if_pos c_3, if_pos c_4] <;> rfl⟩)
  · refine q_ws (ws' := w_G (k_Z M) A (a_kp X) (a_fd X) ++ (w_F (k_Z M) (A 1) (a_F X) ++ (w_F (k_Z M) (A 2) T ++ (w_F (k_Z M) (A 3) (a_K X) ++ (w_T (k_Z M) (A 4) (t_of (a_tp X) J) ++ (w_SS (k_Z M) A (a_S X))))))) rfl ?_
    refine q_eqi (-1) e_r_2 ?_
    obtain ⟨y, h_y, e_y⟩ := kn_rng (n := 3) c_3 rfl
    subst e_y
    obtain ⟨z, hz, ez⟩ := hsh y (by omega)
    refine q_istore_n (lv' := [(2, .int (-1)), (0, .ref ((A 0) 0)), (1, .int (nI y))]) K dX3_who_5 (by decide) rfl ?_
    refine q_iload_n K 0 dX3_who_6 rfl ?_
    refine q_iconst (-1) K dX3_who_7 rfl ?_
    refine q_icmp_eq 17 K dX3_who_8 (by decide) (fun c_0 => ?_) (fun c_0 => absurd c_0 (by decide))
    refine q_iconst 0 K dX3_who_17 rfl ?_
    refine q_istore_n (lv' := [(3, .int 0), (2, .int (-1)), (0, .ref ((A 0) 0)), (1, .int (nI y))]) K dX3_who_18 (by decide) rfl ?_
    refine q_iconst 0 K dX3_who_19 rfl ?_
    refine q_istore (lv' := [(4, .int 0), (3, .int 0), (2, .int (-1)), (0, .ref ((A 0) 0)), (1, .int (nI y))]) K dX3_who_20 (by decide) rfl ?_
    refine q_loop (α := Nat × FS) (fun n9 x9 => x9.1 + n9 = m) 22 (fun x9 => [(4, .int (nI x9.1)), (3, .int (f_who X y x9.1)), (2, .int (-1)), (0, .ref ((A 0) 0)), (1, .int (nI y))]) (fun x9 => w_G (k_Z M) A (a_kp X) (a_fd X) ++ (w_F (k_Z M) (A 1) (a_F X) ++ (w_F (k_Z M) (A 2) x9.2 ++ (w_F (k_Z M) (A 3) (a_K X) ++ (w_T (k_Z M) (A 4) (t_of (a_tp X) J) ++ (w_SS (k_Z M) A (a_S X))))))) (fun n_9 x9 hI_10 ih_11 => ?_) m (0, T) (by show 0 + m = m; omega)
    obtain ⟨w, T1⟩ := x9
    dsimp only at hI_10 ih_11 ⊢
    refine q_iload K 0 dX3_who_22 rfl ?_
    refine q_aload_n K 3 dX3_who_24 rfl ?_
    refine q_get (.ref ((A 1) 0)) K ws_X3 0 rfl rfl 0 (by decide) fl_X3_12 rfl dX3_who_25 ?_
    refine q_get (.int (f_wk (a_F X))) K ws_X0 3 rfl rfl 4 (by decide) fl_X3_78 rfl dX3_who_28 ?_
    refine q_eqi (nI m) hm2 ?_
    refine q_icmp_ge 86 K dX3_who_31 (by decide) (fun c_12 => ?_) (fun c_12 => ?_)
    · have c_12n : m ≤ w := (nI_leI (a := m) (b := w) (by omega) (by omega)).mp c_12
      refine q_iload_n K 1 dX3_who_86 rfl ?_
      exact Rt _ _ (f_who X y w) (w_G (k_Z M) A (a_kp X) (a_fd X) ++ (w_F (k_Z M) (A 1) (a_F X) ++ (w_F (k_Z M) (A 2) T1 ++ (w_F (k_Z M) (A 3) (a_K X) ++ (w_T (k_Z M) (A 4) (t_of (a_tp X) J) ++ (w_SS (k_Z M) A (a_S X))))))) dX3_who_87 rfl (⟨T1, J, by simp only [o_who, o_with, if_pos c_3, if_neg c_4, if_pos c_12, nI_clamp (n := y) (by omega), f_mm hm hm2]; rw [show w = m by omega], by simp only [o_who, o_with, if_pos c_3, if_neg c_4, if_pos c_12, nI_clamp (n := y) (by omega), f_mm hm hm2]; rfl⟩)
    · have c_12n : ¬ (m ≤ w) := fun h9 => c_12 ((nI_leI (a := m) (b := w) (by omega) (by omega)).mpr h9)
      refine q_aload_n K 3 dX3_who_34 rfl ?_
      refine q_get (.ref ((A 2) 0)) K ws_X3 0 rfl rfl 1 (by decide) fl_X3_16 rfl dX3_who_35 ?_
      refine q_aload_n K 3 dX3_who_38 rfl ?_
      refine q_get (.ref ((A 1) 0)) K ws_X3 0 rfl rfl 0 (by decide) fl_X3_12 rfl dX3_who_39 ?_
      refine q_cvV (q0 := 10) (As := [.ref ((A 1) 0)]) (rest := []) K kv_X0_become (c_X0_becomeR (k_l M) (k_Z M) (A 2) (A 1) T1 (a_F X)) (w_G (k_Z M) A (a_kp X) (a_fd X)) (w_F (k_Z M) (A 3) (a_K X) ++ (w_T (k_Z M) (A 4) (t_of (a_tp X) J) ++ (w_SS (k_Z M) A (a_S X)))) rfl rfl rfl ml_X3_132 rfl rfl (Nat.le_of_ble_eq_true rfl) ⟨Nat.le_of_ble_eq_true rfl, Nat.le_of_ble_eq_true rfl⟩ dX3_who_42 (fun w2 h_13 => ?_)
      obtain rfl := h_13
      refine q_ws (ws' := w_G (k_Z M) A (a_kp X) (a_fd X) ++ (w_F (k_Z M) (A 1) (a_F X) ++ (w_F (k_Z M) (A 2) (a_F X) ++ (w_F (k_Z M) (A 3) (a_K X) ++ (w_T (k_Z M) (A 4) (t_of (a_tp X) J) ++ (w_SS (k_Z M) A (a_S X))))))) rfl ?_
      refine q_aload_n K 3 dX3_who_45 rfl ?_
      refine q_get (.ref ((A 2) 0)) K ws_X3 0 rfl rfl 1 (by decide) fl_X3_16 rfl dX3_who_46 ?_
      refine q_iconst 1 K dX3_who_49 rfl ?_
      refine q_iconst 1 K dX3_who_50 rfl ?_
      refine q_iload K 0 dX3_who_51 rfl ?_
      refine q_ishl K dX3_who_53 ?_
      refine q_cvV (q0 := 0) (As := [.int 1, .int (1 <<< ((nI w) &&& 31))]) (rest := []) K kv_X0_passHours (c_X0_passHours (k_l M) (k_Z M) (A 2) (a_F X) m hm hm2 1 (by omega) (1 <<< ((nI w) &&& 31))) (w_G (k_Z M) A (a_kp X) (a_fd X) ++ (w_F (k_Z M) (A 1) (a_F X))) (w_F (k_Z M) (A 3) (a_K X) ++ (w_T (k_Z M) (A 4) (t_of (a_tp X) J) ++ (w_SS (k_Z M) A (a_S X)))) rfl rfl rfl ml_X3_108 rfl rfl (Nat.le_of_ble_eq_true rfl) ⟨Nat.le_of_ble_eq_true rfl, Nat.le_of_ble_eq_true rfl⟩ dX3_who_54 (fun w2 h_14 => ?_)
      obtain rfl := h_14
      refine q_ws (ws' := w_G (k_Z M) A (a_kp X) (a_fd X) ++ (w_F (k_Z M) (A 1) (a_F X) ++ (w_F (k_Z M) (A 2) (f_hoursC (f_gm (1 <<< ((nI w) &&& 31))) (a_F X) 1) ++ (w_F (k_Z M) (A 3) (a_K X) ++ (w_T (k_Z M) (A 4) (t_of (a_tp X) J) ++ (w_SS (k_Z M) A (a_S X))))))) rfl ?_
      refine q_aload_n K 3 dX3_who_57 rfl ?_
      refine q_get (.ref ((A 2) 0)) K ws_X3 0 rfl rfl 1 (by decide) fl_X3_16 rfl dX3_who_58 ?_
      refine q_aload_n K 3 dX3_who_61 rfl ?_
      refine q_get (.ref ((A 0) 1)) K ws_X3 0 rfl rfl 5 (by decide) fl_X3_35 rfl dX3_who_62 ?_
      refine q_iload_n K 4 dX3_who_65 rfl ?_
      refine q_aldo (y := (A (5 + y)) 0) K 1 rfl (vp_in_nI (n := y) (N := 4) (by omega) (by omega)) (by rw [nI_clamp (n := y) (by omega)]) dX3_who_66 ?_
      refine q_perm (ws' := w_G (k_Z M) A (a_kp X) (a_fd X) ++ (w_F (k_Z M) (A 1) (a_F X) ++ (w_F (k_Z M) (A 2) (f_hoursC (f_gm (1 <<< ((nI w) &&& 31))) (a_F X) 1) ++ (w_F (k_Z M) (A 3) (a_K X) ++ (w_T (k_Z M) (A 4) (t_of (a_tp X) J) ++ (w_S (k_Z M) (A (5 + y)) ((a_S X) y) ++ (w_SR (k_Z M) A (a_S X) y))))))) (List.Perm.append_left _ (List.Perm.append_left _ (List.Perm.append_left _ (List.Perm.append_left _ (List.Perm.append_left _ (k_foc (by omega))))))) ?_
      refine q_perm (ws' := w_G (k_Z M) A (a_kp X) (a_fd X) ++ (w_F (k_Z M) (A 1) (a_F X) ++ (w_F (k_Z M) (A 2) (f_hoursC (f_gm (1 <<< ((nI w) &&& 31))) (a_F X) 1) ++ (w_F (k_Z M) (A 3) (a_K X) ++ (w_S (k_Z M) (A (5 + y)) ((a_S X) y) ++ (w_T (k_Z M) (A 4) (t_of (a_tp X) J) ++ (w_SR (k_Z M) A (a_S X) y))))))) (List.Perm.append_left _ (List.Perm.append_left _ (List.Perm.append_left _ (List.Perm.append_left _ (k_sw _ _ _))))) ?_
      refine q_perm (ws' := w_G (k_Z M) A (a_kp X) (a_fd X) ++ (w_F (k_Z M) (A 1) (a_F X) ++ (w_F (k_Z M) (A 2) (f_hoursC (f_gm (1 <<< ((nI w) &&& 31))) (a_F X) 1) ++ (w_S (k_Z M) (A (5 + y)) ((a_S X) y) ++ (w_F (k_Z M) (A 3) (a_K X) ++ (w_T (k_Z M) (A 4) (t_of (a_tp X) J) ++ (w_SR (k_Z M) A (a_S X) y))))))) (List.Perm.append_left _ (List.Perm.append_left _ (List.Perm.append_left _ (k_sw _ _ _)))) ?_
      refine q_cvI (q0 := 0) (As := [.ref ((A (5 + y)) 0)]) (rest := []) K kv_X0_standsAsTold (c_X0_standsAsTold (k_l M) (k_Z M) (A 2) (A (5 + y)) (f_hoursC (f_gm (1 <<< ((nI w) &&& 31))) (a_F X) 1) ((a_S X) y) z hz ez) (w_G (k_Z M) A (a_kp X) (a_fd X) ++ (w_F (k_Z M) (A 1) (a_F X))) (w_F (k_Z M) (A 3) (a_K X) ++ (w_T (k_Z M) (A 4) (t_of (a_tp X) J) ++ (w_SR (k_Z M) A (a_S X) y))) rfl rfl rfl ml_X3_156 rfl rfl (Nat.le_of_ble_eq_true rfl) ⟨Nat.le_of_ble_eq_true rfl, Nat.le_of_ble_eq_true rfl⟩ dX3_who_67 (fun r_17 w2 h_16 => ?_)
      obtain ⟨e_r_17, rfl⟩ := h_16
      refine q_ws (ws' := w_G (k_Z M) A (a_kp X) (a_fd X) ++ (w_F (k_Z M) (A 1) (a_F X) ++ (w_F (k_Z M) (A 2) (f_hoursC (f_gm (1 <<< ((nI w) &&& 31))) (a_F X) 1) ++ (w_S (k_Z M) (A (5 + y)) ((a_S X) y) ++ (w_F (k_Z M) (A 3) (a_K X) ++ (w_T (k_Z M) (A 4) (t_of (a_tp X) J) ++ (w_SR (k_Z M) A (a_S X) y))))))) rfl ?_
      refine q_perm (ws' := w_G (k_Z M) A (a_kp X) (a_fd X) ++ (w_F (k_Z M) (A 1) (a_F X) ++ (w_F (k_Z M) (A 2) (f_hoursC (f_gm (1 <<< ((nI w) &&& 31))) (a_F X) 1) ++ (w_F (k_Z M) (A 3) (a_K X) ++ (w_S (k_Z M) (A (5 + y)) ((a_S X) y) ++ (w_T (k_Z M) (A 4) (t_of (a_tp X) J) ++ (w_SR (k_Z M) A (a_S X) y))))))) (List.Perm.append_left _ (List.Perm.append_left _ (List.Perm.append_left _ (k_sw _ _ _)))) ?_
      refine q_perm (ws' := w_G (k_Z M) A (a_kp X) (a_fd X) ++ (w_F (k_Z M) (A 1) (a_F X) ++ (w_F (k_Z M) (A 2) (f_hoursC (f_gm (1 <<< ((nI w) &&& 31))) (a_F X) 1) ++ (w_F (k_Z M) (A 3) (a_K X) ++ (w_T (k_Z M) (A 4) (t_of (a_tp X) J) ++ (w_S (k_Z M) (A (5 + y)) ((a_S X) y) ++ (w_SR (k_Z M) A (a_S X) y))))))) (List.Perm.append_left _ (List.Perm.append_left _ (List.Perm.append_left _ (List.Perm.append_left _ (k_sw _ _ _))))) ?_
      have e_r_17 : r_17 = if p_told X y (f_hoursC (f_gm (1 <<< ((nI w) &&& 31))) (a_F X) 1) = true then 1 else 0 := by rw [p_told, a_szz hz ez]; exact e_r_17
      refine q_if_eq 80 K dX3_who_70 (by decide) (fun c_18 => ?_) (fun c_18 => ?_)
      · have c_18 : ¬ (p_told X y (f_hoursC (f_gm (1 <<< ((nI w) &&& 31))) (a_F X) 1) = true) := (kn_eq e_r_17).mp c_18
        refine q_iinc (nI (w + 1)) (lv' := [(4, .int (nI (w + 1))), (3, .int (f_who X y w)), (2, .int (-1)), (0, .ref ((A 0) 0)), (1, .int (nI y))]) K 0 dX3_who_80 rfl (kn_inc w) (by decide) rfl ?_
        refine q_goto 22 K dX3_who_83 (by decide) ?_
        refine q_perm (ws' := w_G (k_Z M) A (a_kp X) (a_fd X) ++ (w_F (k_Z M) (A 1) (a_F X) ++ (w_F (k_Z M) (A 2) (f_hoursC (f_gm (1 <<< ((nI w) &&& 31))) (a_F X) 1) ++ (w_F (k_Z M) (A 3) (a_K X) ++ (w_T (k_Z M) (A 4) (t_of (a_tp X) J) ++ (w_SS (k_Z M) A (a_S X))))))) (List.Perm.append_left _ (List.Perm.append_left _ (List.Perm.append_left _ (List.Perm.append_left _ (List.Perm.append_left _ (k_foc (by omega)).symm))))) ?_
        rw [show f_who X y w = f_who X y (w + 1) by simp only [f_who, if_neg c_18]]
        exact ih_11 (n_9 - 1) (w + 1, f_hoursC (f_gm (1 <<< ((nI w) &&& 31))) (a_F X) 1) (by omega) (by show w + 1 + (n_9 - 1) = m; omega)
      · have c_18 : p_told X y (f_hoursC (f_gm (1 <<< ((nI w) &&& 31))) (a_F X) 1) = true := (kn_ne e_r_17).mp c_18
        refine q_iload_n K 1 dX3_who_73 rfl ?_
        refine q_iconst 1 K dX3_who_74 rfl ?_
        refine q_iload K 0 dX3_who_75 rfl ?_
        refine q_ishl K dX3_who_77 ?_
        refine q_ior K dX3_who_78 ?_
        refine q_istore_n (lv' := [(3, .int ((f_who X y w) ||| (1 <<< ((nI w) &&& 31)))), (4, .int (nI w)), (2, .int (-1)), (0, .ref ((A 0) 0)), (1, .int (nI y))]) K dX3_who_79 (by decide) rfl ?_
        refine q_iinc (nI (w + 1)) (lv' := [(4, .int (nI (w + 1))), (3, .int ((f_who X y w) ||| (1 <<< ((nI w) &&& 31)))), (2, .int (-1)), (0, .ref ((A 0) 0)), (1, .int (nI y))]) K 1 dX3_who_80 rfl (kn_inc w) (by decide) rfl ?_
        refine q_goto 22 K dX3_who_83 (by decide) ?_
        refine q_perm (ws' := w_G (k_Z M) A (a_kp X) (a_fd X) ++ (w_F (k_Z M) (A 1) (a_F X) ++ (w_F (k_Z M) (A 2) (f_hoursC (f_gm (1 <<< ((nI w) &&& 31))) (a_F X) 1) ++ (w_F (k_Z M) (A 3) (a_K X) ++ (w_T (k_Z M) (A 4) (t_of (a_tp X) J) ++ (w_SS (k_Z M) A (a_S X))))))) (List.Perm.append_left _ (List.Perm.append_left _ (List.Perm.append_left _ (List.Perm.append_left _ (List.Perm.append_left _ (k_foc (by omega)).symm))))) ?_
        rw [show (f_who X y w) ||| (1 <<< ((nI w) &&& 31)) = f_who X y (w + 1) by simp only [f_who, if_pos c_18]]
        exact ih_11 (n_9 - 1) (w + 1, f_hoursC (f_gm (1 <<< ((nI w) &&& 31))) (a_F X) 1) (by omega) (by show w + 1 + (n_9 - 1) = m; omega)
theorem kv_X3_who : k_iv yX3_who cX3_who 5 (some .int) 1 := ⟨⟨im_X3_who, se_X3_who⟩, in_X3, co_X3_who, by decide +kernel⟩
set_option maxHeartbeats 4000000 in
set_option maxRecDepth 100000 in
theorem c_X3_fits (l : Launch) (Z : kz_Z) (A : Nat → Nat → Nat) (X : AS) (T : FS) (J : TJ) (m : Nat) (hm : m ≤ 8) (hm2 : f_wk (a_F X) = nI m) (hsh : a_shok X) (s w n : Int32) : KI l Z yX3_fits cX3_fits 7 .int 5 110 [.ref ((A 0) 0), .int s, .int w, .int n] (w_G Z A (a_kp X) (a_fd X) ++ (w_F Z (A 1) (a_F X) ++ (w_F Z (A 2) T ++ (w_F Z (A 3) (a_K X) ++ (w_T Z (A 4) (t_of (a_tp X) J) ++ (w_SS Z A (a_S X))))))) (fun r w2 => ∃ T2 J2, r = (o_fits X s w n).1 ∧ w2 = w_C Z A (o_fits X s w n).2 T2 J2) := by
  refine ki_of (by decide) [(0, .ref ((A 0) 0)), (1, .int s), (2, .int w), (3, .int n)] (Nat.le_of_ble_eq_true rfl) rfl ?_
  intro M e1 e2 K Rt
  subst e1 e2
  refine q_aload_n K 0 dX3_fits_0 rfl ?_
  refine q_iload_n K 1 dX3_fits_1 rfl ?_
  refine q_wI (q0 := 0) (As := [.int s]) (rest := []) K kv_X3_wrongSheet (c_X3_wrongSheet (k_l M) (k_Z M) A X T J s) rfl rfl ml_X3_153 rfl rfl (Nat.le_of_ble_eq_true rfl) ⟨Nat.le_of_ble_eq_true rfl, Nat.le_of_ble_eq_true rfl⟩ dX3_fits_2 (fun r_2 w2 h_1 => ?_)
  rcases h_1 with ⟨c_3, e_r_2, rfl⟩ | ⟨c_3, c_4, e_r_2, rfl⟩ | ⟨c_3, c_4, e_r_2, rfl⟩
  · refine q_ws (ws' := w_G (k_Z M) A (a_kp X) (a_fd X) ++ (w_F (k_Z M) (A 1) (a_F X) ++ (w_F (k_Z M) (A 2) T ++ (w_F (k_Z M) (A 3) (a_K X) ++ (w_T (k_Z M) (A 4) (t_of (a_tp X) J) ++ (w_SS (k_Z M) A (a_S X))))))) rfl ?_
    refine q_eqi 0 e_r_2 ?_
    refine q_istore (lv' := [(4, .int 0), (0, .ref ((A 0) 0)), (1, .int s), (2, .int w), (3, .int n)]) K dX3_fits_5 (by decide) rfl ?_
    refine q_iload K 0 dX3_fits_7 rfl ?_
    refine q_iconst (-1) K dX3_fits_9 rfl ?_
    refine q_icmp_eq 20 K dX3_fits_10 (by decide) (fun c_0 => absurd c_0 (by decide)) (fun c_0 => ?_)
    refine q_aload_n K 1 dX3_fits_13 rfl ?_
    refine q_iload K 0 dX3_fits_14 rfl ?_
    refine q_wI (q0 := 0) (As := [.int 0]) (rest := []) K kv_X3_finding (c_X3_finding (k_l M) (k_Z M) A X T J 0 (by omega)) rfl rfl ml_X3_52 rfl rfl (Nat.le_of_ble_eq_true rfl) ⟨Nat.le_of_ble_eq_true rfl, Nat.le_of_ble_eq_true rfl⟩ dX3_fits_16 (fun r_6 w2 h_5 => ?_)
    obtain ⟨e_r_6, rfl⟩ := h_5
    refine q_eqi (r_fin 0) e_r_6 ?_
    refine q_ws (ws' := w_G (k_Z M) A (a_kp X) (fd_up (a_fd X) 0) ++ (w_F (k_Z M) (A 1) (a_F X) ++ (w_F (k_Z M) (A 2) T ++ (w_F (k_Z M) (A 3) (a_K X) ++ (w_T (k_Z M) (A 4) (t_of (a_tp X) J) ++ (w_SS (k_Z M) A (a_S X))))))) rfl ?_
    exact Rt _ _ (r_fin 0) (w_G (k_Z M) A (a_kp X) (fd_up (a_fd X) 0) ++ (w_F (k_Z M) (A 1) (a_F X) ++ (w_F (k_Z M) (A 2) T ++ (w_F (k_Z M) (A 3) (a_K X) ++ (w_T (k_Z M) (A 4) (t_of (a_tp X) J) ++ (w_SS (k_Z M) A (a_S X))))))) dX3_fits_19 rfl (⟨T, J, by simp only [o_fits, o_with, a_fin, if_neg c_3] <;> rfl, by simp only [o_fits, o_with, a_fin, if_neg c_3] <;> rfl⟩)
  · refine q_ws (ws' := w_G (k_Z M) A (a_kp X) (a_fd X) ++ (w_F (k_Z M) (A 1) (a_F X) ++ (w_F (k_Z M) (A 2) T ++ (w_F (k_Z M) (A 3) (a_K X) ++ (w_T (k_Z M) (A 4) (t_of (a_tp X) J) ++ (w_SS (k_Z M) A (a_S X))))))) rfl ?_
    refine q_eqi 5 e_r_2 ?_
    refine q_istore (lv' := [(4, .int 5), (0, .ref ((A 0) 0)), (1, .int s), (2, .int w), (3, .int n)]) K dX3_fits_5 (by decide) rfl ?_
    refine q_iload K 0 dX3_fits_7 rfl ?_
    refine q_iconst (-1) K dX3_fits_9 rfl ?_
    refine q_icmp_eq 20 K dX3_fits_10 (by decide) (fun c_0 => absurd c_0 (by decide)) (fun c_0 => ?_)
    refine q_aload_n K 1 dX3_fits_13 rfl ?_
    refine q_iload K 0 dX3_fits_14 rfl ?_
    refine q_wI (q0 := 0) (As := [.int 5]) (rest := []) K kv_X3_finding (c_X3_finding (k_l M) (k_Z M) A X T J 5 (by omega)) rfl rfl ml_X3_52 rfl rfl (Nat.le_of_ble_eq_true rfl) ⟨Nat.le_of_ble_eq_true rfl, Nat.le_of_ble_eq_true rfl⟩ dX3_fits_16 (fun r_8 w2 h_7 => ?_)
    obtain ⟨e_r_8, rfl⟩ := h_7
    refine q_eqi (r_fin 5) e_r_8 ?_
    refine q_ws (ws' := w_G (k_Z M) A (a_kp X) (fd_up (a_fd X) 5) ++ (w_F (k_Z M) (A 1) (a_F X) ++ (w_F (k_Z M) (A 2) T ++ (w_F (k_Z M) (A 3) (a_K X) ++ (w_T (k_Z M) (A 4) (t_of (a_tp X) J) ++ (w_SS (k_Z M) A (a_S X))))))) rfl ?_
    exact Rt _ _ (r_fin 5) (w_G (k_Z M) A (a_kp X) (fd_up (a_fd X) 5) ++ (w_F (k_Z M) (A 1) (a_F X) ++ (w_F (k_Z M) (A 2) T ++ (w_F (k_Z M) (A 3) (a_K X) ++ (w_T (k_Z M) (A 4) (t_of (a_tp X) J) ++ (w_SS (k_Z M) A (a_S X))))))) dX3_fits_19 rfl (⟨T, J, by simp only [o_fits, o_with, a_fin, if_pos c_3, if_pos c_4] <;> rfl, by simp only [o_fits, o_with, a_fin, if_pos c_3, if_pos c_4] <;> rfl⟩)
  · refine q_ws (ws' := w_G (k_Z M) A (a_kp X) (a_fd X) ++ (w_F (k_Z M) (A 1) (a_F X) ++ (w_F (k_Z M) (A 2) T ++ (w_F (k_Z M) (A 3) (a_K X) ++ (w_T (k_Z M) (A 4) (t_of (a_tp X) J) ++ (w_SS (k_Z M) A (a_S X))))))) rfl ?_
    refine q_eqi (-1) e_r_2 ?_
    obtain ⟨y, h_y, e_y⟩ := kn_rng (n := 3) c_3 rfl
    subst e_y
    obtain ⟨z, hz, ez⟩ := hsh y (by omega)
    refine q_istore (lv' := [(4, .int (-1)), (0, .ref ((A 0) 0)), (1, .int (nI y)), (2, .int w), (3, .int n)]) K dX3_fits_5 (by decide) rfl ?_
    refine q_iload K 0 dX3_fits_7 rfl ?_
    refine q_iconst (-1) K dX3_fits_9 rfl ?_
    refine q_icmp_eq 20 K dX3_fits_10 (by decide) (fun c_0 => ?_) (fun c_0 => absurd c_0 (by decide))
    refine q_aload_n K 1 dX3_fits_20 rfl ?_
    refine q_iload_n K 3 dX3_fits_21 rfl ?_
    refine q_wI (q0 := 0) (As := [.int w]) (rest := []) K kv_X3_isWalker (c_X3_isWalker (k_l M) (k_Z M) A X T J w) rfl rfl ml_X3_85 rfl rfl (Nat.le_of_ble_eq_true rfl) ⟨Nat.le_of_ble_eq_true rfl, Nat.le_of_ble_eq_true rfl⟩ dX3_fits_22 (fun r_10 w2 h_9 => ?_)
    obtain ⟨e_r_10, rfl⟩ := h_9
    refine q_ws (ws' := w_G (k_Z M) A (a_kp X) (a_fd X) ++ (w_F (k_Z M) (A 1) (a_F X) ++ (w_F (k_Z M) (A 2) T ++ (w_F (k_Z M) (A 3) (a_K X) ++ (w_T (k_Z M) (A 4) (t_of (a_tp X) J) ++ (w_SS (k_Z M) A (a_S X))))))) rfl ?_
    refine q_if_eq 38 K dX3_fits_25 (by decide) (fun c_11 => ?_) (fun c_11 => ?_)
    · have c_11 : ¬ (isW X w) := (kn_eq e_r_10).mp c_11
      refine q_aload_n K 1 dX3_fits_38 rfl ?_
      refine q_iconst 0 K dX3_fits_39 rfl ?_
      refine q_wI (q0 := 0) (As := [.int 0]) (rest := []) K kv_X3_finding (c_X3_finding (k_l M) (k_Z M) A X T J 0 (by omega)) rfl rfl ml_X3_52 rfl rfl (Nat.le_of_ble_eq_true rfl) ⟨Nat.le_of_ble_eq_true rfl, Nat.le_of_ble_eq_true rfl⟩ dX3_fits_40 (fun r_13 w2 h_12 => ?_)
      obtain ⟨e_r_13, rfl⟩ := h_12
      refine q_eqi (r_fin 0) e_r_13 ?_
      refine q_ws (ws' := w_G (k_Z M) A (a_kp X) (fd_up (a_fd X) 0) ++ (w_F (k_Z M) (A 1) (a_F X) ++ (w_F (k_Z M) (A 2) T ++ (w_F (k_Z M) (A 3) (a_K X) ++ (w_T (k_Z M) (A 4) (t_of (a_tp X) J) ++ (w_SS (k_Z M) A (a_S X))))))) rfl ?_
      exact Rt _ _ (r_fin 0) (w_G (k_Z M) A (a_kp X) (fd_up (a_fd X) 0) ++ (w_F (k_Z M) (A 1) (a_F X) ++ (w_F (k_Z M) (A 2) T ++ (w_F (k_Z M) (A 3) (a_K X) ++ (w_T (k_Z M) (A 4) (t_of (a_tp X) J) ++ (w_SS (k_Z M) A (a_S X))))))) dX3_fits_43 rfl (⟨T, J, by simp only [o_fits, o_with, a_fin, if_pos c_3, if_neg c_4, if_neg c_11, nI_clamp (n := y) (by omega)] <;> rfl, by simp only [o_fits, o_with, a_fin, if_pos c_3, if_neg c_4, if_neg c_11, nI_clamp (n := y) (by omega)] <;> rfl⟩)
    · have c_11 : isW X w := (kn_ne e_r_10).mp c_11
      obtain ⟨u, h_u, e_u⟩ := isW_nat hm hm2 c_11
      subst e_u
      refine q_iload_n K 4 dX3_fits_28 rfl ?_
      refine q_iconst 0 K dX3_fits_29 rfl ?_
      refine q_bipush 20 K dX3_fits_30 rfl ?_
      refine q_cp (rest := []) K ks_X3_isIn (c_X3_isIn (k_l M) (k_Z M) n 0 20) ml_X3_48 rfl rfl (Nat.le_of_ble_eq_true rfl) ⟨Nat.le_of_ble_eq_true rfl, Nat.le_of_ble_eq_true rfl⟩ dX3_fits_32 (fun r_14 e_r_14 => ?_)
      refine q_if_ne 44 K dX3_fits_35 (by decide) (fun c_15 => ?_) (fun c_15 => ?_)
      · have c_15 : inR n 0 20 := (kn_ne e_r_14).mp c_15
        obtain ⟨k, h_k, e_k⟩ := kn_rng (n := 20) c_15 rfl
        subst e_k
        refine q_iconst 0 K dX3_fits_44 rfl ?_
        refine q_istore (lv' := [(5, .int 0), (4, .int (-1)), (0, .ref ((A 0) 0)), (1, .int (nI y)), (2, .int (nI u)), (3, .int (nI k))]) K dX3_fits_45 (by decide) rfl ?_
        refine q_iconst 0 K dX3_fits_47 rfl ?_
        refine q_istore (lv' := [(6, .int 0), (5, .int 0), (4, .int (-1)), (0, .ref ((A 0) 0)), (1, .int (nI y)), (2, .int (nI u)), (3, .int (nI k))]) K dX3_fits_48 (by decide) rfl ?_
        refine q_loop (α := Nat × FS) (fun n9 x9 => x9.1 + n9 = 9) 50 (fun x9 => [(6, .int (nI x9.1)), (5, .int (f_fits X y u k x9.1)), (4, .int (-1)), (0, .ref ((A 0) 0)), (1, .int (nI y)), (2, .int (nI u)), (3, .int (nI k))]) (fun x9 => w_G (k_Z M) A (a_kp X) (a_fd X) ++ (w_F (k_Z M) (A 1) (a_F X) ++ (w_F (k_Z M) (A 2) x9.2 ++ (w_F (k_Z M) (A 3) (a_K X) ++ (w_T (k_Z M) (A 4) (t_of (a_tp X) J) ++ (w_SS (k_Z M) A (a_S X))))))) (fun n_16 x9 hI_17 ih_18 => ?_) 9 (0, T) (by show 0 + 9 = 9; omega)
        obtain ⟨f, T1⟩ := x9
        dsimp only at hI_17 ih_18 ⊢
        refine q_iload K 0 dX3_fits_50 rfl ?_
        refine q_bipush 9 K dX3_fits_52 rfl ?_
        refine q_icmp_ge 123 K dX3_fits_54 (by decide) (fun c_19 => ?_) (fun c_19 => ?_)
        · have c_19n : 9 ≤ f := (nI_leI (a := 9) (b := f) (by omega) (by omega)).mp c_19
          refine q_iload K 1 dX3_fits_123 rfl ?_
          exact Rt _ _ (f_fits X y u k f) (w_G (k_Z M) A (a_kp X) (a_fd X) ++ (w_F (k_Z M) (A 1) (a_F X) ++ (w_F (k_Z M) (A 2) T1 ++ (w_F (k_Z M) (A 3) (a_K X) ++ (w_T (k_Z M) (A 4) (t_of (a_tp X) J) ++ (w_SS (k_Z M) A (a_S X))))))) dX3_fits_125 rfl (⟨T1, J, by simp only [o_fits, o_with, if_pos c_3, if_neg c_4, if_pos c_11, if_pos c_15, if_pos c_19, nI_clamp (n := y) (by omega), nI_clamp (n := u) (by omega), nI_clamp (n := k) (by omega)]; rw [show f = 9 by omega], by simp only [o_fits, o_with, if_pos c_3, if_neg c_4, if_pos c_11, if_pos c_15, if_pos c_19, nI_clamp (n := y) (by omega), nI_clamp (n := u) (by omega), nI_clamp (n := k) (by omega)]; rfl⟩)
        · have c_19n : ¬ (9 ≤ f) := fun h9 => c_19 ((nI_leI (a := 9) (b := f) (by omega) (by omega)).mpr h9)
          refine q_aload_n K 3 dX3_fits_57 rfl ?_
          refine q_get (.ref ((A 2) 0)) K ws_X3 0 rfl rfl 1 (by decide) fl_X3_16 rfl dX3_fits_58 ?_
          refine q_aload_n K 3 dX3_fits_61 rfl ?_
          refine q_get (.ref ((A 1) 0)) K ws_X3 0 rfl rfl 0 (by decide) fl_X3_12 rfl dX3_fits_62 ?_
          refine q_cvV (q0 := 10) (As := [.ref ((A 1) 0)]) (rest := []) K kv_X0_become (c_X0_becomeR (k_l M) (k_Z M) (A 2) (A 1) T1 (a_F X)) (w_G (k_Z M) A (a_kp X) (a_fd X)) (w_F (k_Z M) (A 3) (a_K X) ++ (w_T (k_Z M) (A 4) (t_of (a_tp X) J) ++ (w_SS (k_Z M) A (a_S X)))) rfl rfl rfl ml_X3_132 rfl rfl (Nat.le_of_ble_eq_true rfl) ⟨Nat.le_of_ble_eq_true rfl, Nat.le_of_ble_eq_true rfl⟩ dX3_fits_65 (fun w2 h_20 => ?_)
          obtain rfl := h_20
          refine q_ws (ws' := w_G (k_Z M) A (a_kp X) (a_fd X) ++ (w_F (k_Z M) (A 1) (a_F X) ++ (w_F (k_Z M) (A 2) (a_F X) ++ (w_F (k_Z M) (A 3) (a_K X) ++ (w_T (k_Z M) (A 4) (t_of (a_tp X) J) ++ (w_SS (k_Z M) A (a_S X))))))) rfl ?_
          refine q_aload_n K 3 dX3_fits_68 rfl ?_
          refine q_get (.ref ((A 2) 0)) K ws_X3 0 rfl rfl 1 (by decide) fl_X3_16 rfl dX3_fits_69 ?_
          refine q_get (.ref ((A 2) 3)) K ws_X0 13 rfl rfl 2 (by decide) fl_X3_91 rfl dX3_fits_72 ?_
          refine q_iconst 1 K dX3_fits_75 rfl ?_
          refine q_aldg (y := (A 2) 6) K 16 rfl (vp_in_nI (n := 1) (N := 5) (by omega) (by omega)) rfl dX3_fits_76 ?_
          refine q_iload_n K 5 dX3_fits_77 rfl ?_
          refine q_iload K 0 dX3_fits_78 rfl ?_
          refine q_iast (ws' := w_G (k_Z M) A (a_kp X) (a_fd X) ++ (w_F (k_Z M) (A 1) (a_F X) ++ (w_F (k_Z M) (A 2) (f_bs (a_F X), f_gs (a_F X), f_kd (a_F X), upd (f_fd (a_F X)) u (nI f), f_wy (a_F X), f_md (a_F X), f_ps (a_F X), f_hd (a_F X), f_wk (a_F X), f_wd (a_F X), f_hr (a_F X), f_zz (a_F X)) ++ (w_F (k_Z M) (A 3) (a_K X) ++ (w_T (k_Z M) (A 4) (t_of (a_tp X) J) ++ (w_SS (k_Z M) A (a_S X))))))) K 19 rfl (vp_in_nI (n := u) (N := 8) (by omega) (by omega)) (by rw [nI_clamp (n := u) (by omega)] <;> rfl) dX3_fits_80 ?_
          refine q_ws (ws' := w_G (k_Z M) A (a_kp X) (a_fd X) ++ (w_F (k_Z M) (A 1) (a_F X) ++ (w_F (k_Z M) (A 2) (f_setrow (a_F X) 1 (upd (f_row (a_F X) 1) u (nI f))) ++ (w_F (k_Z M) (A 3) (a_K X) ++ (w_T (k_Z M) (A 4) (t_of (a_tp X) J) ++ (w_SS (k_Z M) A (a_S X))))))) rfl ?_
          refine q_aload_n K 3 dX3_fits_81 rfl ?_
          refine q_get (.ref ((A 2) 0)) K ws_X3 0 rfl rfl 1 (by decide) fl_X3_16 rfl dX3_fits_82 ?_
          refine q_iload_n K 6 dX3_fits_85 rfl ?_
          refine q_iconst 1 K dX3_fits_86 rfl ?_
          refine q_iload_n K 5 dX3_fits_87 rfl ?_
          refine q_ishl K dX3_fits_88 ?_
          refine q_cvV (q0 := 0) (As := [.int (nI k), .int (1 <<< ((nI u) &&& 31))]) (rest := []) K kv_X0_passHours (c_X0_passHours (k_l M) (k_Z M) (A 2) (f_setrow (a_F X) 1 (upd (f_row (a_F X) 1) u (nI f))) m hm hm2 k (by omega) (1 <<< ((nI u) &&& 31))) (w_G (k_Z M) A (a_kp X) (a_fd X) ++ (w_F (k_Z M) (A 1) (a_F X))) (w_F (k_Z M) (A 3) (a_K X) ++ (w_T (k_Z M) (A 4) (t_of (a_tp X) J) ++ (w_SS (k_Z M) A (a_S X)))) rfl rfl rfl ml_X3_108 rfl rfl (Nat.le_of_ble_eq_true rfl) ⟨Nat.le_of_ble_eq_true rfl, Nat.le_of_ble_eq_true rfl⟩ dX3_fits_89 (fun w2 h_21 => ?_)
          obtain rfl := h_21
          refine q_ws (ws' := w_G (k_Z M) A (a_kp X) (a_fd X) ++ (w_F (k_Z M) (A 1) (a_F X) ++ (w_F (k_Z M) (A 2) (f_hoursC (f_gm (1 <<< ((nI u) &&& 31))) (f_setrow (a_F X) 1 (upd (f_row (a_F X) 1) u (nI f))) k) ++ (w_F (k_Z M) (A 3) (a_K X) ++ (w_T (k_Z M) (A 4) (t_of (a_tp X) J) ++ (w_SS (k_Z M) A (a_S X))))))) rfl ?_
          refine q_aload_n K 3 dX3_fits_92 rfl ?_
          refine q_get (.ref ((A 2) 0)) K ws_X3 0 rfl rfl 1 (by decide) fl_X3_16 rfl dX3_fits_93 ?_
          refine q_aload_n K 3 dX3_fits_96 rfl ?_
          refine q_get (.ref ((A 0) 1)) K ws_X3 0 rfl rfl 5 (by decide) fl_X3_35 rfl dX3_fits_97 ?_
          refine q_iload_n K 4 dX3_fits_100 rfl ?_
          refine q_aldo (y := (A (5 + y)) 0) K 1 rfl (vp_in_nI (n := y) (N := 4) (by omega) (by omega)) (by rw [nI_clamp (n := y) (by omega)]) dX3_fits_101 ?_
          refine q_perm (ws' := w_G (k_Z M) A (a_kp X) (a_fd X) ++ (w_F (k_Z M) (A 1) (a_F X) ++ (w_F (k_Z M) (A 2) (f_hoursC (f_gm (1 <<< ((nI u) &&& 31))) (f_setrow (a_F X) 1 (upd (f_row (a_F X) 1) u (nI f))) k) ++ (w_F (k_Z M) (A 3) (a_K X) ++ (w_T (k_Z M) (A 4) (t_of (a_tp X) J) ++ (w_S (k_Z M) (A (5 + y)) ((a_S X) y) ++ (w_SR (k_Z M) A (a_S X) y))))))) (List.Perm.append_left _ (List.Perm.append_left _ (List.Perm.append_left _ (List.Perm.append_left _ (List.Perm.append_left _ (k_foc (by omega))))))) ?_
          refine q_perm (ws' := w_G (k_Z M) A (a_kp X) (a_fd X) ++ (w_F (k_Z M) (A 1) (a_F X) ++ (w_F (k_Z M) (A 2) (f_hoursC (f_gm (1 <<< ((nI u) &&& 31))) (f_setrow (a_F X) 1 (upd (f_row (a_F X) 1) u (nI f))) k) ++ (w_F (k_Z M) (A 3) (a_K X) ++ (w_S (k_Z M) (A (5 + y)) ((a_S X) y) ++ (w_T (k_Z M) (A 4) (t_of (a_tp X) J) ++ (w_SR (k_Z M) A (a_S X) y))))))) (List.Perm.append_left _ (List.Perm.append_left _ (List.Perm.append_left _ (List.Perm.append_left _ (k_sw _ _ _))))) ?_
          refine q_perm (ws' := w_G (k_Z M) A (a_kp X) (a_fd X) ++ (w_F (k_Z M) (A 1) (a_F X) ++ (w_F (k_Z M) (A 2) (f_hoursC (f_gm (1 <<< ((nI u) &&& 31))) (f_setrow (a_F X) 1 (upd (f_row (a_F X) 1) u (nI f))) k) ++ (w_S (k_Z M) (A (5 + y)) ((a_S X) y) ++ (w_F (k_Z M) (A 3) (a_K X) ++ (w_T (k_Z M) (A 4) (t_of (a_tp X) J) ++ (w_SR (k_Z M) A (a_S X) y))))))) (List.Perm.append_left _ (List.Perm.append_left _ (List.Perm.append_left _ (k_sw _ _ _)))) ?_
          refine q_cvI (q0 := 0) (As := [.ref ((A (5 + y)) 0)]) (rest := []) K kv_X0_standsAsTold (c_X0_standsAsTold (k_l M) (k_Z M) (A 2) (A (5 + y)) (f_hoursC (f_gm (1 <<< ((nI u) &&& 31))) (f_setrow (a_F X) 1 (upd (f_row (a_F X) 1) u (nI f))) k) ((a_S X) y) z hz ez) (w_G (k_Z M) A (a_kp X) (a_fd X) ++ (w_F (k_Z M) (A 1) (a_F X))) (w_F (k_Z M) (A 3) (a_K X) ++ (w_T (k_Z M) (A 4) (t_of (a_tp X) J) ++ (w_SR (k_Z M) A (a_S X) y))) rfl rfl rfl ml_X3_156 rfl rfl (Nat.le_of_ble_eq_true rfl) ⟨Nat.le_of_ble_eq_true rfl, Nat.le_of_ble_eq_true rfl⟩ dX3_fits_102 (fun r_24 w2 h_23 => ?_)
          obtain ⟨e_r_24, rfl⟩ := h_23
          refine q_ws (ws' := w_G (k_Z M) A (a_kp X) (a_fd X) ++ (w_F (k_Z M) (A 1) (a_F X) ++ (w_F (k_Z M) (A 2) (f_hoursC (f_gm (1 <<< ((nI u) &&& 31))) (f_setrow (a_F X) 1 (upd (f_row (a_F X) 1) u (nI f))) k) ++ (w_S (k_Z M) (A (5 + y)) ((a_S X) y) ++ (w_F (k_Z M) (A 3) (a_K X) ++ (w_T (k_Z M) (A 4) (t_of (a_tp X) J) ++ (w_SR (k_Z M) A (a_S X) y))))))) rfl ?_
          refine q_perm (ws' := w_G (k_Z M) A (a_kp X) (a_fd X) ++ (w_F (k_Z M) (A 1) (a_F X) ++ (w_F (k_Z M) (A 2) (f_hoursC (f_gm (1 <<< ((nI u) &&& 31))) (f_setrow (a_F X) 1 (upd (f_row (a_F X) 1) u (nI f))) k) ++ (w_F (k_Z M) (A 3) (a_K X) ++ (w_S (k_Z M) (A (5 + y)) ((a_S X) y) ++ (w_T (k_Z M) (A 4) (t_of (a_tp X) J) ++ (w_SR (k_Z M) A (a_S X) y))))))) (List.Perm.append_left _ (List.Perm.append_left _ (List.Perm.append_left _ (k_sw _ _ _)))) ?_
          refine q_perm (ws' := w_G (k_Z M) A (a_kp X) (a_fd X) ++ (w_F (k_Z M) (A 1) (a_F X) ++ (w_F (k_Z M) (A 2) (f_hoursC (f_gm (1 <<< ((nI u) &&& 31))) (f_setrow (a_F X) 1 (upd (f_row (a_F X) 1) u (nI f))) k) ++ (w_F (k_Z M) (A 3) (a_K X) ++ (w_T (k_Z M) (A 4) (t_of (a_tp X) J) ++ (w_S (k_Z M) (A (5 + y)) ((a_S X) y) ++ (w_SR (k_Z M) A (a_S X) y))))))) (List.Perm.append_left _ (List.Perm.append_left _ (List.Perm.append_left _ (List.Perm.append_left _ (k_sw _ _ _))))) ?_
          have e_r_24 : r_24 = if p_told X y (f_hoursC (f_gm (1 <<< ((nI u) &&& 31))) (f_setrow (a_F X) 1 (upd (f_row (a_F X) 1) u (nI f))) k) = true then 1 else 0 := by rw [p_told, a_szz hz ez]; exact e_r_24
          refine q_if_eq 117 K dX3_fits_105 (by decide) (fun c_25 => ?_) (fun c_25 => ?_)
          · have c_25 : ¬ (p_told X y (f_hoursC (f_gm (1 <<< ((nI u) &&& 31))) (f_setrow (a_F X) 1 (upd (f_row (a_F X) 1) u (nI f))) k) = true) := (kn_eq e_r_24).mp c_25
            refine q_iinc (nI (f + 1)) (lv' := [(6, .int (nI (f + 1))), (5, .int (f_fits X y u k f)), (4, .int (-1)), (0, .ref ((A 0) 0)), (1, .int (nI y)), (2, .int (nI u)), (3, .int (nI k))]) K 0 dX3_fits_117 rfl (kn_inc f) (by decide) rfl ?_
            refine q_goto 50 K dX3_fits_120 (by decide) ?_
            refine q_perm (ws' := w_G (k_Z M) A (a_kp X) (a_fd X) ++ (w_F (k_Z M) (A 1) (a_F X) ++ (w_F (k_Z M) (A 2) (f_hoursC (f_gm (1 <<< ((nI u) &&& 31))) (f_setrow (a_F X) 1 (upd (f_row (a_F X) 1) u (nI f))) k) ++ (w_F (k_Z M) (A 3) (a_K X) ++ (w_T (k_Z M) (A 4) (t_of (a_tp X) J) ++ (w_SS (k_Z M) A (a_S X))))))) (List.Perm.append_left _ (List.Perm.append_left _ (List.Perm.append_left _ (List.Perm.append_left _ (List.Perm.append_left _ (k_foc (by omega)).symm))))) ?_
            rw [show f_fits X y u k f = f_fits X y u k (f + 1) by simp only [f_fits, if_neg c_25]]
            exact ih_18 (n_16 - 1) (f + 1, f_hoursC (f_gm (1 <<< ((nI u) &&& 31))) (f_setrow (a_F X) 1 (upd (f_row (a_F X) 1) u (nI f))) k) (by omega) (by show f + 1 + (n_16 - 1) = 9; omega)
          · have c_25 : p_told X y (f_hoursC (f_gm (1 <<< ((nI u) &&& 31))) (f_setrow (a_F X) 1 (upd (f_row (a_F X) 1) u (nI f))) k) = true := (kn_ne e_r_24).mp c_25
            refine q_iload K 1 dX3_fits_108 rfl ?_
            refine q_iconst 1 K dX3_fits_110 rfl ?_
            refine q_iload K 0 dX3_fits_111 rfl ?_
            refine q_ishl K dX3_fits_113 ?_
            refine q_ior K dX3_fits_114 ?_
            refine q_istore (lv' := [(5, .int ((f_fits X y u k f) ||| (1 <<< ((nI f) &&& 31)))), (6, .int (nI f)), (4, .int (-1)), (0, .ref ((A 0) 0)), (1, .int (nI y)), (2, .int (nI u)), (3, .int (nI k))]) K dX3_fits_115 (by decide) rfl ?_
            refine q_iinc (nI (f + 1)) (lv' := [(6, .int (nI (f + 1))), (5, .int ((f_fits X y u k f) ||| (1 <<< ((nI f) &&& 31)))), (4, .int (-1)), (0, .ref ((A 0) 0)), (1, .int (nI y)), (2, .int (nI u)), (3, .int (nI k))]) K 1 dX3_fits_117 rfl (kn_inc f) (by decide) rfl ?_
            refine q_goto 50 K dX3_fits_120 (by decide) ?_
            refine q_perm (ws' := w_G (k_Z M) A (a_kp X) (a_fd X) ++ (w_F (k_Z M) (A 1) (a_F X) ++ (w_F (k_Z M) (A 2) (f_hoursC (f_gm (1 <<< ((nI u) &&& 31))) (f_setrow (a_F X) 1 (upd (f_row (a_F X) 1) u (nI f))) k) ++ (w_F (k_Z M) (A 3) (a_K X) ++ (w_T (k_Z M) (A 4) (t_of (a_tp X) J) ++ (w_SS (k_Z M) A (a_S X))))))) (List.Perm.append_left _ (List.Perm.append_left _ (List.Perm.append_left _ (List.Perm.append_left _ (List.Perm.append_left _ (k_foc (by omega)).symm))))) ?_
            rw [show (f_fits X y u k f) ||| (1 <<< ((nI f) &&& 31)) = f_fits X y u k (f + 1) by simp only [f_fits, if_pos c_25]]
            exact ih_18 (n_16 - 1) (f + 1, f_hoursC (f_gm (1 <<< ((nI u) &&& 31))) (f_setrow (a_F X) 1 (upd (f_row (a_F X) 1) u (nI f))) k) (by omega) (by show f + 1 + (n_16 - 1) = 9; omega)
      · have c_15 : ¬ (inR n 0 20) := (kn_eq e_r_14).mp c_15
        refine q_aload_n K 1 dX3_fits_38 rfl ?_
        refine q_iconst 0 K dX3_fits_39 rfl ?_
        refine q_wI (q0 := 0) (As := [.int 0]) (rest := []) K kv_X3_finding (c_X3_finding (k_l M) (k_Z M) A X T J 0 (by omega)) rfl rfl ml_X3_52 rfl rfl (Nat.le_of_ble_eq_true rfl) ⟨Nat.le_of_ble_eq_true rfl, Nat.le_of_ble_eq_true rfl⟩ dX3_fits_40 (fun r_27 w2 h_26 => ?_)
        obtain ⟨e_r_27, rfl⟩ := h_26
        refine q_eqi (r_fin 0) e_r_27 ?_
        refine q_ws (ws' := w_G (k_Z M) A (a_kp X) (fd_up (a_fd X) 0) ++ (w_F (k_Z M) (A 1) (a_F X) ++ (w_F (k_Z M) (A 2) T ++ (w_F (k_Z M) (A 3) (a_K X) ++ (w_T (k_Z M) (A 4) (t_of (a_tp X) J) ++ (w_SS (k_Z M) A (a_S X))))))) rfl ?_
        exact Rt _ _ (r_fin 0) (w_G (k_Z M) A (a_kp X) (fd_up (a_fd X) 0) ++ (w_F (k_Z M) (A 1) (a_F X) ++ (w_F (k_Z M) (A 2) T ++ (w_F (k_Z M) (A 3) (a_K X) ++ (w_T (k_Z M) (A 4) (t_of (a_tp X) J) ++ (w_SS (k_Z M) A (a_S X))))))) dX3_fits_43 rfl (⟨T, J, by simp only [o_fits, o_with, a_fin, if_pos c_3, if_neg c_4, if_pos c_11, if_neg c_15, nI_clamp (n := y) (by omega), nI_clamp (n := u) (by omega)] <;> rfl, by simp only [o_fits, o_with, a_fin, if_pos c_3, if_neg c_4, if_pos c_11, if_neg c_15, nI_clamp (n := y) (by omega), nI_clamp (n := u) (by omega)] <;> rfl⟩)
theorem kv_X3_fits : k_iv yX3_fits cX3_fits 7 (some .int) 3 := ⟨⟨im_X3_fits, se_X3_fits⟩, in_X3, co_X3_fits, by decide +kernel⟩
set_option maxHeartbeats 4000000 in
set_option maxRecDepth 100000 in
theorem c_X3_feelsAsTold (l : Launch) (Z : kz_Z) (A : Nat → Nat → Nat) (X : AS) (T : FS) (J : TJ) (m : Nat) (hm : m ≤ 8) (hm2 : f_wk (a_F X) = nI m) (hmT : f_wk T = nI m) (y : Nat) (hy : y < 4) (z : Nat) (hz : z ≤ 40) (ez : s_sz (a_S X y) = nI z) (w : Nat) (hw : w < 8) : KI l Z yX3_feelsAsTold cX3_feelsAsTold 5 .boolean 5 110 [.ref ((A 0) 0), .ref ((A (5 + y)) 0), .int (nI w)] (w_G Z A (a_kp X) (a_fd X) ++ (w_F Z (A 1) (a_F X) ++ (w_F Z (A 2) T ++ (w_F Z (A 3) (a_K X) ++ (w_T Z (A 4) (t_of (a_tp X) J) ++ (w_SS Z A (a_S X))))))) (fun r w2 => ∃ T2, (r = if o_find (p_mood (s_nm (a_S X y)) T w) z 0 = z then 1 else 0) ∧ w2 = w_C Z A X T2 J) := by
  refine ki_of (by decide) [(0, .ref ((A 0) 0)), (1, .ref ((A (5 + y)) 0)), (2, .int (nI w))] (Nat.le_of_ble_eq_true rfl) rfl ?_
  intro M e1 e2 K Rt
  subst e1 e2
  refine q_iconst 0 K dX3_feelsAsTold_0 rfl ?_
  refine q_istore_n (lv' := [(3, .int 0), (0, .ref ((A 0) 0)), (1, .ref ((A (5 + y)) 0)), (2, .int (nI w))]) K dX3_feelsAsTold_1 (by decide) rfl ?_
  refine q_lv [0, 1, 2, 3] rfl ?_
  refine q_loop (α := Nat) (fun n9 i => (i + n9 = z) ∧ o_find (p_mood (s_nm (a_S X y)) T w) z 0 = o_find (p_mood (s_nm (a_S X y)) T w) n9 i) 2 (fun i => [(3, .int (nI i)), (0, .ref ((A 0) 0)), (1, .ref ((A (5 + y)) 0)), (2, .int (nI w))]) (fun i => w_G (k_Z M) A (a_kp X) (a_fd X) ++ (w_F (k_Z M) (A 1) (a_F X) ++ (w_F (k_Z M) (A 2) (f_hoursC goA T (i - 1)) ++ (w_F (k_Z M) (A 3) (a_K X) ++ (w_T (k_Z M) (A 4) (t_of (a_tp X) J) ++ (w_SS (k_Z M) A (a_S X))))))) (fun n_1 i hI_2 ih_3 => ?_) z 0 ⟨by omega, rfl⟩
  obtain ⟨hI, hF⟩ := hI_2
  refine q_iload_n K 0 dX3_feelsAsTold_2 rfl ?_
  refine q_aload_n K 2 dX3_feelsAsTold_3 rfl ?_
  refine q_perm (ws' := w_G (k_Z M) A (a_kp X) (a_fd X) ++ (w_F (k_Z M) (A 1) (a_F X) ++ (w_F (k_Z M) (A 2) (f_hoursC goA T (i - 1)) ++ (w_F (k_Z M) (A 3) (a_K X) ++ (w_T (k_Z M) (A 4) (t_of (a_tp X) J) ++ (w_S (k_Z M) (A (5 + y)) ((a_S X) y) ++ (w_SR (k_Z M) A (a_S X) y))))))) (List.Perm.append_left _ (List.Perm.append_left _ (List.Perm.append_left _ (List.Perm.append_left _ (List.Perm.append_left _ (k_foc (by omega))))))) ?_
  refine q_get (.int (s_sz ((a_S X) y))) K ws_X1 39 rfl rfl 2 (by decide) fl_X3_203 rfl dX3_feelsAsTold_4 ?_
  refine q_eqi (nI z) ez ?_
  refine q_icmp_ge 63 K dX3_feelsAsTold_7 (by decide) (fun c_4 => ?_) (fun c_4 => ?_)
  · have c_4n : z ≤ i := (nI_leI (a := z) (b := i) (by omega) (by omega)).mp c_4
    refine q_iconst 1 K dX3_feelsAsTold_63 rfl ?_
    refine q_perm (ws' := w_G (k_Z M) A (a_kp X) (a_fd X) ++ (w_F (k_Z M) (A 1) (a_F X) ++ (w_F (k_Z M) (A 2) (f_hoursC goA T (i - 1)) ++ (w_F (k_Z M) (A 3) (a_K X) ++ (w_T (k_Z M) (A 4) (t_of (a_tp X) J) ++ (w_SS (k_Z M) A (a_S X))))))) (List.Perm.append_left _ (List.Perm.append_left _ (List.Perm.append_left _ (List.Perm.append_left _ (List.Perm.append_left _ (k_foc (by omega)).symm))))) ?_
    exact Rt _ _ 1 (w_G (k_Z M) A (a_kp X) (a_fd X) ++ (w_F (k_Z M) (A 1) (a_F X) ++ (w_F (k_Z M) (A 2) (f_hoursC goA T (i - 1)) ++ (w_F (k_Z M) (A 3) (a_K X) ++ (w_T (k_Z M) (A 4) (t_of (a_tp X) J) ++ (w_SS (k_Z M) A (a_S X))))))) dX3_feelsAsTold_64 rfl (⟨f_hoursC goA T (i - 1), (if_pos (show o_find (p_mood (s_nm (a_S X y)) T w) z 0 = z by rw [hF, show n_1 = 0 by omega, o_find]; omega)).symm, rfl⟩)
  · have c_4n : ¬ (z ≤ i) := fun h9 => c_4 ((nI_leI (a := z) (b := i) (by omega) (by omega)).mpr h9)
    refine q_iload_n K 0 dX3_feelsAsTold_10 rfl ?_
    refine q_if_le 25 K dX3_feelsAsTold_11 (by decide) (fun c_5 => ?_) (fun c_5 => ?_)
    · have c_5n : i ≤ 0 := (nI_leI (a := i) (b := 0) (by omega) (by omega)).mp c_5
      have hi0 : i = 0 := by omega
      refine q_ws (ws' := w_G (k_Z M) A (a_kp X) (a_fd X) ++ (w_F (k_Z M) (A 1) (a_F X) ++ (w_F (k_Z M) (A 2) (f_hoursC goA T i) ++ (w_F (k_Z M) (A 3) (a_K X) ++ (w_T (k_Z M) (A 4) (t_of (a_tp X) J) ++ (w_S (k_Z M) (A (5 + y)) ((a_S X) y) ++ (w_SR (k_Z M) A (a_S X) y))))))) (by rw [hi0]) ?_
      refine q_aload_n K 2 dX3_feelsAsTold_25 rfl ?_
      refine q_get (.ref ((A (5 + y)) 1)) K ws_X1 39 rfl rfl 0 (by decide) fl_X3_216 rfl dX3_feelsAsTold_26 ?_
      refine q_iload_n K 0 dX3_feelsAsTold_29 rfl ?_
      refine q_iald K 40 rfl (vp_in_nI (n := i) (N := 40) (by omega) (by omega)) dX3_feelsAsTold_30 ?_
      refine q_eqi ((s_nm ((a_S X) y)) i) (by rw [nI_clamp (n := i) (by omega)]) ?_
      refine q_istore (lv' := [(4, .int ((s_nm ((a_S X) y)) i)), (3, .int (nI i)), (0, .ref ((A 0) 0)), (1, .ref ((A (5 + y)) 0)), (2, .int (nI w))]) K dX3_feelsAsTold_31 (by decide) rfl ?_
      refine q_iload K 0 dX3_feelsAsTold_33 rfl ?_
      refine q_iconst (-1) K dX3_feelsAsTold_35 rfl ?_
      refine q_icmp_eq 57 K dX3_feelsAsTold_36 (by decide) (fun c_6 => ?_) (fun c_6 => ?_)
      · refine q_iinc (nI (i + 1)) (lv' := [(3, .int (nI (i + 1))), (4, .int ((s_nm ((a_S X) y)) i)), (0, .ref ((A 0) 0)), (1, .ref ((A (5 + y)) 0)), (2, .int (nI w))]) K 1 dX3_feelsAsTold_57 rfl (kn_inc i) (by decide) rfl ?_
        refine q_goto 2 K dX3_feelsAsTold_60 (by decide) ?_
        refine q_perm (ws' := w_G (k_Z M) A (a_kp X) (a_fd X) ++ (w_F (k_Z M) (A 1) (a_F X) ++ (w_F (k_Z M) (A 2) (f_hoursC goA T i) ++ (w_F (k_Z M) (A 3) (a_K X) ++ (w_T (k_Z M) (A 4) (t_of (a_tp X) J) ++ (w_SS (k_Z M) A (a_S X))))))) (List.Perm.append_left _ (List.Perm.append_left _ (List.Perm.append_left _ (List.Perm.append_left _ (List.Perm.append_left _ (k_foc (by omega)).symm))))) ?_
        refine q_lv [0, 2, 3, 4] rfl ?_
        exact ih_3 (n_1 - 1) (i + 1) (by omega) ⟨by omega, by rw [hF, show n_1 = (n_1 - 1) + 1 by omega, o_find, if_neg (by rw [p_mood, decide_eq_true (p := s_nm (a_S X y) i = -1) c_6]; simp)]; rfl⟩
      · refine q_iload K 0 dX3_feelsAsTold_39 rfl ?_
        refine q_aload_n K 2 dX3_feelsAsTold_41 rfl ?_
        refine q_get (.ref ((A 2) 0)) K ws_X3 0 rfl rfl 1 (by decide) fl_X3_16 rfl dX3_feelsAsTold_42 ?_
        refine q_get (.ref ((A 2) 3)) K ws_X0 13 rfl rfl 2 (by decide) fl_X3_91 rfl dX3_feelsAsTold_45 ?_
        refine q_iconst 3 K dX3_feelsAsTold_48 rfl ?_
        refine q_aldg (y := (A 2) 8) K 16 rfl (vp_in_nI (n := 3) (N := 5) (by omega) (by omega)) rfl dX3_feelsAsTold_49 ?_
        refine q_iload_n K 4 dX3_feelsAsTold_50 rfl ?_
        refine q_iald K 21 rfl (vp_in_nI (n := w) (N := 8) (by omega) (by omega)) dX3_feelsAsTold_51 ?_
        refine q_eqi ((f_md (f_hoursC goA T i)) w) (by rw [nI_clamp (n := w) (by omega)]) ?_
        refine q_icmp_eq 57 K dX3_feelsAsTold_52 (by decide) (fun c_7 => ?_) (fun c_7 => ?_)
        · refine q_iinc (nI (i + 1)) (lv' := [(3, .int (nI (i + 1))), (4, .int ((s_nm ((a_S X) y)) i)), (0, .ref ((A 0) 0)), (1, .ref ((A (5 + y)) 0)), (2, .int (nI w))]) K 1 dX3_feelsAsTold_57 rfl (kn_inc i) (by decide) rfl ?_
          refine q_goto 2 K dX3_feelsAsTold_60 (by decide) ?_
          refine q_perm (ws' := w_G (k_Z M) A (a_kp X) (a_fd X) ++ (w_F (k_Z M) (A 1) (a_F X) ++ (w_F (k_Z M) (A 2) (f_hoursC goA T i) ++ (w_F (k_Z M) (A 3) (a_K X) ++ (w_T (k_Z M) (A 4) (t_of (a_tp X) J) ++ (w_SS (k_Z M) A (a_S X))))))) (List.Perm.append_left _ (List.Perm.append_left _ (List.Perm.append_left _ (List.Perm.append_left _ (List.Perm.append_left _ (k_foc (by omega)).symm))))) ?_
          refine q_lv [0, 2, 3, 4] rfl ?_
          exact ih_3 (n_1 - 1) (i + 1) (by omega) ⟨by omega, by rw [hF, show n_1 = (n_1 - 1) + 1 by omega, o_find, if_neg (by rw [p_mood, decide_eq_true (p := s_nm (a_S X y) i = f_md (f_hoursC goA T i) w) c_7]; simp)]; rfl⟩
        · refine q_iconst 0 K dX3_feelsAsTold_55 rfl ?_
          refine q_perm (ws' := w_G (k_Z M) A (a_kp X) (a_fd X) ++ (w_F (k_Z M) (A 1) (a_F X) ++ (w_F (k_Z M) (A 2) (f_hoursC goA T i) ++ (w_F (k_Z M) (A 3) (a_K X) ++ (w_T (k_Z M) (A 4) (t_of (a_tp X) J) ++ (w_SS (k_Z M) A (a_S X))))))) (List.Perm.append_left _ (List.Perm.append_left _ (List.Perm.append_left _ (List.Perm.append_left _ (List.Perm.append_left _ (k_foc (by omega)).symm))))) ?_
          exact Rt _ _ 0 (w_G (k_Z M) A (a_kp X) (a_fd X) ++ (w_F (k_Z M) (A 1) (a_F X) ++ (w_F (k_Z M) (A 2) (f_hoursC goA T i) ++ (w_F (k_Z M) (A 3) (a_K X) ++ (w_T (k_Z M) (A 4) (t_of (a_tp X) J) ++ (w_SS (k_Z M) A (a_S X))))))) dX3_feelsAsTold_56 rfl (⟨f_hoursC goA T i, (if_neg (by rw [(show o_find (p_mood (s_nm (a_S X y)) T w) z 0 = i by rw [hF, show n_1 = (n_1 - 1) + 1 by omega, o_find, if_pos (by rw [p_mood, decide_eq_false c_6, decide_eq_false c_7]; rfl)])]; omega)).symm, rfl⟩)
    · have c_5n : ¬ (i ≤ 0) := fun h9 => c_5 ((nI_leI (a := i) (b := 0) (by omega) (by omega)).mpr h9)
      refine q_aload_n K 1 dX3_feelsAsTold_14 rfl ?_
      refine q_get (.ref ((A 2) 0)) K ws_X3 0 rfl rfl 1 (by decide) fl_X3_16 rfl dX3_feelsAsTold_15 ?_
      refine q_iconst 1 K dX3_feelsAsTold_18 rfl ?_
      refine q_sipush 255 K dX3_feelsAsTold_19 rfl ?_
      refine q_cvV (q0 := 0) (As := [.int 1, .int 255]) (rest := []) K kv_X0_passHours (c_X0_passHours (k_l M) (k_Z M) (A 2) (f_hoursC goA T (i - 1)) m hm (by rw [f_hoursC_wk]; exact hmT) 1 (by omega) 255) (w_G (k_Z M) A (a_kp X) (a_fd X) ++ (w_F (k_Z M) (A 1) (a_F X))) (w_F (k_Z M) (A 3) (a_K X) ++ (w_T (k_Z M) (A 4) (t_of (a_tp X) J) ++ (w_S (k_Z M) (A (5 + y)) ((a_S X) y) ++ (w_SR (k_Z M) A (a_S X) y)))) rfl rfl rfl ml_X3_108 rfl rfl (Nat.le_of_ble_eq_true rfl) ⟨Nat.le_of_ble_eq_true rfl, Nat.le_of_ble_eq_true rfl⟩ dX3_feelsAsTold_22 (fun w2 h_8 => ?_)
      obtain rfl := h_8
      refine q_ws (ws' := w_G (k_Z M) A (a_kp X) (a_fd X) ++ (w_F (k_Z M) (A 1) (a_F X) ++ (w_F (k_Z M) (A 2) (f_hoursC (f_gm 255) (f_hoursC goA T (i - 1)) 1) ++ (w_F (k_Z M) (A 3) (a_K X) ++ (w_T (k_Z M) (A 4) (t_of (a_tp X) J) ++ (w_S (k_Z M) (A (5 + y)) ((a_S X) y) ++ (w_SR (k_Z M) A (a_S X) y))))))) rfl ?_
      refine q_ws (ws' := w_G (k_Z M) A (a_kp X) (a_fd X) ++ (w_F (k_Z M) (A 1) (a_F X) ++ (w_F (k_Z M) (A 2) (f_hoursC goA T i) ++ (w_F (k_Z M) (A 3) (a_K X) ++ (w_T (k_Z M) (A 4) (t_of (a_tp X) J) ++ (w_S (k_Z M) (A (5 + y)) ((a_S X) y) ++ (w_SR (k_Z M) A (a_S X) y))))))) (by rw [show i = (i - 1) + 1 by omega]; rfl) ?_
      refine q_aload_n K 2 dX3_feelsAsTold_25 rfl ?_
      refine q_get (.ref ((A (5 + y)) 1)) K ws_X1 39 rfl rfl 0 (by decide) fl_X3_216 rfl dX3_feelsAsTold_26 ?_
      refine q_iload_n K 0 dX3_feelsAsTold_29 rfl ?_
      refine q_iald K 40 rfl (vp_in_nI (n := i) (N := 40) (by omega) (by omega)) dX3_feelsAsTold_30 ?_
      refine q_eqi ((s_nm ((a_S X) y)) i) (by rw [nI_clamp (n := i) (by omega)]) ?_
      refine q_istore (lv' := [(4, .int ((s_nm ((a_S X) y)) i)), (3, .int (nI i)), (0, .ref ((A 0) 0)), (1, .ref ((A (5 + y)) 0)), (2, .int (nI w))]) K dX3_feelsAsTold_31 (by decide) rfl ?_
      refine q_iload K 0 dX3_feelsAsTold_33 rfl ?_
      refine q_iconst (-1) K dX3_feelsAsTold_35 rfl ?_
      refine q_icmp_eq 57 K dX3_feelsAsTold_36 (by decide) (fun c_10 => ?_) (fun c_10 => ?_)
      · refine q_iinc (nI (i + 1)) (lv' := [(3, .int (nI (i + 1))), (4, .int ((s_nm ((a_S X) y)) i)), (0, .ref ((A 0) 0)), (1, .ref ((A (5 + y)) 0)), (2, .int (nI w))]) K 1 dX3_feelsAsTold_57 rfl (kn_inc i) (by decide) rfl ?_
        refine q_goto 2 K dX3_feelsAsTold_60 (by decide) ?_
        refine q_perm (ws' := w_G (k_Z M) A (a_kp X) (a_fd X) ++ (w_F (k_Z M) (A 1) (a_F X) ++ (w_F (k_Z M) (A 2) (f_hoursC goA T i) ++ (w_F (k_Z M) (A 3) (a_K X) ++ (w_T (k_Z M) (A 4) (t_of (a_tp X) J) ++ (w_SS (k_Z M) A (a_S X))))))) (List.Perm.append_left _ (List.Perm.append_left _ (List.Perm.append_left _ (List.Perm.append_left _ (List.Perm.append_left _ (k_foc (by omega)).symm))))) ?_
        refine q_lv [0, 2, 3, 4] rfl ?_
        exact ih_3 (n_1 - 1) (i + 1) (by omega) ⟨by omega, by rw [hF, show n_1 = (n_1 - 1) + 1 by omega, o_find, if_neg (by rw [p_mood, decide_eq_true (p := s_nm (a_S X y) i = -1) c_10]; simp)]; rfl⟩
      · refine q_iload K 0 dX3_feelsAsTold_39 rfl ?_
        refine q_aload_n K 2 dX3_feelsAsTold_41 rfl ?_
        refine q_get (.ref ((A 2) 0)) K ws_X3 0 rfl rfl 1 (by decide) fl_X3_16 rfl dX3_feelsAsTold_42 ?_
        refine q_get (.ref ((A 2) 3)) K ws_X0 13 rfl rfl 2 (by decide) fl_X3_91 rfl dX3_feelsAsTold_45 ?_
        refine q_iconst 3 K dX3_feelsAsTold_48 rfl ?_
        refine q_aldg (y := (A 2) 8) K 16 rfl (vp_in_nI (n := 3) (N := 5) (by omega) (by omega)) rfl dX3_feelsAsTold_49 ?_
        refine q_iload_n K 4 dX3_feelsAsTold_50 rfl ?_
        refine q_iald K 21 rfl (vp_in_nI (n := w) (N := 8) (by omega) (by omega)) dX3_feelsAsTold_51 ?_
        refine q_eqi ((f_md (f_hoursC goA T i)) w) (by rw [nI_clamp (n := w) (by omega)]) ?_
        refine q_icmp_eq 57 K dX3_feelsAsTold_52 (by decide) (fun c_11 => ?_) (fun c_11 => ?_)
        · refine q_iinc (nI (i + 1)) (lv' := [(3, .int (nI (i + 1))), (4, .int ((s_nm ((a_S X) y)) i)), (0, .ref ((A 0) 0)), (1, .ref ((A (5 + y)) 0)), (2, .int (nI w))]) K 1 dX3_feelsAsTold_57 rfl (kn_inc i) (by decide) rfl ?_
          refine q_goto 2 K dX3_feelsAsTold_60 (by decide) ?_
          refine q_perm (ws' := w_G (k_Z M) A (a_kp X) (a_fd X) ++ (w_F (k_Z M) (A 1) (a_F X) ++ (w_F (k_Z M) (A 2) (f_hoursC goA T i) ++ (w_F (k_Z M) (A 3) (a_K X) ++ (w_T (k_Z M) (A 4) (t_of (a_tp X) J) ++ (w_SS (k_Z M) A (a_S X))))))) (List.Perm.append_left _ (List.Perm.append_left _ (List.Perm.append_left _ (List.Perm.append_left _ (List.Perm.append_left _ (k_foc (by omega)).symm))))) ?_
          refine q_lv [0, 2, 3, 4] rfl ?_
          exact ih_3 (n_1 - 1) (i + 1) (by omega) ⟨by omega, by rw [hF, show n_1 = (n_1 - 1) + 1 by omega, o_find, if_neg (by rw [p_mood, decide_eq_true (p := s_nm (a_S X y) i = f_md (f_hoursC goA T i) w) c_11]; simp)]; rfl⟩
        · refine q_iconst 0 K dX3_feelsAsTold_55 rfl ?_
          refine q_perm (ws' := w_G (k_Z M) A (a_kp X) (a_fd X) ++ (w_F (k_Z M) (A 1) (a_F X) ++ (w_F (k_Z M) (A 2) (f_hoursC goA T i) ++ (w_F (k_Z M) (A 3) (a_K X) ++ (w_T (k_Z M) (A 4) (t_of (a_tp X) J) ++ (w_SS (k_Z M) A (a_S X))))))) (List.Perm.append_left _ (List.Perm.append_left _ (List.Perm.append_left _ (List.Perm.append_left _ (List.Perm.append_left _ (k_foc (by omega)).symm))))) ?_
          exact Rt _ _ 0 (w_G (k_Z M) A (a_kp X) (a_fd X) ++ (w_F (k_Z M) (A 1) (a_F X) ++ (w_F (k_Z M) (A 2) (f_hoursC goA T i) ++ (w_F (k_Z M) (A 3) (a_K X) ++ (w_T (k_Z M) (A 4) (t_of (a_tp X) J) ++ (w_SS (k_Z M) A (a_S X))))))) dX3_feelsAsTold_56 rfl (⟨f_hoursC goA T i, (if_neg (by rw [(show o_find (p_mood (s_nm (a_S X y)) T w) z 0 = i by rw [hF, show n_1 = (n_1 - 1) + 1 by omega, o_find, if_pos (by rw [p_mood, decide_eq_false c_10, decide_eq_false c_11]; rfl)])]; omega)).symm, rfl⟩)
theorem kv_X3_feelsAsTold : k_iv yX3_feelsAsTold cX3_feelsAsTold 5 (some .boolean) 2 := ⟨⟨im_X3_feelsAsTold, se_X3_feelsAsTold⟩, in_X3, co_X3_feelsAsTold, by decide +kernel⟩
set_option maxHeartbeats 4000000 in
set_option maxRecDepth 100000 in
theorem c_X3_kinds (l : Launch) (Z : kz_Z) (A : Nat → Nat → Nat) (X : AS) (T : FS) (J : TJ) (m : Nat) (hm : m ≤ 8) (hm2 : f_wk (a_F X) = nI m) (hsh : a_shok X) (s w : Int32) : KI l Z yX3_kinds cX3_kinds 6 .int 6 134 [.ref ((A 0) 0), .int s, .int w] (w_G Z A (a_kp X) (a_fd X) ++ (w_F Z (A 1) (a_F X) ++ (w_F Z (A 2) T ++ (w_F Z (A 3) (a_K X) ++ (w_T Z (A 4) (t_of (a_tp X) J) ++ (w_SS Z A (a_S X))))))) (fun r w2 => ∃ T2 J2, r = (o_kinds X s w).1 ∧ w2 = w_C Z A (o_kinds X s w).2 T2 J2) := by
  refine ki_of (by decide) [(0, .ref ((A 0) 0)), (1, .int s), (2, .int w)] (Nat.le_of_ble_eq_true rfl) rfl ?_
  intro M e1 e2 K Rt
  subst e1 e2
  refine q_aload_n K 0 dX3_kinds_0 rfl ?_
  refine q_iload_n K 1 dX3_kinds_1 rfl ?_
  refine q_wI (q0 := 0) (As := [.int s]) (rest := []) K kv_X3_wrongSheet (c_X3_wrongSheet (k_l M) (k_Z M) A X T J s) rfl rfl ml_X3_153 rfl rfl (Nat.le_of_ble_eq_true rfl) ⟨Nat.le_of_ble_eq_true rfl, Nat.le_of_ble_eq_true rfl⟩ dX3_kinds_2 (fun r_2 w2 h_1 => ?_)
  rcases h_1 with ⟨c_3, e_r_2, rfl⟩ | ⟨c_3, c_4, e_r_2, rfl⟩ | ⟨c_3, c_4, e_r_2, rfl⟩
  · refine q_ws (ws' := w_G (k_Z M) A (a_kp X) (a_fd X) ++ (w_F (k_Z M) (A 1) (a_F X) ++ (w_F (k_Z M) (A 2) T ++ (w_F (k_Z M) (A 3) (a_K X) ++ (w_T (k_Z M) (A 4) (t_of (a_tp X) J) ++ (w_SS (k_Z M) A (a_S X))))))) rfl ?_
    refine q_eqi 0 e_r_2 ?_
    refine q_istore_n (lv' := [(3, .int 0), (0, .ref ((A 0) 0)), (1, .int s), (2, .int w)]) K dX3_kinds_5 (by decide) rfl ?_
    refine q_iload_n K 0 dX3_kinds_6 rfl ?_
    refine q_iconst (-1) K dX3_kinds_7 rfl ?_
    refine q_icmp_eq 17 K dX3_kinds_8 (by decide) (fun c_0 => absurd c_0 (by decide)) (fun c_0 => ?_)
    refine q_aload_n K 1 dX3_kinds_11 rfl ?_
    refine q_iload_n K 0 dX3_kinds_12 rfl ?_
    refine q_wI (q0 := 0) (As := [.int 0]) (rest := []) K kv_X3_finding (c_X3_finding (k_l M) (k_Z M) A X T J 0 (by omega)) rfl rfl ml_X3_52 rfl rfl (Nat.le_of_ble_eq_true rfl) ⟨Nat.le_of_ble_eq_true rfl, Nat.le_of_ble_eq_true rfl⟩ dX3_kinds_13 (fun r_6 w2 h_5 => ?_)
    obtain ⟨e_r_6, rfl⟩ := h_5
    refine q_eqi (r_fin 0) e_r_6 ?_
    refine q_ws (ws' := w_G (k_Z M) A (a_kp X) (fd_up (a_fd X) 0) ++ (w_F (k_Z M) (A 1) (a_F X) ++ (w_F (k_Z M) (A 2) T ++ (w_F (k_Z M) (A 3) (a_K X) ++ (w_T (k_Z M) (A 4) (t_of (a_tp X) J) ++ (w_SS (k_Z M) A (a_S X))))))) rfl ?_
    exact Rt _ _ (r_fin 0) (w_G (k_Z M) A (a_kp X) (fd_up (a_fd X) 0) ++ (w_F (k_Z M) (A 1) (a_F X) ++ (w_F (k_Z M) (A 2) T ++ (w_F (k_Z M) (A 3) (a_K X) ++ (w_T (k_Z M) (A 4) (t_of (a_tp X) J) ++ (w_SS (k_Z M) A (a_S X))))))) dX3_kinds_16 rfl (⟨T, J, by simp only [o_kinds, o_with, a_fin, if_neg c_3] <;> rfl, by simp only [o_kinds, o_with, a_fin, if_neg c_3] <;> rfl⟩)
  · refine q_ws (ws' := w_G (k_Z M) A (a_kp X) (a_fd X) ++ (w_F (k_Z M) (A 1) (a_F X) ++ (w_F (k_Z M) (A 2) T ++ (w_F (k_Z M) (A 3) (a_K X) ++ (w_T (k_Z M) (A 4) (t_of (a_tp X) J) ++ (w_SS (k_Z M) A (a_S X))))))) rfl ?_
    refine q_eqi 5 e_r_2 ?_
    refine q_istore_n (lv' := [(3, .int 5), (0, .ref ((A 0) 0)), (1, .int s), (2, .int w)]) K dX3_kinds_5 (by decide) rfl ?_
    refine q_iload_n K 0 dX3_kinds_6 rfl ?_
    refine q_iconst (-1) K dX3_kinds_7 rfl ?_
    refine q_icmp_eq 17 K dX3_kinds_8 (by decide) (fun c_0 => absurd c_0 (by decide)) (fun c_0 => ?_)
    refine q_aload_n K 1 dX3_kinds_11 rfl ?_
    refine q_iload_n K 0 dX3_kinds_12 rfl ?_
    refine q_wI (q0 := 0) (As := [.int 5]) (rest := []) K kv_X3_finding (c_X3_finding (k_l M) (k_Z M) A X T J 5 (by omega)) rfl rfl ml_X3_52 rfl rfl (Nat.le_of_ble_eq_true rfl) ⟨Nat.le_of_ble_eq_true rfl, Nat.le_of_ble_eq_true rfl⟩ dX3_kinds_13 (fun r_8 w2 h_7 => ?_)
    obtain ⟨e_r_8, rfl⟩ := h_7
    refine q_eqi (r_fin 5) e_r_8 ?_
    refine q_ws (ws' := w_G (k_Z M) A (a_kp X) (fd_up (a_fd X) 5) ++ (w_F (k_Z M) (A 1) (a_F X) ++ (w_F (k_Z M) (A 2) T ++ (w_F (k_Z M) (A 3) (a_K X) ++ (w_T (k_Z M) (A 4) (t_of (a_tp X) J) ++ (w_SS (k_Z M) A (a_S X))))))) rfl ?_
    exact Rt _ _ (r_fin 5) (w_G (k_Z M) A (a_kp X) (fd_up (a_fd X) 5) ++ (w_F (k_Z M) (A 1) (a_F X) ++ (w_F (k_Z M) (A 2) T ++ (w_F (k_Z M) (A 3) (a_K X) ++ (w_T (k_Z M) (A 4) (t_of (a_tp X) J) ++ (w_SS (k_Z M) A (a_S X))))))) dX3_kinds_16 rfl (⟨T, J, by simp only [o_kinds, o_with, a_fin, if_pos c_3, if_pos c_4] <;> rfl, by simp only [o_kinds, o_with, a_fin, if_pos c_3, if_pos c_4] <;> rfl⟩)
  · refine q_ws (ws' := w_G (k_Z M) A (a_kp X) (a_fd X) ++ (w_F (k_Z M) (A 1) (a_F X) ++ (w_F (k_Z M) (A 2) T ++ (w_F (k_Z M) (A 3) (a_K X) ++ (w_T (k_Z M) (A 4) (t_of (a_tp X) J) ++ (w_SS (k_Z M) A (a_S X))))))) rfl ?_
    refine q_eqi (-1) e_r_2 ?_
    obtain ⟨y, h_y, e_y⟩ := kn_rng (n := 3) c_3 rfl
    subst e_y
    obtain ⟨z, hz, ez⟩ := hsh y (by omega)
    refine q_istore_n (lv' := [(3, .int (-1)), (0, .ref ((A 0) 0)), (1, .int (nI y)), (2, .int w)]) K dX3_kinds_5 (by decide) rfl ?_
    refine q_iload_n K 0 dX3_kinds_6 rfl ?_
    refine q_iconst (-1) K dX3_kinds_7 rfl ?_
    refine q_icmp_eq 17 K dX3_kinds_8 (by decide) (fun c_0 => ?_) (fun c_0 => absurd c_0 (by decide))
    refine q_aload_n K 1 dX3_kinds_17 rfl ?_
    refine q_iload_n K 3 dX3_kinds_18 rfl ?_
    refine q_wI (q0 := 0) (As := [.int w]) (rest := []) K kv_X3_isWalker (c_X3_isWalker (k_l M) (k_Z M) A X T J w) rfl rfl ml_X3_85 rfl rfl (Nat.le_of_ble_eq_true rfl) ⟨Nat.le_of_ble_eq_true rfl, Nat.le_of_ble_eq_true rfl⟩ dX3_kinds_19 (fun r_10 w2 h_9 => ?_)
    obtain ⟨e_r_10, rfl⟩ := h_9
    refine q_ws (ws' := w_G (k_Z M) A (a_kp X) (a_fd X) ++ (w_F (k_Z M) (A 1) (a_F X) ++ (w_F (k_Z M) (A 2) T ++ (w_F (k_Z M) (A 3) (a_K X) ++ (w_T (k_Z M) (A 4) (t_of (a_tp X) J) ++ (w_SS (k_Z M) A (a_S X))))))) rfl ?_
    refine q_if_ne 31 K dX3_kinds_22 (by decide) (fun c_11 => ?_) (fun c_11 => ?_)
    · have c_11 : isW X w := (kn_ne e_r_10).mp c_11
      obtain ⟨u, h_u, e_u⟩ := isW_nat hm hm2 c_11
      subst e_u
      refine q_iconst 0 K dX3_kinds_31 rfl ?_
      refine q_istore (lv' := [(4, .int 0), (3, .int (-1)), (0, .ref ((A 0) 0)), (1, .int (nI y)), (2, .int (nI u))]) K dX3_kinds_32 (by decide) rfl ?_
      refine q_iconst 0 K dX3_kinds_34 rfl ?_
      refine q_istore (lv' := [(5, .int 0), (4, .int 0), (3, .int (-1)), (0, .ref ((A 0) 0)), (1, .int (nI y)), (2, .int (nI u))]) K dX3_kinds_35 (by decide) rfl ?_
      refine q_loop (α := Nat × FS) (fun n9 x9 => x9.1 + n9 = 7) 37 (fun x9 => [(5, .int (nI x9.1)), (4, .int (f_kinds X y u x9.1)), (3, .int (-1)), (0, .ref ((A 0) 0)), (1, .int (nI y)), (2, .int (nI u))]) (fun x9 => w_G (k_Z M) A (a_kp X) (a_fd X) ++ (w_F (k_Z M) (A 1) (a_F X) ++ (w_F (k_Z M) (A 2) x9.2 ++ (w_F (k_Z M) (A 3) (a_K X) ++ (w_T (k_Z M) (A 4) (t_of (a_tp X) J) ++ (w_SS (k_Z M) A (a_S X))))))) (fun n_12 x9 hI_13 ih_14 => ?_) 7 (0, T) (by show 0 + 7 = 7; omega)
      obtain ⟨f, T1⟩ := x9
      dsimp only at hI_13 ih_14 ⊢
      refine q_iload K 0 dX3_kinds_37 rfl ?_
      refine q_bipush 7 K dX3_kinds_39 rfl ?_
      refine q_icmp_ge 97 K dX3_kinds_41 (by decide) (fun c_15 => ?_) (fun c_15 => ?_)
      · have c_15n : 7 ≤ f := (nI_leI (a := 7) (b := f) (by omega) (by omega)).mp c_15
        refine q_iload K 1 dX3_kinds_97 rfl ?_
        exact Rt _ _ (f_kinds X y u f) (w_G (k_Z M) A (a_kp X) (a_fd X) ++ (w_F (k_Z M) (A 1) (a_F X) ++ (w_F (k_Z M) (A 2) T1 ++ (w_F (k_Z M) (A 3) (a_K X) ++ (w_T (k_Z M) (A 4) (t_of (a_tp X) J) ++ (w_SS (k_Z M) A (a_S X))))))) dX3_kinds_99 rfl (⟨T1, J, by simp only [o_kinds, o_with, if_pos c_3, if_neg c_4, if_pos c_11, if_pos c_15, nI_clamp (n := y) (by omega), nI_clamp (n := u) (by omega)]; rw [show f = 7 by omega], by simp only [o_kinds, o_with, if_pos c_3, if_neg c_4, if_pos c_11, if_pos c_15, nI_clamp (n := y) (by omega), nI_clamp (n := u) (by omega)]; rfl⟩)
      · have c_15n : ¬ (7 ≤ f) := fun h9 => c_15 ((nI_leI (a := 7) (b := f) (by omega) (by omega)).mpr h9)
        refine q_aload_n K 3 dX3_kinds_44 rfl ?_
        refine q_get (.ref ((A 2) 0)) K ws_X3 0 rfl rfl 1 (by decide) fl_X3_16 rfl dX3_kinds_45 ?_
        refine q_aload_n K 3 dX3_kinds_48 rfl ?_
        refine q_get (.ref ((A 1) 0)) K ws_X3 0 rfl rfl 0 (by decide) fl_X3_12 rfl dX3_kinds_49 ?_
        refine q_cvV (q0 := 10) (As := [.ref ((A 1) 0)]) (rest := []) K kv_X0_become (c_X0_becomeR (k_l M) (k_Z M) (A 2) (A 1) T1 (a_F X)) (w_G (k_Z M) A (a_kp X) (a_fd X)) (w_F (k_Z M) (A 3) (a_K X) ++ (w_T (k_Z M) (A 4) (t_of (a_tp X) J) ++ (w_SS (k_Z M) A (a_S X)))) rfl rfl rfl ml_X3_132 rfl rfl (Nat.le_of_ble_eq_true rfl) ⟨Nat.le_of_ble_eq_true rfl, Nat.le_of_ble_eq_true rfl⟩ dX3_kinds_52 (fun w2 h_16 => ?_)
        obtain rfl := h_16
        refine q_ws (ws' := w_G (k_Z M) A (a_kp X) (a_fd X) ++ (w_F (k_Z M) (A 1) (a_F X) ++ (w_F (k_Z M) (A 2) (a_F X) ++ (w_F (k_Z M) (A 3) (a_K X) ++ (w_T (k_Z M) (A 4) (t_of (a_tp X) J) ++ (w_SS (k_Z M) A (a_S X))))))) rfl ?_
        refine q_aload_n K 3 dX3_kinds_55 rfl ?_
        refine q_get (.ref ((A 2) 0)) K ws_X3 0 rfl rfl 1 (by decide) fl_X3_16 rfl dX3_kinds_56 ?_
        refine q_get (.ref ((A 2) 3)) K ws_X0 13 rfl rfl 2 (by decide) fl_X3_91 rfl dX3_kinds_59 ?_
        refine q_iconst 0 K dX3_kinds_62 rfl ?_
        refine q_aldg (y := (A 2) 5) K 16 rfl (vp_in_nI (n := 0) (N := 5) (by omega) (by omega)) rfl dX3_kinds_63 ?_
        refine q_iload_n K 5 dX3_kinds_64 rfl ?_
        refine q_iload K 0 dX3_kinds_65 rfl ?_
        refine q_iast (ws' := w_G (k_Z M) A (a_kp X) (a_fd X) ++ (w_F (k_Z M) (A 1) (a_F X) ++ (w_F (k_Z M) (A 2) (f_bs (a_F X), f_gs (a_F X), upd (f_kd (a_F X)) u (nI f), f_fd (a_F X), f_wy (a_F X), f_md (a_F X), f_ps (a_F X), f_hd (a_F X), f_wk (a_F X), f_wd (a_F X), f_hr (a_F X), f_zz (a_F X)) ++ (w_F (k_Z M) (A 3) (a_K X) ++ (w_T (k_Z M) (A 4) (t_of (a_tp X) J) ++ (w_SS (k_Z M) A (a_S X))))))) K 18 rfl (vp_in_nI (n := u) (N := 8) (by omega) (by omega)) (by rw [nI_clamp (n := u) (by omega)] <;> rfl) dX3_kinds_67 ?_
        refine q_ws (ws' := w_G (k_Z M) A (a_kp X) (a_fd X) ++ (w_F (k_Z M) (A 1) (a_F X) ++ (w_F (k_Z M) (A 2) (f_setrow (a_F X) 0 (upd (f_row (a_F X) 0) u (nI f))) ++ (w_F (k_Z M) (A 3) (a_K X) ++ (w_T (k_Z M) (A 4) (t_of (a_tp X) J) ++ (w_SS (k_Z M) A (a_S X))))))) rfl ?_
        refine q_aload_n K 3 dX3_kinds_68 rfl ?_
        refine q_aload_n K 3 dX3_kinds_69 rfl ?_
        refine q_get (.ref ((A 0) 1)) K ws_X3 0 rfl rfl 5 (by decide) fl_X3_35 rfl dX3_kinds_70 ?_
        refine q_iload_n K 4 dX3_kinds_73 rfl ?_
        refine q_aldo (y := (A (5 + y)) 0) K 1 rfl (vp_in_nI (n := y) (N := 4) (by omega) (by omega)) (by rw [nI_clamp (n := y) (by omega)]) dX3_kinds_74 ?_
        refine q_perm (ws' := w_G (k_Z M) A (a_kp X) (a_fd X) ++ (w_F (k_Z M) (A 1) (a_F X) ++ (w_F (k_Z M) (A 2) (f_setrow (a_F X) 0 (upd (f_row (a_F X) 0) u (nI f))) ++ (w_F (k_Z M) (A 3) (a_K X) ++ (w_T (k_Z M) (A 4) (t_of (a_tp X) J) ++ (w_S (k_Z M) (A (5 + y)) ((a_S X) y) ++ (w_SR (k_Z M) A (a_S X) y))))))) (List.Perm.append_left _ (List.Perm.append_left _ (List.Perm.append_left _ (List.Perm.append_left _ (List.Perm.append_left _ (k_foc (by omega))))))) ?_
        refine q_iload_n K 5 dX3_kinds_75 rfl ?_
        refine q_perm (ws' := w_G (k_Z M) A (a_kp X) (a_fd X) ++ (w_F (k_Z M) (A 1) (a_F X) ++ (w_F (k_Z M) (A 2) (f_setrow (a_F X) 0 (upd (f_row (a_F X) 0) u (nI f))) ++ (w_F (k_Z M) (A 3) (a_K X) ++ (w_T (k_Z M) (A 4) (t_of (a_tp X) J) ++ (w_SS (k_Z M) A (a_S X))))))) (List.Perm.append_left _ (List.Perm.append_left _ (List.Perm.append_left _ (List.Perm.append_left _ (List.Perm.append_left _ (k_foc (by omega)).symm))))) ?_
        refine q_wI (q0 := 0) (As := [.ref ((A (5 + y)) 0), .int (nI u)]) (rest := []) K kv_X3_feelsAsTold (c_X3_feelsAsTold (k_l M) (k_Z M) A X (f_setrow (a_F X) 0 (upd (f_row (a_F X) 0) u (nI f))) J m hm hm2 hm2 y (by omega) z hz ez u (by omega)) rfl rfl ml_X3_160 rfl rfl (Nat.le_of_ble_eq_true rfl) ⟨Nat.le_of_ble_eq_true rfl, Nat.le_of_ble_eq_true rfl⟩ dX3_kinds_76 (fun r_18 w2 h_17 => ?_)
        obtain ⟨T_r_18, e_r_18, rfl⟩ := h_17
        refine q_ws (ws' := w_G (k_Z M) A (a_kp X) (a_fd X) ++ (w_F (k_Z M) (A 1) (a_F X) ++ (w_F (k_Z M) (A 2) T_r_18 ++ (w_F (k_Z M) (A 3) (a_K X) ++ (w_T (k_Z M) (A 4) (t_of (a_tp X) J) ++ (w_SS (k_Z M) A (a_S X))))))) rfl ?_
        have e_r_18 : r_18 = if o_find (p_mood (s_nm (a_S X y)) (f_setrow (a_F X) 0 (upd (f_row (a_F X) 0) u (nI f))) u) (a_sz X y) 0 = a_sz X y then 1 else 0 := by rw [a_szz hz ez]; exact e_r_18
        refine q_if_eq 91 K dX3_kinds_79 (by decide) (fun c_19 => ?_) (fun c_19 => ?_)
        · have c_19 : ¬ (o_find (p_mood (s_nm (a_S X y)) (f_setrow (a_F X) 0 (upd (f_row (a_F X) 0) u (nI f))) u) (a_sz X y) 0 = a_sz X y) := (kn_eq e_r_18).mp c_19
          refine q_iinc (nI (f + 1)) (lv' := [(5, .int (nI (f + 1))), (4, .int (f_kinds X y u f)), (3, .int (-1)), (0, .ref ((A 0) 0)), (1, .int (nI y)), (2, .int (nI u))]) K 0 dX3_kinds_91 rfl (kn_inc f) (by decide) rfl ?_
          refine q_goto 37 K dX3_kinds_94 (by decide) ?_
          rw [show f_kinds X y u f = f_kinds X y u (f + 1) by simp only [f_kinds, if_neg c_19]]
          exact ih_14 (n_12 - 1) (f + 1, T_r_18) (by omega) (by show f + 1 + (n_12 - 1) = 7; omega)
        · have c_19 : o_find (p_mood (s_nm (a_S X y)) (f_setrow (a_F X) 0 (upd (f_row (a_F X) 0) u (nI f))) u) (a_sz X y) 0 = a_sz X y := (kn_ne e_r_18).mp c_19
          refine q_iload K 1 dX3_kinds_82 rfl ?_
          refine q_iconst 1 K dX3_kinds_84 rfl ?_
          refine q_iload K 0 dX3_kinds_85 rfl ?_
          refine q_ishl K dX3_kinds_87 ?_
          refine q_ior K dX3_kinds_88 ?_
          refine q_istore (lv' := [(4, .int ((f_kinds X y u f) ||| (1 <<< ((nI f) &&& 31)))), (5, .int (nI f)), (3, .int (-1)), (0, .ref ((A 0) 0)), (1, .int (nI y)), (2, .int (nI u))]) K dX3_kinds_89 (by decide) rfl ?_
          refine q_iinc (nI (f + 1)) (lv' := [(5, .int (nI (f + 1))), (4, .int ((f_kinds X y u f) ||| (1 <<< ((nI f) &&& 31)))), (3, .int (-1)), (0, .ref ((A 0) 0)), (1, .int (nI y)), (2, .int (nI u))]) K 1 dX3_kinds_91 rfl (kn_inc f) (by decide) rfl ?_
          refine q_goto 37 K dX3_kinds_94 (by decide) ?_
          rw [show (f_kinds X y u f) ||| (1 <<< ((nI f) &&& 31)) = f_kinds X y u (f + 1) by simp only [f_kinds, if_pos c_19]]
          exact ih_14 (n_12 - 1) (f + 1, T_r_18) (by omega) (by show f + 1 + (n_12 - 1) = 7; omega)
    · have c_11 : ¬ (isW X w) := (kn_eq e_r_10).mp c_11
      refine q_aload_n K 1 dX3_kinds_25 rfl ?_
      refine q_iconst 0 K dX3_kinds_26 rfl ?_
      refine q_wI (q0 := 0) (As := [.int 0]) (rest := []) K kv_X3_finding (c_X3_finding (k_l M) (k_Z M) A X T J 0 (by omega)) rfl rfl ml_X3_52 rfl rfl (Nat.le_of_ble_eq_true rfl) ⟨Nat.le_of_ble_eq_true rfl, Nat.le_of_ble_eq_true rfl⟩ dX3_kinds_27 (fun r_21 w2 h_20 => ?_)
      obtain ⟨e_r_21, rfl⟩ := h_20
      refine q_eqi (r_fin 0) e_r_21 ?_
      refine q_ws (ws' := w_G (k_Z M) A (a_kp X) (fd_up (a_fd X) 0) ++ (w_F (k_Z M) (A 1) (a_F X) ++ (w_F (k_Z M) (A 2) T ++ (w_F (k_Z M) (A 3) (a_K X) ++ (w_T (k_Z M) (A 4) (t_of (a_tp X) J) ++ (w_SS (k_Z M) A (a_S X))))))) rfl ?_
      exact Rt _ _ (r_fin 0) (w_G (k_Z M) A (a_kp X) (fd_up (a_fd X) 0) ++ (w_F (k_Z M) (A 1) (a_F X) ++ (w_F (k_Z M) (A 2) T ++ (w_F (k_Z M) (A 3) (a_K X) ++ (w_T (k_Z M) (A 4) (t_of (a_tp X) J) ++ (w_SS (k_Z M) A (a_S X))))))) dX3_kinds_30 rfl (⟨T, J, by simp only [o_kinds, o_with, a_fin, if_pos c_3, if_neg c_4, if_neg c_11, nI_clamp (n := y) (by omega)] <;> rfl, by simp only [o_kinds, o_with, a_fin, if_pos c_3, if_neg c_4, if_neg c_11, nI_clamp (n := y) (by omega)] <;> rfl⟩)
theorem kv_X3_kinds : k_iv yX3_kinds cX3_kinds 6 (some .int) 2 := ⟨⟨im_X3_kinds, se_X3_kinds⟩, in_X3, co_X3_kinds, by decide +kernel⟩
