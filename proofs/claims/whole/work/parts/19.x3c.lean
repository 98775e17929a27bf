set_option maxHeartbeats 4000000 in
set_option maxRecDepth 100000 in
theorem c_X3_of (l : Launch) (Z : kz_Z) (A : Nat → Nat → Nat) (X : AS) (T : FS) (J : TJ) (m : Nat) (hm : m ≤ 8) (hm2 : f_wk (a_F X) = nI m) (w what : Int32) : KI l Z yX3_of cX3_of 3 .int 2 43 [.ref ((A 0) 0), .int w, .int what] (w_G Z A (a_kp X) (a_fd X) ++ (w_F Z (A 1) (a_F X) ++ (w_F Z (A 2) T ++ (w_F Z (A 3) (a_K X) ++ (w_T Z (A 4) (t_of (a_tp X) J) ++ (w_SS Z A (a_S X))))))) (fun r w2 => ∃ T2 J2, r = (o_of X w what).1 ∧ w2 = w_C Z A (o_of X w what).2 T2 J2) := by
  refine ki_of (by decide) [(0, .ref ((A 0) 0)), (1, .int w), (2, .int what)] (Nat.le_of_ble_eq_true rfl) rfl ?_
  intro M e1 e2 K Rt
  subst e1 e2
  refine q_aload_n K 0 dX3_of_0 rfl ?_
  refine q_iload_n K 1 dX3_of_1 rfl ?_
  refine q_wI (q0 := 0) (As := [.int w]) (rest := []) K kv_X3_isWalker (c_X3_isWalker (k_l M) (k_Z M) A X T J w) rfl rfl ml_X3_85 rfl rfl (Nat.le_of_ble_eq_true rfl) ⟨Nat.le_of_ble_eq_true rfl, Nat.le_of_ble_eq_true rfl⟩ dX3_of_2 (fun r_2 w2 h_1 => ?_)
  obtain ⟨e_r_2, rfl⟩ := h_1
  refine q_ws (ws' := w_G (k_Z M) A (a_kp X) (a_fd X) ++ (w_F (k_Z M) (A 1) (a_F X) ++ (w_F (k_Z M) (A 2) T ++ (w_F (k_Z M) (A 3) (a_K X) ++ (w_T (k_Z M) (A 4) (t_of (a_tp X) J) ++ (w_SS (k_Z M) A (a_S X))))))) rfl ?_
  refine q_if_eq 17 K dX3_of_5 (by decide) (fun c_3 => ?_) (fun c_3 => ?_)
  · have c_3 : ¬ (isW X w) := (kn_eq e_r_2).mp c_3
    refine q_aload_n K 0 dX3_of_17 rfl ?_
    refine q_iconst 0 K dX3_of_18 rfl ?_
    refine q_wI (q0 := 0) (As := [.int 0]) (rest := []) K kv_X3_finding (c_X3_finding (k_l M) (k_Z M) A X T J 0 (by omega)) rfl rfl ml_X3_52 rfl rfl (Nat.le_of_ble_eq_true rfl) ⟨Nat.le_of_ble_eq_true rfl, Nat.le_of_ble_eq_true rfl⟩ dX3_of_19 (fun r_5 w2 h_4 => ?_)
    obtain ⟨e_r_5, rfl⟩ := h_4
    refine q_eqi (r_fin 0) e_r_5 ?_
    refine q_ws (ws' := w_G (k_Z M) A (a_kp X) (fd_up (a_fd X) 0) ++ (w_F (k_Z M) (A 1) (a_F X) ++ (w_F (k_Z M) (A 2) T ++ (w_F (k_Z M) (A 3) (a_K X) ++ (w_T (k_Z M) (A 4) (t_of (a_tp X) J) ++ (w_SS (k_Z M) A (a_S X))))))) rfl ?_
    exact Rt _ _ (r_fin 0) (w_G (k_Z M) A (a_kp X) (fd_up (a_fd X) 0) ++ (w_F (k_Z M) (A 1) (a_F X) ++ (w_F (k_Z M) (A 2) T ++ (w_F (k_Z M) (A 3) (a_K X) ++ (w_T (k_Z M) (A 4) (t_of (a_tp X) J) ++ (w_SS (k_Z M) A (a_S X))))))) dX3_of_22 rfl (⟨T, J, by simp only [o_of, a_fin, if_neg c_3, e_r_2] <;> rfl, by simp only [o_of, a_fin, if_neg c_3] <;> rfl⟩)
  · have c_3 : isW X w := (kn_ne e_r_2).mp c_3
    obtain ⟨u, h_u, e_u⟩ := isW_nat hm hm2 c_3
    subst e_u
    refine q_iload_n K 2 dX3_of_8 rfl ?_
    refine q_iconst 0 K dX3_of_9 rfl ?_
    refine q_iconst 5 K dX3_of_10 rfl ?_
    refine q_cp (rest := []) K ks_X3_isIn (c_X3_isIn (k_l M) (k_Z M) what 0 5) ml_X3_48 rfl rfl (Nat.le_of_ble_eq_true rfl) ⟨Nat.le_of_ble_eq_true rfl, Nat.le_of_ble_eq_true rfl⟩ dX3_of_11 (fun r_6 e_r_6 => ?_)
    refine q_if_ne 23 K dX3_of_14 (by decide) (fun c_7 => ?_) (fun c_7 => ?_)
    · have c_7 : inR what 0 5 := (kn_ne e_r_6).mp c_7
      obtain ⟨k, h_k, e_k⟩ := kn_rng (n := 5) c_7 rfl
      subst e_k
      refine q_iload_n K 2 dX3_of_23 rfl ?_
      refine q_iconst 5 K dX3_of_24 rfl ?_
      refine q_icmp_ne 39 K dX3_of_25 (by decide) (fun c_8 => ?_) (fun c_8 => ?_)
      · have c_8n : ¬ (k = 5) := fun h9 => c_8 ((nI_eq (a := k) (b := 5) (by omega) (by omega)).mpr h9)
        refine q_aload_n K 0 dX3_of_39 rfl ?_
        refine q_get (.ref ((A 1) 0)) K ws_X3 0 rfl rfl 0 (by decide) fl_X3_12 rfl dX3_of_40 ?_
        refine q_get (.ref ((A 1) 3)) K ws_X0 3 rfl rfl 2 (by decide) fl_X3_91 rfl dX3_of_43 ?_
        refine q_iload_n K 2 dX3_of_46 rfl ?_
        rcases (show k = 0 ∨ k = 1 ∨ k = 2 ∨ k = 3 ∨ k = 4 by omega) with rfl | rfl | rfl | rfl | rfl
        · refine q_aldg (y := (A 1) 5) K 6 rfl (vp_in_nI (n := 0) (N := 5) (by omega) (by omega)) rfl dX3_of_47 ?_
          refine q_iload_n K 1 dX3_of_48 rfl ?_
          refine q_iald K 8 rfl (vp_in_nI (n := u) (N := 8) (by omega) (by omega)) dX3_of_49 ?_
          refine q_eqi ((f_kd (a_F X)) u) (by rw [nI_clamp (n := u) (by omega)]) ?_
          exact Rt _ _ ((f_kd (a_F X)) u) (w_G (k_Z M) A (a_kp X) (a_fd X) ++ (w_F (k_Z M) (A 1) (a_F X) ++ (w_F (k_Z M) (A 2) T ++ (w_F (k_Z M) (A 3) (a_K X) ++ (w_T (k_Z M) (A 4) (t_of (a_tp X) J) ++ (w_SS (k_Z M) A (a_S X))))))) dX3_of_50 rfl (⟨T, J, by simp only [o_of, a_fin, if_pos c_3, if_pos c_7, if_neg c_8, e_r_2, e_r_6, nI_clamp (n := u) (by omega), nI_clamp (n := 0) (by omega)] <;> rfl, by simp only [o_of, a_fin, if_pos c_3, if_pos c_7, if_neg c_8, nI_clamp (n := u) (by omega), nI_clamp (n := 0) (by omega)] <;> rfl⟩)
        · refine q_aldg (y := (A 1) 6) K 6 rfl (vp_in_nI (n := 1) (N := 5) (by omega) (by omega)) rfl dX3_of_47 ?_
          refine q_iload_n K 1 dX3_of_48 rfl ?_
          refine q_iald K 9 rfl (vp_in_nI (n := u) (N := 8) (by omega) (by omega)) dX3_of_49 ?_
          refine q_eqi ((f_fd (a_F X)) u) (by rw [nI_clamp (n := u) (by omega)]) ?_
          exact Rt _ _ ((f_fd (a_F X)) u) (w_G (k_Z M) A (a_kp X) (a_fd X) ++ (w_F (k_Z M) (A 1) (a_F X) ++ (w_F (k_Z M) (A 2) T ++ (w_F (k_Z M) (A 3) (a_K X) ++ (w_T (k_Z M) (A 4) (t_of (a_tp X) J) ++ (w_SS (k_Z M) A (a_S X))))))) dX3_of_50 rfl (⟨T, J, by simp only [o_of, a_fin, if_pos c_3, if_pos c_7, if_neg c_8, e_r_2, e_r_6, nI_clamp (n := u) (by omega), nI_clamp (n := 1) (by omega)] <;> rfl, by simp only [o_of, a_fin, if_pos c_3, if_pos c_7, if_neg c_8, nI_clamp (n := u) (by omega), nI_clamp (n := 1) (by omega)] <;> rfl⟩)
        · refine q_aldg (y := (A 1) 7) K 6 rfl (vp_in_nI (n := 2) (N := 5) (by omega) (by omega)) rfl dX3_of_47 ?_
          refine q_iload_n K 1 dX3_of_48 rfl ?_
          refine q_iald K 10 rfl (vp_in_nI (n := u) (N := 8) (by omega) (by omega)) dX3_of_49 ?_
          refine q_eqi ((f_wy (a_F X)) u) (by rw [nI_clamp (n := u) (by omega)]) ?_
          exact Rt _ _ ((f_wy (a_F X)) u) (w_G (k_Z M) A (a_kp X) (a_fd X) ++ (w_F (k_Z M) (A 1) (a_F X) ++ (w_F (k_Z M) (A 2) T ++ (w_F (k_Z M) (A 3) (a_K X) ++ (w_T (k_Z M) (A 4) (t_of (a_tp X) J) ++ (w_SS (k_Z M) A (a_S X))))))) dX3_of_50 rfl (⟨T, J, by simp only [o_of, a_fin, if_pos c_3, if_pos c_7, if_neg c_8, e_r_2, e_r_6, nI_clamp (n := u) (by omega), nI_clamp (n := 2) (by omega)] <;> rfl, by simp only [o_of, a_fin, if_pos c_3, if_pos c_7, if_neg c_8, nI_clamp (n := u) (by omega), nI_clamp (n := 2) (by omega)] <;> rfl⟩)
        · refine q_aldg (y := (A 1) 8) K 6 rfl (vp_in_nI (n := 3) (N := 5) (by omega) (by omega)) rfl dX3_of_47 ?_
          refine q_iload_n K 1 dX3_of_48 rfl ?_
          refine q_iald K 11 rfl (vp_in_nI (n := u) (N := 8) (by omega) (by omega)) dX3_of_49 ?_
          refine q_eqi ((f_md (a_F X)) u) (by rw [nI_clamp (n := u) (by omega)]) ?_
          exact Rt _ _ ((f_md (a_F X)) u) (w_G (k_Z M) A (a_kp X) (a_fd X) ++ (w_F (k_Z M) (A 1) (a_F X) ++ (w_F (k_Z M) (A 2) T ++ (w_F (k_Z M) (A 3) (a_K X) ++ (w_T (k_Z M) (A 4) (t_of (a_tp X) J) ++ (w_SS (k_Z M) A (a_S X))))))) dX3_of_50 rfl (⟨T, J, by simp only [o_of, a_fin, if_pos c_3, if_pos c_7, if_neg c_8, e_r_2, e_r_6, nI_clamp (n := u) (by omega), nI_clamp (n := 3) (by omega)] <;> rfl, by simp only [o_of, a_fin, if_pos c_3, if_pos c_7, if_neg c_8, nI_clamp (n := u) (by omega), nI_clamp (n := 3) (by omega)] <;> rfl⟩)
        · refine q_aldg (y := (A 1) 9) K 6 rfl (vp_in_nI (n := 4) (N := 5) (by omega) (by omega)) rfl dX3_of_47 ?_
          refine q_iload_n K 1 dX3_of_48 rfl ?_
          refine q_iald K 12 rfl (vp_in_nI (n := u) (N := 8) (by omega) (by omega)) dX3_of_49 ?_
          refine q_eqi ((f_ps (a_F X)) u) (by rw [nI_clamp (n := u) (by omega)]) ?_
          exact Rt _ _ ((f_ps (a_F X)) u) (w_G (k_Z M) A (a_kp X) (a_fd X) ++ (w_F (k_Z M) (A 1) (a_F X) ++ (w_F (k_Z M) (A 2) T ++ (w_F (k_Z M) (A 3) (a_K X) ++ (w_T (k_Z M) (A 4) (t_of (a_tp X) J) ++ (w_SS (k_Z M) A (a_S X))))))) dX3_of_50 rfl (⟨T, J, by simp only [o_of, a_fin, if_pos c_3, if_pos c_7, if_neg c_8, e_r_2, e_r_6, nI_clamp (n := u) (by omega), nI_clamp (n := 4) (by omega)] <;> rfl, by simp only [o_of, a_fin, if_pos c_3, if_pos c_7, if_neg c_8, nI_clamp (n := u) (by omega), nI_clamp (n := 4) (by omega)] <;> rfl⟩)
      · have c_8n : k = 5 := (nI_eq (a := k) (b := 5) (by omega) (by omega)).mp c_8
        refine q_aload_n K 0 dX3_of_28 rfl ?_
        refine q_get (.ref ((A 1) 0)) K ws_X3 0 rfl rfl 0 (by decide) fl_X3_12 rfl dX3_of_29 ?_
        refine q_iload_n K 1 dX3_of_32 rfl ?_
        refine q_cvI (q0 := 0) (As := [.int (nI u)]) (rest := []) K kv_X0_goesOf (c_X0_goesOf (k_l M) (k_Z M) (A 1) (a_F X) u (by omega)) (w_G (k_Z M) A (a_kp X) (a_fd X)) (w_F (k_Z M) (A 2) T ++ (w_F (k_Z M) (A 3) (a_K X) ++ (w_T (k_Z M) (A 4) (t_of (a_tp X) J) ++ (w_SS (k_Z M) A (a_S X))))) rfl rfl rfl ml_X3_88 rfl rfl (Nat.le_of_ble_eq_true rfl) ⟨Nat.le_of_ble_eq_true rfl, Nat.le_of_ble_eq_true rfl⟩ dX3_of_33 (fun r_10 w2 h_9 => ?_)
        obtain ⟨e_r_10, rfl⟩ := h_9
        refine q_eqi (f_goes (a_F X) u) e_r_10 ?_
        refine q_ws (ws' := w_G (k_Z M) A (a_kp X) (a_fd X) ++ (w_F (k_Z M) (A 1) (a_F X) ++ (w_F (k_Z M) (A 2) T ++ (w_F (k_Z M) (A 3) (a_K X) ++ (w_T (k_Z M) (A 4) (t_of (a_tp X) J) ++ (w_SS (k_Z M) A (a_S X))))))) rfl ?_
        refine q_goto 50 K dX3_of_36 (by decide) ?_
        exact Rt _ _ (f_goes (a_F X) u) (w_G (k_Z M) A (a_kp X) (a_fd X) ++ (w_F (k_Z M) (A 1) (a_F X) ++ (w_F (k_Z M) (A 2) T ++ (w_F (k_Z M) (A 3) (a_K X) ++ (w_T (k_Z M) (A 4) (t_of (a_tp X) J) ++ (w_SS (k_Z M) A (a_S X))))))) dX3_of_50 rfl (⟨T, J, by simp only [o_of, a_fin, if_pos c_3, if_pos c_7, if_pos c_8, e_r_2, e_r_6, nI_clamp (n := u) (by omega), nI_clamp (n := k) (by omega)] <;> rfl, by simp only [o_of, a_fin, if_pos c_3, if_pos c_7, if_pos c_8, nI_clamp (n := u) (by omega), nI_clamp (n := k) (by omega)] <;> rfl⟩)
    · have c_7 : ¬ (inR what 0 5) := (kn_eq e_r_6).mp c_7
      refine q_aload_n K 0 dX3_of_17 rfl ?_
      refine q_iconst 0 K dX3_of_18 rfl ?_
      refine q_wI (q0 := 0) (As := [.int 0]) (rest := []) K kv_X3_finding (c_X3_finding (k_l M) (k_Z M) A X T J 0 (by omega)) rfl rfl ml_X3_52 rfl rfl (Nat.le_of_ble_eq_true rfl) ⟨Nat.le_of_ble_eq_true rfl, Nat.le_of_ble_eq_true rfl⟩ dX3_of_19 (fun r_12 w2 h_11 => ?_)
      obtain ⟨e_r_12, rfl⟩ := h_11
      refine q_eqi (r_fin 0) e_r_12 ?_
      refine q_ws (ws' := w_G (k_Z M) A (a_kp X) (fd_up (a_fd X) 0) ++ (w_F (k_Z M) (A 1) (a_F X) ++ (w_F (k_Z M) (A 2) T ++ (w_F (k_Z M) (A 3) (a_K X) ++ (w_T (k_Z M) (A 4) (t_of (a_tp X) J) ++ (w_SS (k_Z M) A (a_S X))))))) rfl ?_
      exact Rt _ _ (r_fin 0) (w_G (k_Z M) A (a_kp X) (fd_up (a_fd X) 0) ++ (w_F (k_Z M) (A 1) (a_F X) ++ (w_F (k_Z M) (A 2) T ++ (w_F (k_Z M) (A 3) (a_K X) ++ (w_T (k_Z M) (A 4) (t_of (a_tp X) J) ++ (w_SS (k_Z M) A (a_S X))))))) dX3_of_22 rfl (⟨T, J, by simp only [o_of, a_fin, if_pos c_3, if_neg c_7, e_r_2, e_r_6, nI_clamp (n := u) (by omega)] <;> rfl, by simp only [o_of, a_fin, if_pos c_3, if_neg c_7, nI_clamp (n := u) (by omega)] <;> rfl⟩)
theorem kv_X3_of : k_iv yX3_of cX3_of 3 (some .int) 2 := ⟨⟨im_X3_of, se_X3_of⟩, in_X3, co_X3_of, by decide +kernel⟩
set_option maxHeartbeats 4000000 in
set_option maxRecDepth 100000 in
theorem c_X3_change (l : Launch) (Z : kz_Z) (A : Nat → Nat → Nat) (X : AS) (T : FS) (J : TJ) (m : Nat) (hm : m ≤ 8) (hm2 : f_wk (a_F X) = nI m) (w what v : Int32) : KI l Z yX3_change cX3_change 5 .int 2 43 [.ref ((A 0) 0), .int w, .int what, .int v] (w_G Z A (a_kp X) (a_fd X) ++ (w_F Z (A 1) (a_F X) ++ (w_F Z (A 2) T ++ (w_F Z (A 3) (a_K X) ++ (w_T Z (A 4) (t_of (a_tp X) J) ++ (w_SS Z A (a_S X))))))) (fun r w2 => ∃ T2 J2, r = (o_change X w what v).1 ∧ w2 = w_C Z A (o_change X w what v).2 T2 J2) := by
  refine ki_of (by decide) [(0, .ref ((A 0) 0)), (1, .int w), (2, .int what), (3, .int v)] (Nat.le_of_ble_eq_true rfl) rfl ?_
  intro M e1 e2 K Rt
  subst e1 e2
  refine q_aload_n K 0 dX3_change_0 rfl ?_
  refine q_iload_n K 1 dX3_change_1 rfl ?_
  refine q_wI (q0 := 0) (As := [.int w]) (rest := []) K kv_X3_isWalker (c_X3_isWalker (k_l M) (k_Z M) A X T J w) rfl rfl ml_X3_85 rfl rfl (Nat.le_of_ble_eq_true rfl) ⟨Nat.le_of_ble_eq_true rfl, Nat.le_of_ble_eq_true rfl⟩ dX3_change_2 (fun r_2 w2 h_1 => ?_)
  obtain ⟨e_r_2, rfl⟩ := h_1
  refine q_ws (ws' := w_G (k_Z M) A (a_kp X) (a_fd X) ++ (w_F (k_Z M) (A 1) (a_F X) ++ (w_F (k_Z M) (A 2) T ++ (w_F (k_Z M) (A 3) (a_K X) ++ (w_T (k_Z M) (A 4) (t_of (a_tp X) J) ++ (w_SS (k_Z M) A (a_S X))))))) rfl ?_
  refine q_if_eq 30 K dX3_change_5 (by decide) (fun c_3 => ?_) (fun c_3 => ?_)
  · have c_3 : ¬ (isW X w) := (kn_eq e_r_2).mp c_3
    refine q_aload_n K 0 dX3_change_30 rfl ?_
    refine q_iconst 0 K dX3_change_31 rfl ?_
    refine q_wI (q0 := 0) (As := [.int 0]) (rest := []) K kv_X3_finding (c_X3_finding (k_l M) (k_Z M) A X T J 0 (by omega)) rfl rfl ml_X3_52 rfl rfl (Nat.le_of_ble_eq_true rfl) ⟨Nat.le_of_ble_eq_true rfl, Nat.le_of_ble_eq_true rfl⟩ dX3_change_32 (fun r_5 w2 h_4 => ?_)
    obtain ⟨e_r_5, rfl⟩ := h_4
    refine q_eqi (r_fin 0) e_r_5 ?_
    refine q_ws (ws' := w_G (k_Z M) A (a_kp X) (fd_up (a_fd X) 0) ++ (w_F (k_Z M) (A 1) (a_F X) ++ (w_F (k_Z M) (A 2) T ++ (w_F (k_Z M) (A 3) (a_K X) ++ (w_T (k_Z M) (A 4) (t_of (a_tp X) J) ++ (w_SS (k_Z M) A (a_S X))))))) rfl ?_
    exact Rt _ _ (r_fin 0) (w_G (k_Z M) A (a_kp X) (fd_up (a_fd X) 0) ++ (w_F (k_Z M) (A 1) (a_F X) ++ (w_F (k_Z M) (A 2) T ++ (w_F (k_Z M) (A 3) (a_K X) ++ (w_T (k_Z M) (A 4) (t_of (a_tp X) J) ++ (w_SS (k_Z M) A (a_S X))))))) dX3_change_35 rfl (⟨T, J, by simp only [o_change, a_fin, if_neg c_3, e_r_2] <;> rfl, by simp only [o_change, a_fin, if_neg c_3] <;> rfl⟩)
  · have c_3 : isW X w := (kn_ne e_r_2).mp c_3
    obtain ⟨u, h_u, e_u⟩ := isW_nat hm hm2 c_3
    subst e_u
    refine q_iload_n K 2 dX3_change_8 rfl ?_
    refine q_iconst 0 K dX3_change_9 rfl ?_
    refine q_iconst 4 K dX3_change_10 rfl ?_
    refine q_cp (rest := []) K ks_X3_isIn (c_X3_isIn (k_l M) (k_Z M) what 0 4) ml_X3_48 rfl rfl (Nat.le_of_ble_eq_true rfl) ⟨Nat.le_of_ble_eq_true rfl, Nat.le_of_ble_eq_true rfl⟩ dX3_change_11 (fun r_6 e_r_6 => ?_)
    refine q_if_eq 30 K dX3_change_14 (by decide) (fun c_7 => ?_) (fun c_7 => ?_)
    · have c_7 : ¬ (inR what 0 4) := (kn_eq e_r_6).mp c_7
      refine q_aload_n K 0 dX3_change_30 rfl ?_
      refine q_iconst 0 K dX3_change_31 rfl ?_
      refine q_wI (q0 := 0) (As := [.int 0]) (rest := []) K kv_X3_finding (c_X3_finding (k_l M) (k_Z M) A X T J 0 (by omega)) rfl rfl ml_X3_52 rfl rfl (Nat.le_of_ble_eq_true rfl) ⟨Nat.le_of_ble_eq_true rfl, Nat.le_of_ble_eq_true rfl⟩ dX3_change_32 (fun r_9 w2 h_8 => ?_)
      obtain ⟨e_r_9, rfl⟩ := h_8
      refine q_eqi (r_fin 0) e_r_9 ?_
      refine q_ws (ws' := w_G (k_Z M) A (a_kp X) (fd_up (a_fd X) 0) ++ (w_F (k_Z M) (A 1) (a_F X) ++ (w_F (k_Z M) (A 2) T ++ (w_F (k_Z M) (A 3) (a_K X) ++ (w_T (k_Z M) (A 4) (t_of (a_tp X) J) ++ (w_SS (k_Z M) A (a_S X))))))) rfl ?_
      exact Rt _ _ (r_fin 0) (w_G (k_Z M) A (a_kp X) (fd_up (a_fd X) 0) ++ (w_F (k_Z M) (A 1) (a_F X) ++ (w_F (k_Z M) (A 2) T ++ (w_F (k_Z M) (A 3) (a_K X) ++ (w_T (k_Z M) (A 4) (t_of (a_tp X) J) ++ (w_SS (k_Z M) A (a_S X))))))) dX3_change_35 rfl (⟨T, J, by simp only [o_change, a_fin, if_pos c_3, if_neg c_7, e_r_2, e_r_6, nI_clamp (n := u) (by omega)] <;> rfl, by simp only [o_change, a_fin, if_pos c_3, if_neg c_7, nI_clamp (n := u) (by omega)] <;> rfl⟩)
    · have c_7 : inR what 0 4 := (kn_ne e_r_6).mp c_7
      obtain ⟨k, h_k, e_k⟩ := kn_rng (n := 4) c_7 rfl
      subst e_k
      refine q_iload_n K 3 dX3_change_17 rfl ?_
      refine q_iconst 0 K dX3_change_18 rfl ?_
      refine q_most K fl_X3_95 dX3_change_19 ?_
      refine q_iload_n K 2 dX3_change_22 rfl ?_
      refine q_mostld (v := o_most k) K (vp_in_nI (n := k) (N := 5) (by omega) (by omega)) (by rw [nI_clamp (n := k) (by omega)]; exact kn_most k) dX3_change_23 ?_
      refine q_cp (rest := []) K ks_X3_isIn (c_X3_isIn (k_l M) (k_Z M) v 0 (o_most k)) ml_X3_48 rfl rfl (Nat.le_of_ble_eq_true rfl) ⟨Nat.le_of_ble_eq_true rfl, Nat.le_of_ble_eq_true rfl⟩ dX3_change_24 (fun r_10 e_r_10 => ?_)
      refine q_if_ne 36 K dX3_change_27 (by decide) (fun c_11 => ?_) (fun c_11 => ?_)
      · have c_11 : inR v 0 (o_most k) := (kn_ne e_r_10).mp c_11
        refine q_aload_n K 0 dX3_change_36 rfl ?_
        refine q_get (.ref ((A 1) 0)) K ws_X3 0 rfl rfl 0 (by decide) fl_X3_12 rfl dX3_change_37 ?_
        refine q_get (.ref ((A 1) 3)) K ws_X0 3 rfl rfl 2 (by decide) fl_X3_91 rfl dX3_change_40 ?_
        refine q_iload_n K 2 dX3_change_43 rfl ?_
        rcases (show k = 0 ∨ k = 1 ∨ k = 2 ∨ k = 3 ∨ k = 4 by omega) with rfl | rfl | rfl | rfl | rfl
        · refine q_aldg (y := (A 1) 5) K 6 rfl (vp_in_nI (n := 0) (N := 5) (by omega) (by omega)) rfl dX3_change_44 ?_
          refine q_iload_n K 1 dX3_change_45 rfl ?_
          refine q_iald K 8 rfl (vp_in_nI (n := u) (N := 8) (by omega) (by omega)) dX3_change_46 ?_
          refine q_eqi ((f_kd (a_F X)) u) (by rw [nI_clamp (n := u) (by omega)]) ?_
          refine q_istore (lv' := [(4, .int ((f_kd (a_F X)) u)), (0, .ref ((A 0) 0)), (1, .int (nI u)), (2, .int (nI 0)), (3, .int v)]) K dX3_change_47 (by decide) rfl ?_
          refine q_aload_n K 1 dX3_change_49 rfl ?_
          refine q_get (.ref ((A 1) 0)) K ws_X3 0 rfl rfl 0 (by decide) fl_X3_12 rfl dX3_change_50 ?_
          refine q_get (.ref ((A 1) 3)) K ws_X0 3 rfl rfl 2 (by decide) fl_X3_91 rfl dX3_change_53 ?_
          refine q_iload_n K 3 dX3_change_56 rfl ?_
          refine q_aldg (y := (A 1) 5) K 6 rfl (vp_in_nI (n := 0) (N := 5) (by omega) (by omega)) rfl dX3_change_57 ?_
          refine q_iload_n K 2 dX3_change_58 rfl ?_
          refine q_iload_n K 4 dX3_change_59 rfl ?_
          refine q_iast (ws' := w_G (k_Z M) A (a_kp X) (a_fd X) ++ (w_F (k_Z M) (A 1) (f_bs (a_F X), f_gs (a_F X), upd (f_kd (a_F X)) u v, f_fd (a_F X), f_wy (a_F X), f_md (a_F X), f_ps (a_F X), f_hd (a_F X), f_wk (a_F X), f_wd (a_F X), f_hr (a_F X), f_zz (a_F X)) ++ (w_F (k_Z M) (A 2) T ++ (w_F (k_Z M) (A 3) (a_K X) ++ (w_T (k_Z M) (A 4) (t_of (a_tp X) J) ++ (w_SS (k_Z M) A (a_S X))))))) K 8 rfl (vp_in_nI (n := u) (N := 8) (by omega) (by omega)) (by rw [nI_clamp (n := u) (by omega)] <;> rfl) dX3_change_60 ?_
          refine q_iload K 0 dX3_change_61 rfl ?_
          exact Rt _ _ ((f_kd (a_F X)) u) (w_G (k_Z M) A (a_kp X) (a_fd X) ++ (w_F (k_Z M) (A 1) (f_bs (a_F X), f_gs (a_F X), upd (f_kd (a_F X)) u v, f_fd (a_F X), f_wy (a_F X), f_md (a_F X), f_ps (a_F X), f_hd (a_F X), f_wk (a_F X), f_wd (a_F X), f_hr (a_F X), f_zz (a_F X)) ++ (w_F (k_Z M) (A 2) T ++ (w_F (k_Z M) (A 3) (a_K X) ++ (w_T (k_Z M) (A 4) (t_of (a_tp X) J) ++ (w_SS (k_Z M) A (a_S X))))))) dX3_change_63 rfl (⟨T, J, by simp only [o_change, a_fin, if_pos c_3, if_pos c_7, if_pos c_11, e_r_2, e_r_6, e_r_10, nI_clamp (n := u) (by omega), nI_clamp (n := 0) (by omega)] <;> rfl, by simp only [o_change, a_fin, if_pos c_3, if_pos c_7, if_pos c_11, nI_clamp (n := u) (by omega), nI_clamp (n := 0) (by omega)] <;> rfl⟩)
        · refine q_aldg (y := (A 1) 6) K 6 rfl (vp_in_nI (n := 1) (N := 5) (by omega) (by omega)) rfl dX3_change_44 ?_
          refine q_iload_n K 1 dX3_change_45 rfl ?_
          refine q_iald K 9 rfl (vp_in_nI (n := u) (N := 8) (by omega) (by omega)) dX3_change_46 ?_
          refine q_eqi ((f_fd (a_F X)) u) (by rw [nI_clamp (n := u) (by omega)]) ?_
          refine q_istore (lv' := [(4, .int ((f_fd (a_F X)) u)), (0, .ref ((A 0) 0)), (1, .int (nI u)), (2, .int (nI 1)), (3, .int v)]) K dX3_change_47 (by decide) rfl ?_
          refine q_aload_n K 1 dX3_change_49 rfl ?_
          refine q_get (.ref ((A 1) 0)) K ws_X3 0 rfl rfl 0 (by decide) fl_X3_12 rfl dX3_change_50 ?_
          refine q_get (.ref ((A 1) 3)) K ws_X0 3 rfl rfl 2 (by decide) fl_X3_91 rfl dX3_change_53 ?_
          refine q_iload_n K 3 dX3_change_56 rfl ?_
          refine q_aldg (y := (A 1) 6) K 6 rfl (vp_in_nI (n := 1) (N := 5) (by omega) (by omega)) rfl dX3_change_57 ?_
          refine q_iload_n K 2 dX3_change_58 rfl ?_
          refine q_iload_n K 4 dX3_change_59 rfl ?_
          refine q_iast (ws' := w_G (k_Z M) A (a_kp X) (a_fd X) ++ (w_F (k_Z M) (A 1) (f_bs (a_F X), f_gs (a_F X), f_kd (a_F X), upd (f_fd (a_F X)) u v, f_wy (a_F X), f_md (a_F X), f_ps (a_F X), f_hd (a_F X), f_wk (a_F X), f_wd (a_F X), f_hr (a_F X), f_zz (a_F X)) ++ (w_F (k_Z M) (A 2) T ++ (w_F (k_Z M) (A 3) (a_K X) ++ (w_T (k_Z M) (A 4) (t_of (a_tp X) J) ++ (w_SS (k_Z M) A (a_S X))))))) K 9 rfl (vp_in_nI (n := u) (N := 8) (by omega) (by omega)) (by rw [nI_clamp (n := u) (by omega)] <;> rfl) dX3_change_60 ?_
          refine q_iload K 0 dX3_change_61 rfl ?_
          exact Rt _ _ ((f_fd (a_F X)) u) (w_G (k_Z M) A (a_kp X) (a_fd X) ++ (w_F (k_Z M) (A 1) (f_bs (a_F X), f_gs (a_F X), f_kd (a_F X), upd (f_fd (a_F X)) u v, f_wy (a_F X), f_md (a_F X), f_ps (a_F X), f_hd (a_F X), f_wk (a_F X), f_wd (a_F X), f_hr (a_F X), f_zz (a_F X)) ++ (w_F (k_Z M) (A 2) T ++ (w_F (k_Z M) (A 3) (a_K X) ++ (w_T (k_Z M) (A 4) (t_of (a_tp X) J) ++ (w_SS (k_Z M) A (a_S X))))))) dX3_change_63 rfl (⟨T, J, by simp only [o_change, a_fin, if_pos c_3, if_pos c_7, if_pos c_11, e_r_2, e_r_6, e_r_10, nI_clamp (n := u) (by omega), nI_clamp (n := 1) (by omega)] <;> rfl, by simp only [o_change, a_fin, if_pos c_3, if_pos c_7, if_pos c_11, nI_clamp (n := u) (by omega), nI_clamp (n := 1) (by omega)] <;> rfl⟩)
        · refine q_aldg (y := (A 1) 7) K 6 rfl (vp_in_nI (n := 2) (N := 5) (by omega) (by omega)) rfl dX3_change_44 ?_
          refine q_iload_n K 1 dX3_change_45 rfl ?_
          refine q_iald K 10 rfl (vp_in_nI (n := u) (N := 8) (by omega) (by omega)) dX3_change_46 ?_
          refine q_eqi ((f_wy (a_F X)) u) (by rw [nI_clamp (n := u) (by omega)]) ?_
          refine q_istore (lv' := [(4, .int ((f_wy (a_F X)) u)), (0, .ref ((A 0) 0)), (1, .int (nI u)), (2, .int (nI 2)), (3, .int v)]) K dX3_change_47 (by decide) rfl ?_
          refine q_aload_n K 1 dX3_change_49 rfl ?_
          refine q_get (.ref ((A 1) 0)) K ws_X3 0 rfl rfl 0 (by decide) fl_X3_12 rfl dX3_change_50 ?_
          refine q_get (.ref ((A 1) 3)) K ws_X0 3 rfl rfl 2 (by decide) fl_X3_91 rfl dX3_change_53 ?_
          refine q_iload_n K 3 dX3_change_56 rfl ?_
          refine q_aldg (y := (A 1) 7) K 6 rfl (vp_in_nI (n := 2) (N := 5) (by omega) (by omega)) rfl dX3_change_57 ?_
          refine q_iload_n K 2 dX3_change_58 rfl ?_
          refine q_iload_n K 4 dX3_change_59 rfl ?_
          refine q_iast (ws' := w_G (k_Z M) A (a_kp X) (a_fd X) ++ (w_F (k_Z M) (A 1) (f_bs (a_F X), f_gs (a_F X), f_kd (a_F X), f_fd (a_F X), upd (f_wy (a_F X)) u v, f_md (a_F X), f_ps (a_F X), f_hd (a_F X), f_wk (a_F X), f_wd (a_F X), f_hr (a_F X), f_zz (a_F X)) ++ (w_F (k_Z M) (A 2) T ++ (w_F (k_Z M) (A 3) (a_K X) ++ (w_T (k_Z M) (A 4) (t_of (a_tp X) J) ++ (w_SS (k_Z M) A (a_S X))))))) K 10 rfl (vp_in_nI (n := u) (N := 8) (by omega) (by omega)) (by rw [nI_clamp (n := u) (by omega)] <;> rfl) dX3_change_60 ?_
          refine q_iload K 0 dX3_change_61 rfl ?_
          exact Rt _ _ ((f_wy (a_F X)) u) (w_G (k_Z M) A (a_kp X) (a_fd X) ++ (w_F (k_Z M) (A 1) (f_bs (a_F X), f_gs (a_F X), f_kd (a_F X), f_fd (a_F X), upd (f_wy (a_F X)) u v, f_md (a_F X), f_ps (a_F X), f_hd (a_F X), f_wk (a_F X), f_wd (a_F X), f_hr (a_F X), f_zz (a_F X)) ++ (w_F (k_Z M) (A 2) T ++ (w_F (k_Z M) (A 3) (a_K X) ++ (w_T (k_Z M) (A 4) (t_of (a_tp X) J) ++ (w_SS (k_Z M) A (a_S X))))))) dX3_change_63 rfl (⟨T, J, by simp only [o_change, a_fin, if_pos c_3, if_pos c_7, if_pos c_11, e_r_2, e_r_6, e_r_10, nI_clamp (n := u) (by omega), nI_clamp (n := 2) (by omega)] <;> rfl, by simp only [o_change, a_fin, if_pos c_3, if_pos c_7, if_pos c_11, nI_clamp (n := u) (by omega), nI_clamp (n := 2) (by omega)] <;> rfl⟩)
        · refine q_aldg (y := (A 1) 8) K 6 rfl (vp_in_nI (n := 3) (N := 5) (by omega) (by omega)) rfl dX3_change_44 ?_
          refine q_iload_n K 1 dX3_change_45 rfl ?_
          refine q_iald K 11 rfl (vp_in_nI (n := u) (N := 8) (by omega) (by omega)) dX3_change_46 ?_
          refine q_eqi ((f_md (a_F X)) u) (by rw [nI_clamp (n := u) (by omega)]) ?_
          refine q_istore (lv' := [(4, .int ((f_md (a_F X)) u)), (0, .ref ((A 0) 0)), (1, .int (nI u)), (2, .int (nI 3)), (3, .int v)]) K dX3_change_47 (by decide) rfl ?_
          refine q_aload_n K 1 dX3_change_49 rfl ?_
          refine q_get (.ref ((A 1) 0)) K ws_X3 0 rfl rfl 0 (by decide) fl_X3_12 rfl dX3_change_50 ?_
          refine q_get (.ref ((A 1) 3)) K ws_X0 3 rfl rfl 2 (by decide) fl_X3_91 rfl dX3_change_53 ?_
          refine q_iload_n K 3 dX3_change_56 rfl ?_
          refine q_aldg (y := (A 1) 8) K 6 rfl (vp_in_nI (n := 3) (N := 5) (by omega) (by omega)) rfl dX3_change_57 ?_
          refine q_iload_n K 2 dX3_change_58 rfl ?_
          refine q_iload_n K 4 dX3_change_59 rfl ?_
          refine q_iast (ws' := w_G (k_Z M) A (a_kp X) (a_fd X) ++ (w_F (k_Z M) (A 1) (f_bs (a_F X), f_gs (a_F X), f_kd (a_F X), f_fd (a_F X), f_wy (a_F X), upd (f_md (a_F X)) u v, f_ps (a_F X), f_hd (a_F X), f_wk (a_F X), f_wd (a_F X), f_hr (a_F X), f_zz (a_F X)) ++ (w_F (k_Z M) (A 2) T ++ (w_F (k_Z M) (A 3) (a_K X) ++ (w_T (k_Z M) (A 4) (t_of (a_tp X) J) ++ (w_SS (k_Z M) A (a_S X))))))) K 11 rfl (vp_in_nI (n := u) (N := 8) (by omega) (by omega)) (by rw [nI_clamp (n := u) (by omega)] <;> rfl) dX3_change_60 ?_
          refine q_iload K 0 dX3_change_61 rfl ?_
          exact Rt _ _ ((f_md (a_F X)) u) (w_G (k_Z M) A (a_kp X) (a_fd X) ++ (w_F (k_Z M) (A 1) (f_bs (a_F X), f_gs (a_F X), f_kd (a_F X), f_fd (a_F X), f_wy (a_F X), upd (f_md (a_F X)) u v, f_ps (a_F X), f_hd (a_F X), f_wk (a_F X), f_wd (a_F X), f_hr (a_F X), f_zz (a_F X)) ++ (w_F (k_Z M) (A 2) T ++ (w_F (k_Z M) (A 3) (a_K X) ++ (w_T (k_Z M) (A 4) (t_of (a_tp X) J) ++ (w_SS (k_Z M) A (a_S X))))))) dX3_change_63 rfl (⟨T, J, by simp only [o_change, a_fin, if_pos c_3, if_pos c_7, if_pos c_11, e_r_2, e_r_6, e_r_10, nI_clamp (n := u) (by omega), nI_clamp (n := 3) (by omega)] <;> rfl, by simp only [o_change, a_fin, if_pos c_3, if_pos c_7, if_pos c_11, nI_clamp (n := u) (by omega), nI_clamp (n := 3) (by omega)] <;> rfl⟩)
        · refine q_aldg (y := (A 1) 9) K 6 rfl (vp_in_nI (n := 4) (N := 5) (by omega) (by omega)) rfl dX3_change_44 ?_
          refine q_iload_n K 1 dX3_change_45 rfl ?_
          refine q_iald K 12 rfl (vp_in_nI (n := u) (N := 8) (by omega) (by omega)) dX3_change_46 ?_
          refine q_eqi ((f_ps (a_F X)) u) (by rw [nI_clamp (n := u) (by omega)]) ?_
          refine q_istore (lv' := [(4, .int ((f_ps (a_F X)) u)), (0, .ref ((A 0) 0)), (1, .int (nI u)), (2, .int (nI 4)), (3, .int v)]) K dX3_change_47 (by decide) rfl ?_
          refine q_aload_n K 1 dX3_change_49 rfl ?_
          refine q_get (.ref ((A 1) 0)) K ws_X3 0 rfl rfl 0 (by decide) fl_X3_12 rfl dX3_change_50 ?_
          refine q_get (.ref ((A 1) 3)) K ws_X0 3 rfl rfl 2 (by decide) fl_X3_91 rfl dX3_change_53 ?_
          refine q_iload_n K 3 dX3_change_56 rfl ?_
          refine q_aldg (y := (A 1) 9) K 6 rfl (vp_in_nI (n := 4) (N := 5) (by omega) (by omega)) rfl dX3_change_57 ?_
          refine q_iload_n K 2 dX3_change_58 rfl ?_
          refine q_iload_n K 4 dX3_change_59 rfl ?_
          refine q_iast (ws' := w_G (k_Z M) A (a_kp X) (a_fd X) ++ (w_F (k_Z M) (A 1) (f_bs (a_F X), f_gs (a_F X), f_kd (a_F X), f_fd (a_F X), f_wy (a_F X), f_md (a_F X), upd (f_ps (a_F X)) u v, f_hd (a_F X), f_wk (a_F X), f_wd (a_F X), f_hr (a_F X), f_zz (a_F X)) ++ (w_F (k_Z M) (A 2) T ++ (w_F (k_Z M) (A 3) (a_K X) ++ (w_T (k_Z M) (A 4) (t_of (a_tp X) J) ++ (w_SS (k_Z M) A (a_S X))))))) K 12 rfl (vp_in_nI (n := u) (N := 8) (by omega) (by omega)) (by rw [nI_clamp (n := u) (by omega)] <;> rfl) dX3_change_60 ?_
          refine q_iload K 0 dX3_change_61 rfl ?_
          exact Rt _ _ ((f_ps (a_F X)) u) (w_G (k_Z M) A (a_kp X) (a_fd X) ++ (w_F (k_Z M) (A 1) (f_bs (a_F X), f_gs (a_F X), f_kd (a_F X), f_fd (a_F X), f_wy (a_F X), f_md (a_F X), upd (f_ps (a_F X)) u v, f_hd (a_F X), f_wk (a_F X), f_wd (a_F X), f_hr (a_F X), f_zz (a_F X)) ++ (w_F (k_Z M) (A 2) T ++ (w_F (k_Z M) (A 3) (a_K X) ++ (w_T (k_Z M) (A 4) (t_of (a_tp X) J) ++ (w_SS (k_Z M) A (a_S X))))))) dX3_change_63 rfl (⟨T, J, by simp only [o_change, a_fin, if_pos c_3, if_pos c_7, if_pos c_11, e_r_2, e_r_6, e_r_10, nI_clamp (n := u) (by omega), nI_clamp (n := 4) (by omega)] <;> rfl, by simp only [o_change, a_fin, if_pos c_3, if_pos c_7, if_pos c_11, nI_clamp (n := u) (by omega), nI_clamp (n := 4) (by omega)] <;> rfl⟩)
      · have c_11 : ¬ (inR v 0 (o_most k)) := (kn_eq e_r_10).mp c_11
        refine q_aload_n K 0 dX3_change_30 rfl ?_
        refine q_iconst 0 K dX3_change_31 rfl ?_
        refine q_wI (q0 := 0) (As := [.int 0]) (rest := []) K kv_X3_finding (c_X3_finding (k_l M) (k_Z M) A X T J 0 (by omega)) rfl rfl ml_X3_52 rfl rfl (Nat.le_of_ble_eq_true rfl) ⟨Nat.le_of_ble_eq_true rfl, Nat.le_of_ble_eq_true rfl⟩ dX3_change_32 (fun r_13 w2 h_12 => ?_)
        obtain ⟨e_r_13, rfl⟩ := h_12
        refine q_eqi (r_fin 0) e_r_13 ?_
        refine q_ws (ws' := w_G (k_Z M) A (a_kp X) (fd_up (a_fd X) 0) ++ (w_F (k_Z M) (A 1) (a_F X) ++ (w_F (k_Z M) (A 2) T ++ (w_F (k_Z M) (A 3) (a_K X) ++ (w_T (k_Z M) (A 4) (t_of (a_tp X) J) ++ (w_SS (k_Z M) A (a_S X))))))) rfl ?_
        exact Rt _ _ (r_fin 0) (w_G (k_Z M) A (a_kp X) (fd_up (a_fd X) 0) ++ (w_F (k_Z M) (A 1) (a_F X) ++ (w_F (k_Z M) (A 2) T ++ (w_F (k_Z M) (A 3) (a_K X) ++ (w_T (k_Z M) (A 4) (t_of (a_tp X) J) ++ (w_SS (k_Z M) A (a_S X))))))) dX3_change_35 rfl (⟨T, J, by simp only [o_change, a_fin, if_pos c_3, if_pos c_7, if_neg c_11, e_r_2, e_r_6, e_r_10, nI_clamp (n := u) (by omega), nI_clamp (n := k) (by omega)] <;> rfl, by simp only [o_change, a_fin, if_pos c_3, if_pos c_7, if_neg c_11, nI_clamp (n := u) (by omega), nI_clamp (n := k) (by omega)] <;> rfl⟩)
theorem kv_X3_change : k_iv yX3_change cX3_change 5 (some .int) 3 := ⟨⟨im_X3_change, se_X3_change⟩, in_X3, co_X3_change, by decide +kernel⟩
set_option maxHeartbeats 4000000 in
set_option maxRecDepth 100000 in
theorem c_X3_leaves (l : Launch) (Z : kz_Z) (A : Nat → Nat → Nat) (X : AS) (T : FS) (J : TJ) (m : Nat) (hm : m ≤ 8) (hm2 : f_wk (a_F X) = nI m) (w s what : Int32) : KI l Z yX3_leaves cX3_leaves 4 .int 2 43 [.ref ((A 0) 0), .int w, .int s, .int what] (w_G Z A (a_kp X) (a_fd X) ++ (w_F Z (A 1) (a_F X) ++ (w_F Z (A 2) T ++ (w_F Z (A 3) (a_K X) ++ (w_T Z (A 4) (t_of (a_tp X) J) ++ (w_SS Z A (a_S X))))))) (fun r w2 => ∃ T2 J2, r = (o_leaves X w s what).1 ∧ w2 = w_C Z A (o_leaves X w s what).2 T2 J2) := by
  refine ki_of (by decide) [(0, .ref ((A 0) 0)), (1, .int w), (2, .int s), (3, .int what)] (Nat.le_of_ble_eq_true rfl) rfl ?_
  intro M e1 e2 K Rt
  subst e1 e2
  refine q_aload_n K 0 dX3_leaves_0 rfl ?_
  refine q_iload_n K 1 dX3_leaves_1 rfl ?_
  refine q_wI (q0 := 0) (As := [.int w]) (rest := []) K kv_X3_isWalker (c_X3_isWalker (k_l M) (k_Z M) A X T J w) rfl rfl ml_X3_85 rfl rfl (Nat.le_of_ble_eq_true rfl) ⟨Nat.le_of_ble_eq_true rfl, Nat.le_of_ble_eq_true rfl⟩ dX3_leaves_2 (fun r_2 w2 h_1 => ?_)
  obtain ⟨e_r_2, rfl⟩ := h_1
  refine q_ws (ws' := w_G (k_Z M) A (a_kp X) (a_fd X) ++ (w_F (k_Z M) (A 1) (a_F X) ++ (w_F (k_Z M) (A 2) T ++ (w_F (k_Z M) (A 3) (a_K X) ++ (w_T (k_Z M) (A 4) (t_of (a_tp X) J) ++ (w_SS (k_Z M) A (a_S X))))))) rfl ?_
  refine q_if_eq 24 K dX3_leaves_5 (by decide) (fun c_3 => ?_) (fun c_3 => ?_)
  · have c_3 : ¬ (isW X w) := (kn_eq e_r_2).mp c_3
    refine q_aload_n K 0 dX3_leaves_24 rfl ?_
    refine q_iconst 0 K dX3_leaves_25 rfl ?_
    refine q_wI (q0 := 0) (As := [.int 0]) (rest := []) K kv_X3_finding (c_X3_finding (k_l M) (k_Z M) A X T J 0 (by omega)) rfl rfl ml_X3_52 rfl rfl (Nat.le_of_ble_eq_true rfl) ⟨Nat.le_of_ble_eq_true rfl, Nat.le_of_ble_eq_true rfl⟩ dX3_leaves_26 (fun r_5 w2 h_4 => ?_)
    obtain ⟨e_r_5, rfl⟩ := h_4
    refine q_eqi (r_fin 0) e_r_5 ?_
    refine q_ws (ws' := w_G (k_Z M) A (a_kp X) (fd_up (a_fd X) 0) ++ (w_F (k_Z M) (A 1) (a_F X) ++ (w_F (k_Z M) (A 2) T ++ (w_F (k_Z M) (A 3) (a_K X) ++ (w_T (k_Z M) (A 4) (t_of (a_tp X) J) ++ (w_SS (k_Z M) A (a_S X))))))) rfl ?_
    exact Rt _ _ (r_fin 0) (w_G (k_Z M) A (a_kp X) (fd_up (a_fd X) 0) ++ (w_F (k_Z M) (A 1) (a_F X) ++ (w_F (k_Z M) (A 2) T ++ (w_F (k_Z M) (A 3) (a_K X) ++ (w_T (k_Z M) (A 4) (t_of (a_tp X) J) ++ (w_SS (k_Z M) A (a_S X))))))) dX3_leaves_29 rfl (⟨T, J, by simp only [o_leaves, a_fin, if_neg c_3, e_r_2], by simp only [o_leaves, a_fin, if_neg c_3]; rfl⟩)
  · have c_3 : isW X w := (kn_ne e_r_2).mp c_3
    obtain ⟨u, h_u, e_u⟩ := isW_nat hm hm2 c_3
    subst e_u
    refine q_iload_n K 2 dX3_leaves_8 rfl ?_
    refine q_cp (rest := []) K ks_X3_isManner (c_X3_isManner (k_l M) (k_Z M) s) ml_X3_65 rfl rfl (Nat.le_of_ble_eq_true rfl) ⟨Nat.le_of_ble_eq_true rfl, Nat.le_of_ble_eq_true rfl⟩ dX3_leaves_9 (fun r_6 e_r_6 => ?_)
    refine q_if_eq 24 K dX3_leaves_12 (by decide) (fun c_7 => ?_) (fun c_7 => ?_)
    · have c_7 : ¬ (inR s 0 3) := (kn_eq e_r_6).mp c_7
      refine q_aload_n K 0 dX3_leaves_24 rfl ?_
      refine q_iconst 0 K dX3_leaves_25 rfl ?_
      refine q_wI (q0 := 0) (As := [.int 0]) (rest := []) K kv_X3_finding (c_X3_finding (k_l M) (k_Z M) A X T J 0 (by omega)) rfl rfl ml_X3_52 rfl rfl (Nat.le_of_ble_eq_true rfl) ⟨Nat.le_of_ble_eq_true rfl, Nat.le_of_ble_eq_true rfl⟩ dX3_leaves_26 (fun r_9 w2 h_8 => ?_)
      obtain ⟨e_r_9, rfl⟩ := h_8
      refine q_eqi (r_fin 0) e_r_9 ?_
      refine q_ws (ws' := w_G (k_Z M) A (a_kp X) (fd_up (a_fd X) 0) ++ (w_F (k_Z M) (A 1) (a_F X) ++ (w_F (k_Z M) (A 2) T ++ (w_F (k_Z M) (A 3) (a_K X) ++ (w_T (k_Z M) (A 4) (t_of (a_tp X) J) ++ (w_SS (k_Z M) A (a_S X))))))) rfl ?_
      exact Rt _ _ (r_fin 0) (w_G (k_Z M) A (a_kp X) (fd_up (a_fd X) 0) ++ (w_F (k_Z M) (A 1) (a_F X) ++ (w_F (k_Z M) (A 2) T ++ (w_F (k_Z M) (A 3) (a_K X) ++ (w_T (k_Z M) (A 4) (t_of (a_tp X) J) ++ (w_SS (k_Z M) A (a_S X))))))) dX3_leaves_29 rfl (⟨T, J, by simp only [o_leaves, a_fin, if_pos c_3, if_neg c_7, e_r_2, e_r_6, nI_clamp (n := u) (by omega)], by simp only [o_leaves, a_fin, if_pos c_3, if_neg c_7, nI_clamp (n := u) (by omega)]; rfl⟩)
    · have c_7 : inR s 0 3 := (kn_ne e_r_6).mp c_7
      refine q_iload_n K 3 dX3_leaves_15 rfl ?_
      refine q_iconst 0 K dX3_leaves_16 rfl ?_
      refine q_iconst 1 K dX3_leaves_17 rfl ?_
      refine q_cp (rest := []) K ks_X3_isIn (c_X3_isIn (k_l M) (k_Z M) what 0 1) ml_X3_48 rfl rfl (Nat.le_of_ble_eq_true rfl) ⟨Nat.le_of_ble_eq_true rfl, Nat.le_of_ble_eq_true rfl⟩ dX3_leaves_18 (fun r_10 e_r_10 => ?_)
      refine q_if_ne 30 K dX3_leaves_21 (by decide) (fun c_11 => ?_) (fun c_11 => ?_)
      · have c_11 : inR what 0 1 := (kn_ne e_r_10).mp c_11
        refine q_iload_n K 3 dX3_leaves_30 rfl ?_
        refine q_if_ne 46 K dX3_leaves_31 (by decide) (fun c_12 => ?_) (fun c_12 => ?_)
        · refine q_aload_n K 0 dX3_leaves_46 rfl ?_
          refine q_get (.ref ((A 1) 0)) K ws_X3 0 rfl rfl 0 (by decide) fl_X3_12 rfl dX3_leaves_47 ?_
          refine q_iload_n K 1 dX3_leaves_50 rfl ?_
          refine q_iload_n K 2 dX3_leaves_51 rfl ?_
          refine q_cvI (q0 := 0) (As := [.int (nI u), .int s]) (rest := []) K kv_X0_feltBy (c_X0_feltBy (k_l M) (k_Z M) (A 1) (a_F X) u (by omega) s) (w_G (k_Z M) A (a_kp X) (a_fd X)) (w_F (k_Z M) (A 2) T ++ (w_F (k_Z M) (A 3) (a_K X) ++ (w_T (k_Z M) (A 4) (t_of (a_tp X) J) ++ (w_SS (k_Z M) A (a_S X))))) rfl rfl rfl ml_X3_101 rfl rfl (Nat.le_of_ble_eq_true rfl) ⟨Nat.le_of_ble_eq_true rfl, Nat.le_of_ble_eq_true rfl⟩ dX3_leaves_52 (fun r_14 w2 h_13 => ?_)
          obtain ⟨e_r_14, rfl⟩ := h_13
          refine q_eqi (f_feels (a_F X) u s) e_r_14 ?_
          refine q_ws (ws' := w_G (k_Z M) A (a_kp X) (a_fd X) ++ (w_F (k_Z M) (A 1) (a_F X) ++ (w_F (k_Z M) (A 2) T ++ (w_F (k_Z M) (A 3) (a_K X) ++ (w_T (k_Z M) (A 4) (t_of (a_tp X) J) ++ (w_SS (k_Z M) A (a_S X))))))) rfl ?_
          exact Rt _ _ (f_feels (a_F X) u s) (w_G (k_Z M) A (a_kp X) (a_fd X) ++ (w_F (k_Z M) (A 1) (a_F X) ++ (w_F (k_Z M) (A 2) T ++ (w_F (k_Z M) (A 3) (a_K X) ++ (w_T (k_Z M) (A 4) (t_of (a_tp X) J) ++ (w_SS (k_Z M) A (a_S X))))))) dX3_leaves_55 rfl (⟨T, J, by simp only [o_leaves, a_fin, if_pos c_3, if_pos c_7, if_pos c_11, if_neg c_12, e_r_2, e_r_6, e_r_10, nI_clamp (n := u) (by omega)], by simp only [o_leaves, a_fin, if_pos c_3, if_pos c_7, if_pos c_11, if_neg c_12, nI_clamp (n := u) (by omega)]; rfl⟩)
        · refine q_aload_n K 0 dX3_leaves_34 rfl ?_
          refine q_get (.ref ((A 1) 0)) K ws_X3 0 rfl rfl 0 (by decide) fl_X3_12 rfl dX3_leaves_35 ?_
          refine q_iload_n K 1 dX3_leaves_38 rfl ?_
          refine q_iload_n K 2 dX3_leaves_39 rfl ?_
          refine q_cvI (q0 := 0) (As := [.int (nI u), .int s]) (rest := []) K kv_X0_leftBy (c_X0_leftBy (k_l M) (k_Z M) (A 1) (a_F X) u (by omega) s) (w_G (k_Z M) A (a_kp X) (a_fd X)) (w_F (k_Z M) (A 2) T ++ (w_F (k_Z M) (A 3) (a_K X) ++ (w_T (k_Z M) (A 4) (t_of (a_tp X) J) ++ (w_SS (k_Z M) A (a_S X))))) rfl rfl rfl ml_X3_98 rfl rfl (Nat.le_of_ble_eq_true rfl) ⟨Nat.le_of_ble_eq_true rfl, Nat.le_of_ble_eq_true rfl⟩ dX3_leaves_40 (fun r_16 w2 h_15 => ?_)
          obtain ⟨e_r_16, rfl⟩ := h_15
          refine q_eqi (f_leaves (a_F X) u s) e_r_16 ?_
          refine q_ws (ws' := w_G (k_Z M) A (a_kp X) (a_fd X) ++ (w_F (k_Z M) (A 1) (a_F X) ++ (w_F (k_Z M) (A 2) T ++ (w_F (k_Z M) (A 3) (a_K X) ++ (w_T (k_Z M) (A 4) (t_of (a_tp X) J) ++ (w_SS (k_Z M) A (a_S X))))))) rfl ?_
          refine q_goto 55 K dX3_leaves_43 (by decide) ?_
          exact Rt _ _ (f_leaves (a_F X) u s) (w_G (k_Z M) A (a_kp X) (a_fd X) ++ (w_F (k_Z M) (A 1) (a_F X) ++ (w_F (k_Z M) (A 2) T ++ (w_F (k_Z M) (A 3) (a_K X) ++ (w_T (k_Z M) (A 4) (t_of (a_tp X) J) ++ (w_SS (k_Z M) A (a_S X))))))) dX3_leaves_55 rfl (⟨T, J, by simp only [o_leaves, a_fin, if_pos c_3, if_pos c_7, if_pos c_11, if_pos c_12, e_r_2, e_r_6, e_r_10, nI_clamp (n := u) (by omega)], by simp only [o_leaves, a_fin, if_pos c_3, if_pos c_7, if_pos c_11, if_pos c_12, nI_clamp (n := u) (by omega)]; rfl⟩)
      · have c_11 : ¬ (inR what 0 1) := (kn_eq e_r_10).mp c_11
        refine q_aload_n K 0 dX3_leaves_24 rfl ?_
        refine q_iconst 0 K dX3_leaves_25 rfl ?_
        refine q_wI (q0 := 0) (As := [.int 0]) (rest := []) K kv_X3_finding (c_X3_finding (k_l M) (k_Z M) A X T J 0 (by omega)) rfl rfl ml_X3_52 rfl rfl (Nat.le_of_ble_eq_true rfl) ⟨Nat.le_of_ble_eq_true rfl, Nat.le_of_ble_eq_true rfl⟩ dX3_leaves_26 (fun r_18 w2 h_17 => ?_)
        obtain ⟨e_r_18, rfl⟩ := h_17
        refine q_eqi (r_fin 0) e_r_18 ?_
        refine q_ws (ws' := w_G (k_Z M) A (a_kp X) (fd_up (a_fd X) 0) ++ (w_F (k_Z M) (A 1) (a_F X) ++ (w_F (k_Z M) (A 2) T ++ (w_F (k_Z M) (A 3) (a_K X) ++ (w_T (k_Z M) (A 4) (t_of (a_tp X) J) ++ (w_SS (k_Z M) A (a_S X))))))) rfl ?_
        exact Rt _ _ (r_fin 0) (w_G (k_Z M) A (a_kp X) (fd_up (a_fd X) 0) ++ (w_F (k_Z M) (A 1) (a_F X) ++ (w_F (k_Z M) (A 2) T ++ (w_F (k_Z M) (A 3) (a_K X) ++ (w_T (k_Z M) (A 4) (t_of (a_tp X) J) ++ (w_SS (k_Z M) A (a_S X))))))) dX3_leaves_29 rfl (⟨T, J, by simp only [o_leaves, a_fin, if_pos c_3, if_pos c_7, if_neg c_11, e_r_2, e_r_6, e_r_10, nI_clamp (n := u) (by omega)], by simp only [o_leaves, a_fin, if_pos c_3, if_pos c_7, if_neg c_11, nI_clamp (n := u) (by omega)]; rfl⟩)
theorem kv_X3_leaves : k_iv yX3_leaves cX3_leaves 4 (some .int) 3 := ⟨⟨im_X3_leaves, se_X3_leaves⟩, in_X3, co_X3_leaves, by decide +kernel⟩
set_option maxHeartbeats 4000000 in
set_option maxRecDepth 100000 in
theorem c_X3_go (l : Launch) (Z : kz_Z) (A : Nat → Nat → Nat) (X : AS) (T : FS) (J : TJ) (m : Nat) (hm : m ≤ 8) (hm2 : f_wk (a_F X) = nI m) (n : Int32) : KI l Z yX3_go cX3_go 2 .int 5 110 [.ref ((A 0) 0), .int n] (w_G Z A (a_kp X) (a_fd X) ++ (w_F Z (A 1) (a_F X) ++ (w_F Z (A 2) T ++ (w_F Z (A 3) (a_K X) ++ (w_T Z (A 4) (t_of (a_tp X) J) ++ (w_SS Z A (a_S X))))))) (fun r w2 => ∃ T2 J2, r = (o_go X n).1 ∧ w2 = w_C Z A (o_go X n).2 T2 J2) := by
  refine ki_of (by decide) [(0, .ref ((A 0) 0)), (1, .int n)] (Nat.le_of_ble_eq_true rfl) rfl ?_
  intro M e1 e2 K Rt
  subst e1 e2
  refine q_iload_n K 1 dX3_go_0 rfl ?_
  refine q_iconst 1 K dX3_go_1 rfl ?_
  refine q_bipush 60 K dX3_go_2 rfl ?_
  refine q_cp (rest := []) K ks_X3_isIn (c_X3_isIn (k_l M) (k_Z M) n 1 60) ml_X3_48 rfl rfl (Nat.le_of_ble_eq_true rfl) ⟨Nat.le_of_ble_eq_true rfl, Nat.le_of_ble_eq_true rfl⟩ dX3_go_4 (fun r_1 e_r_1 => ?_)
  refine q_if_ne 16 K dX3_go_7 (by decide) (fun c_2 => ?_) (fun c_2 => ?_)
  · have c_2 : inR n 1 60 := (kn_ne e_r_1).mp c_2
    obtain ⟨k, h_k, e_k⟩ := kn_rng1 (n := 60) c_2 rfl
    subst e_k
    refine q_aload_n K 0 dX3_go_16 rfl ?_
    refine q_get (.ref ((A 1) 0)) K ws_X3 0 rfl rfl 0 (by decide) fl_X3_12 rfl dX3_go_17 ?_
    refine q_get (.int (f_hr (a_F X))) K ws_X0 3 rfl rfl 6 (by decide) fl_X3_104 rfl dX3_go_20 ?_
    refine q_iload_n K 1 dX3_go_23 rfl ?_
    refine q_iadd K dX3_go_24 ?_
    refine q_ldc K dX3_go_25 ct_X3_107 ?_
    refine q_icmp_le 36 K dX3_go_27 (by decide) (fun c_3 => ?_) (fun c_3 => ?_)
    · refine q_aload_n K 0 dX3_go_36 rfl ?_
      refine q_get (.ref ((A 1) 0)) K ws_X3 0 rfl rfl 0 (by decide) fl_X3_12 rfl dX3_go_37 ?_
      refine q_iload_n K 1 dX3_go_40 rfl ?_
      refine q_sipush 255 K dX3_go_41 rfl ?_
      refine q_cvV (q0 := 0) (As := [.int (nI k), .int 255]) (rest := []) K kv_X0_passHours (c_X0_passHours (k_l M) (k_Z M) (A 1) (a_F X) m hm hm2 k (by omega) 255) (w_G (k_Z M) A (a_kp X) (a_fd X)) (w_F (k_Z M) (A 2) T ++ (w_F (k_Z M) (A 3) (a_K X) ++ (w_T (k_Z M) (A 4) (t_of (a_tp X) J) ++ (w_SS (k_Z M) A (a_S X))))) rfl rfl rfl ml_X3_108 rfl rfl (Nat.le_of_ble_eq_true rfl) ⟨Nat.le_of_ble_eq_true rfl, Nat.le_of_ble_eq_true rfl⟩ dX3_go_44 (fun w2 h_4 => ?_)
      obtain rfl := h_4
      refine q_ws (ws' := w_G (k_Z M) A (a_kp X) (a_fd X) ++ (w_F (k_Z M) (A 1) (f_hoursC (f_gm 255) (a_F X) k) ++ (w_F (k_Z M) (A 2) T ++ (w_F (k_Z M) (A 3) (a_K X) ++ (w_T (k_Z M) (A 4) (t_of (a_tp X) J) ++ (w_SS (k_Z M) A (a_S X))))))) rfl ?_
      refine q_aload_n K 0 dX3_go_47 rfl ?_
      refine q_get (.ref ((A 1) 0)) K ws_X3 0 rfl rfl 0 (by decide) fl_X3_12 rfl dX3_go_48 ?_
      refine q_cvI (q0 := 0) (As := []) (rest := []) K kv_X0_standingByFour (c_X0_standingByFour (k_l M) (k_Z M) (A 1) (f_hoursC (f_gm 255) (a_F X) k)) (w_G (k_Z M) A (a_kp X) (a_fd X)) (w_F (k_Z M) (A 2) T ++ (w_F (k_Z M) (A 3) (a_K X) ++ (w_T (k_Z M) (A 4) (t_of (a_tp X) J) ++ (w_SS (k_Z M) A (a_S X))))) rfl rfl rfl ml_X3_112 rfl rfl (Nat.le_of_ble_eq_true rfl) ⟨Nat.le_of_ble_eq_true rfl, Nat.le_of_ble_eq_true rfl⟩ dX3_go_51 (fun r_7 w2 h_6 => ?_)
      obtain ⟨e_r_7, rfl⟩ := h_6
      refine q_eqi (f_by4 (f_hoursC (f_gm 255) (a_F X) k)) e_r_7 ?_
      refine q_ws (ws' := w_G (k_Z M) A (a_kp X) (a_fd X) ++ (w_F (k_Z M) (A 1) (f_hoursC (f_gm 255) (a_F X) k) ++ (w_F (k_Z M) (A 2) T ++ (w_F (k_Z M) (A 3) (a_K X) ++ (w_T (k_Z M) (A 4) (t_of (a_tp X) J) ++ (w_SS (k_Z M) A (a_S X))))))) rfl ?_
      exact Rt _ _ (f_by4 (f_hoursC (f_gm 255) (a_F X) k)) (w_G (k_Z M) A (a_kp X) (a_fd X) ++ (w_F (k_Z M) (A 1) (f_hoursC (f_gm 255) (a_F X) k) ++ (w_F (k_Z M) (A 2) T ++ (w_F (k_Z M) (A 3) (a_K X) ++ (w_T (k_Z M) (A 4) (t_of (a_tp X) J) ++ (w_SS (k_Z M) A (a_S X))))))) dX3_go_54 rfl (⟨T, J, by simp only [o_go, a_fin, if_pos c_2, if_pos c_3, e_r_1, nI_clamp (n := k) (by omega)], by simp only [o_go, a_fin, if_pos c_2, if_pos c_3, nI_clamp (n := k) (by omega)]; rfl⟩)
    · refine q_aload_n K 0 dX3_go_30 rfl ?_
      refine q_iconst 4 K dX3_go_31 rfl ?_
      refine q_wI (q0 := 0) (As := [.int 4]) (rest := []) K kv_X3_finding (c_X3_finding (k_l M) (k_Z M) A X T J 4 (by omega)) rfl rfl ml_X3_52 rfl rfl (Nat.le_of_ble_eq_true rfl) ⟨Nat.le_of_ble_eq_true rfl, Nat.le_of_ble_eq_true rfl⟩ dX3_go_32 (fun r_9 w2 h_8 => ?_)
      obtain ⟨e_r_9, rfl⟩ := h_8
      refine q_eqi (r_fin 4) e_r_9 ?_
      refine q_ws (ws' := w_G (k_Z M) A (a_kp X) (fd_up (a_fd X) 4) ++ (w_F (k_Z M) (A 1) (a_F X) ++ (w_F (k_Z M) (A 2) T ++ (w_F (k_Z M) (A 3) (a_K X) ++ (w_T (k_Z M) (A 4) (t_of (a_tp X) J) ++ (w_SS (k_Z M) A (a_S X))))))) rfl ?_
      exact Rt _ _ (r_fin 4) (w_G (k_Z M) A (a_kp X) (fd_up (a_fd X) 4) ++ (w_F (k_Z M) (A 1) (a_F X) ++ (w_F (k_Z M) (A 2) T ++ (w_F (k_Z M) (A 3) (a_K X) ++ (w_T (k_Z M) (A 4) (t_of (a_tp X) J) ++ (w_SS (k_Z M) A (a_S X))))))) dX3_go_35 rfl (⟨T, J, by simp only [o_go, a_fin, if_pos c_2, if_neg c_3, e_r_1, nI_clamp (n := k) (by omega)], by simp only [o_go, a_fin, if_pos c_2, if_neg c_3, nI_clamp (n := k) (by omega)]; rfl⟩)
  · have c_2 : ¬ (inR n 1 60) := (kn_eq e_r_1).mp c_2
    refine q_aload_n K 0 dX3_go_10 rfl ?_
    refine q_iconst 0 K dX3_go_11 rfl ?_
    refine q_wI (q0 := 0) (As := [.int 0]) (rest := []) K kv_X3_finding (c_X3_finding (k_l M) (k_Z M) A X T J 0 (by omega)) rfl rfl ml_X3_52 rfl rfl (Nat.le_of_ble_eq_true rfl) ⟨Nat.le_of_ble_eq_true rfl, Nat.le_of_ble_eq_true rfl⟩ dX3_go_12 (fun r_11 w2 h_10 => ?_)
    obtain ⟨e_r_11, rfl⟩ := h_10
    refine q_eqi (r_fin 0) e_r_11 ?_
    refine q_ws (ws' := w_G (k_Z M) A (a_kp X) (fd_up (a_fd X) 0) ++ (w_F (k_Z M) (A 1) (a_F X) ++ (w_F (k_Z M) (A 2) T ++ (w_F (k_Z M) (A 3) (a_K X) ++ (w_T (k_Z M) (A 4) (t_of (a_tp X) J) ++ (w_SS (k_Z M) A (a_S X))))))) rfl ?_
    exact Rt _ _ (r_fin 0) (w_G (k_Z M) A (a_kp X) (fd_up (a_fd X) 0) ++ (w_F (k_Z M) (A 1) (a_F X) ++ (w_F (k_Z M) (A 2) T ++ (w_F (k_Z M) (A 3) (a_K X) ++ (w_T (k_Z M) (A 4) (t_of (a_tp X) J) ++ (w_SS (k_Z M) A (a_S X))))))) dX3_go_15 rfl (⟨T, J, by simp only [o_go, a_fin, if_neg c_2, e_r_1], by simp only [o_go, a_fin, if_neg c_2]; rfl⟩)
theorem kv_X3_go : k_iv yX3_go cX3_go 2 (some .int) 1 := ⟨⟨im_X3_go, se_X3_go⟩, in_X3, co_X3_go, by decide +kernel⟩
set_option maxHeartbeats 4000000 in
set_option maxRecDepth 100000 in
theorem c_X3_now (l : Launch) (Z : kz_Z) (A : Nat → Nat → Nat) (X : AS) (T : FS) (J : TJ) (m : Nat) (hm : m ≤ 8) (hm2 : f_wk (a_F X) = nI m) (what : Int32) : KI l Z yX3_now cX3_now 2 .int 1 22 [.ref ((A 0) 0), .int what] (w_G Z A (a_kp X) (a_fd X) ++ (w_F Z (A 1) (a_F X) ++ (w_F Z (A 2) T ++ (w_F Z (A 3) (a_K X) ++ (w_T Z (A 4) (t_of (a_tp X) J) ++ (w_SS Z A (a_S X))))))) (fun r w2 => ∃ T2 J2, r = (o_now X what).1 ∧ w2 = w_C Z A (o_now X what).2 T2 J2) := by
  refine ki_of (by decide) [(0, .ref ((A 0) 0)), (1, .int what)] (Nat.le_of_ble_eq_true rfl) rfl ?_
  intro M e1 e2 K Rt
  subst e1 e2
  refine q_iload_n K 1 dX3_now_0 rfl ?_
  by_cases c_1 : what = 0
  · refine q_tableIn (off := 39) 40 K dX3_now_1 (by rw [c_1]; decide) (by rw [c_1]; decide) (by rw [c_1]; rfl) (by decide) ?_
    refine q_aload_n K 0 dX3_now_40 rfl ?_
    refine q_get (.ref ((A 1) 0)) K ws_X3 0 rfl rfl 0 (by decide) fl_X3_12 rfl dX3_now_41 ?_
    refine q_get (.int (f_hr (a_F X))) K ws_X0 3 rfl rfl 6 (by decide) fl_X3_104 rfl dX3_now_44 ?_
    exact Rt _ _ (f_hr (a_F X)) (w_G (k_Z M) A (a_kp X) (a_fd X) ++ (w_F (k_Z M) (A 1) (a_F X) ++ (w_F (k_Z M) (A 2) T ++ (w_F (k_Z M) (A 3) (a_K X) ++ (w_T (k_Z M) (A 4) (t_of (a_tp X) J) ++ (w_SS (k_Z M) A (a_S X))))))) dX3_now_47 rfl (⟨T, J, by simp only [o_now, a_fin, if_pos c_1, f_mm hm hm2], by simp only [o_now, a_fin, if_pos c_1, f_mm hm hm2]; rfl⟩)
  by_cases c_2 : what = 1
  · refine q_tableIn (off := 47) 48 K dX3_now_1 (by rw [c_2]; decide) (by rw [c_2]; decide) (by rw [c_2]; rfl) (by decide) ?_
    refine q_aload_n K 0 dX3_now_48 rfl ?_
    refine q_get (.ref ((A 1) 0)) K ws_X3 0 rfl rfl 0 (by decide) fl_X3_12 rfl dX3_now_49 ?_
    refine q_cvI (q0 := 0) (As := []) (rest := []) K kv_X0_allBeasts (c_X0_allBeasts (k_l M) (k_Z M) (A 1) (a_F X)) (w_G (k_Z M) A (a_kp X) (a_fd X)) (w_F (k_Z M) (A 2) T ++ (w_F (k_Z M) (A 3) (a_K X) ++ (w_T (k_Z M) (A 4) (t_of (a_tp X) J) ++ (w_SS (k_Z M) A (a_S X))))) rfl rfl rfl ml_X3_116 rfl rfl (Nat.le_of_ble_eq_true rfl) ⟨Nat.le_of_ble_eq_true rfl, Nat.le_of_ble_eq_true rfl⟩ dX3_now_52 (fun r_4 w2 h_3 => ?_)
    obtain ⟨e_r_4, rfl⟩ := h_3
    refine q_eqi (f_sumb (a_F X) 9) e_r_4 ?_
    refine q_ws (ws' := w_G (k_Z M) A (a_kp X) (a_fd X) ++ (w_F (k_Z M) (A 1) (a_F X) ++ (w_F (k_Z M) (A 2) T ++ (w_F (k_Z M) (A 3) (a_K X) ++ (w_T (k_Z M) (A 4) (t_of (a_tp X) J) ++ (w_SS (k_Z M) A (a_S X))))))) rfl ?_
    exact Rt _ _ (f_sumb (a_F X) 9) (w_G (k_Z M) A (a_kp X) (a_fd X) ++ (w_F (k_Z M) (A 1) (a_F X) ++ (w_F (k_Z M) (A 2) T ++ (w_F (k_Z M) (A 3) (a_K X) ++ (w_T (k_Z M) (A 4) (t_of (a_tp X) J) ++ (w_SS (k_Z M) A (a_S X))))))) dX3_now_55 rfl (⟨T, J, by simp only [o_now, a_fin, if_neg c_1, if_pos c_2, f_mm hm hm2], by simp only [o_now, a_fin, if_neg c_1, if_pos c_2, f_mm hm hm2]; rfl⟩)
  by_cases c_5 : what = 2
  · refine q_tableIn (off := 55) 56 K dX3_now_1 (by rw [c_5]; decide) (by rw [c_5]; decide) (by rw [c_5]; rfl) (by decide) ?_
    refine q_aload_n K 0 dX3_now_56 rfl ?_
    refine q_get (.ref ((A 1) 0)) K ws_X3 0 rfl rfl 0 (by decide) fl_X3_12 rfl dX3_now_57 ?_
    refine q_cvI (q0 := 0) (As := []) (rest := []) K kv_X0_notShut (c_X0_notShut (k_l M) (k_Z M) (A 1) (a_F X)) (w_G (k_Z M) A (a_kp X) (a_fd X)) (w_F (k_Z M) (A 2) T ++ (w_F (k_Z M) (A 3) (a_K X) ++ (w_T (k_Z M) (A 4) (t_of (a_tp X) J) ++ (w_SS (k_Z M) A (a_S X))))) rfl rfl rfl ml_X3_119 rfl rfl (Nat.le_of_ble_eq_true rfl) ⟨Nat.le_of_ble_eq_true rfl, Nat.le_of_ble_eq_true rfl⟩ dX3_now_60 (fun r_7 w2 h_6 => ?_)
    obtain ⟨e_r_7, rfl⟩ := h_6
    refine q_eqi (f_ns (a_F X) 8) e_r_7 ?_
    refine q_ws (ws' := w_G (k_Z M) A (a_kp X) (a_fd X) ++ (w_F (k_Z M) (A 1) (a_F X) ++ (w_F (k_Z M) (A 2) T ++ (w_F (k_Z M) (A 3) (a_K X) ++ (w_T (k_Z M) (A 4) (t_of (a_tp X) J) ++ (w_SS (k_Z M) A (a_S X))))))) rfl ?_
    exact Rt _ _ (f_ns (a_F X) 8) (w_G (k_Z M) A (a_kp X) (a_fd X) ++ (w_F (k_Z M) (A 1) (a_F X) ++ (w_F (k_Z M) (A 2) T ++ (w_F (k_Z M) (A 3) (a_K X) ++ (w_T (k_Z M) (A 4) (t_of (a_tp X) J) ++ (w_SS (k_Z M) A (a_S X))))))) dX3_now_63 rfl (⟨T, J, by simp only [o_now, a_fin, if_neg c_1, if_neg c_2, if_pos c_5, f_mm hm hm2], by simp only [o_now, a_fin, if_neg c_1, if_neg c_2, if_pos c_5, f_mm hm hm2]; rfl⟩)
  by_cases c_8 : what = 3
  · refine q_tableIn (off := 63) 64 K dX3_now_1 (by rw [c_8]; decide) (by rw [c_8]; decide) (by rw [c_8]; rfl) (by decide) ?_
    refine q_aload_n K 0 dX3_now_64 rfl ?_
    refine q_get (.ref ((A 1) 0)) K ws_X3 0 rfl rfl 0 (by decide) fl_X3_12 rfl dX3_now_65 ?_
    refine q_cvI (q0 := 0) (As := []) (rest := []) K kv_X0_standingByFour (c_X0_standingByFour (k_l M) (k_Z M) (A 1) (a_F X)) (w_G (k_Z M) A (a_kp X) (a_fd X)) (w_F (k_Z M) (A 2) T ++ (w_F (k_Z M) (A 3) (a_K X) ++ (w_T (k_Z M) (A 4) (t_of (a_tp X) J) ++ (w_SS (k_Z M) A (a_S X))))) rfl rfl rfl ml_X3_112 rfl rfl (Nat.le_of_ble_eq_true rfl) ⟨Nat.le_of_ble_eq_true rfl, Nat.le_of_ble_eq_true rfl⟩ dX3_now_68 (fun r_10 w2 h_9 => ?_)
    obtain ⟨e_r_10, rfl⟩ := h_9
    refine q_eqi (f_by4 (a_F X)) e_r_10 ?_
    refine q_ws (ws' := w_G (k_Z M) A (a_kp X) (a_fd X) ++ (w_F (k_Z M) (A 1) (a_F X) ++ (w_F (k_Z M) (A 2) T ++ (w_F (k_Z M) (A 3) (a_K X) ++ (w_T (k_Z M) (A 4) (t_of (a_tp X) J) ++ (w_SS (k_Z M) A (a_S X))))))) rfl ?_
    exact Rt _ _ (f_by4 (a_F X)) (w_G (k_Z M) A (a_kp X) (a_fd X) ++ (w_F (k_Z M) (A 1) (a_F X) ++ (w_F (k_Z M) (A 2) T ++ (w_F (k_Z M) (A 3) (a_K X) ++ (w_T (k_Z M) (A 4) (t_of (a_tp X) J) ++ (w_SS (k_Z M) A (a_S X))))))) dX3_now_71 rfl (⟨T, J, by simp only [o_now, a_fin, if_neg c_1, if_neg c_2, if_neg c_5, if_pos c_8, f_mm hm hm2], by simp only [o_now, a_fin, if_neg c_1, if_neg c_2, if_neg c_5, if_pos c_8, f_mm hm hm2]; rfl⟩)
  by_cases c_11 : what = 4
  · refine q_tableIn (off := 71) 72 K dX3_now_1 (by rw [c_11]; decide) (by rw [c_11]; decide) (by rw [c_11]; rfl) (by decide) ?_
    refine q_aload_n K 0 dX3_now_72 rfl ?_
    refine q_get (.ref ((A 1) 0)) K ws_X3 0 rfl rfl 0 (by decide) fl_X3_12 rfl dX3_now_73 ?_
    refine q_cvI (q0 := 0) (As := []) (rest := []) K kv_X0_allPassed (c_X0_allPassed (k_l M) (k_Z M) (A 1) (a_F X) m hm hm2) (w_G (k_Z M) A (a_kp X) (a_fd X)) (w_F (k_Z M) (A 2) T ++ (w_F (k_Z M) (A 3) (a_K X) ++ (w_T (k_Z M) (A 4) (t_of (a_tp X) J) ++ (w_SS (k_Z M) A (a_S X))))) rfl rfl rfl ml_X3_122 rfl rfl (Nat.le_of_ble_eq_true rfl) ⟨Nat.le_of_ble_eq_true rfl, Nat.le_of_ble_eq_true rfl⟩ dX3_now_76 (fun r_13 w2 h_12 => ?_)
    obtain ⟨e_r_13, rfl⟩ := h_12
    refine q_eqi (f_sump (a_F X) m) e_r_13 ?_
    refine q_ws (ws' := w_G (k_Z M) A (a_kp X) (a_fd X) ++ (w_F (k_Z M) (A 1) (a_F X) ++ (w_F (k_Z M) (A 2) T ++ (w_F (k_Z M) (A 3) (a_K X) ++ (w_T (k_Z M) (A 4) (t_of (a_tp X) J) ++ (w_SS (k_Z M) A (a_S X))))))) rfl ?_
    exact Rt _ _ (f_sump (a_F X) m) (w_G (k_Z M) A (a_kp X) (a_fd X) ++ (w_F (k_Z M) (A 1) (a_F X) ++ (w_F (k_Z M) (A 2) T ++ (w_F (k_Z M) (A 3) (a_K X) ++ (w_T (k_Z M) (A 4) (t_of (a_tp X) J) ++ (w_SS (k_Z M) A (a_S X))))))) dX3_now_79 rfl (⟨T, J, by simp only [o_now, a_fin, if_neg c_1, if_neg c_2, if_neg c_5, if_neg c_8, if_pos c_11, f_mm hm hm2], by simp only [o_now, a_fin, if_neg c_1, if_neg c_2, if_neg c_5, if_neg c_8, if_pos c_11, f_mm hm hm2]; rfl⟩)
  by_cases c_14 : what = 5
  · refine q_tableIn (off := 79) 80 K dX3_now_1 (by rw [c_14]; decide) (by rw [c_14]; decide) (by rw [c_14]; rfl) (by decide) ?_
    refine q_aload_n K 0 dX3_now_80 rfl ?_
    refine q_get (.ref ((A 1) 0)) K ws_X3 0 rfl rfl 0 (by decide) fl_X3_12 rfl dX3_now_81 ?_
    refine q_cvI (q0 := 0) (As := []) (rest := []) K kv_X0_fullestField (c_X0_fullestField (k_l M) (k_Z M) (A 1) (a_F X)) (w_G (k_Z M) A (a_kp X) (a_fd X)) (w_F (k_Z M) (A 2) T ++ (w_F (k_Z M) (A 3) (a_K X) ++ (w_T (k_Z M) (A 4) (t_of (a_tp X) J) ++ (w_SS (k_Z M) A (a_S X))))) rfl rfl rfl ml_X3_125 rfl rfl (Nat.le_of_ble_eq_true rfl) ⟨Nat.le_of_ble_eq_true rfl, Nat.le_of_ble_eq_true rfl⟩ dX3_now_84 (fun r_16 w2 h_15 => ?_)
    obtain ⟨e_r_16, rfl⟩ := h_15
    refine q_eqi (nI (f_best (a_F X) 8)) e_r_16 ?_
    refine q_ws (ws' := w_G (k_Z M) A (a_kp X) (a_fd X) ++ (w_F (k_Z M) (A 1) (a_F X) ++ (w_F (k_Z M) (A 2) T ++ (w_F (k_Z M) (A 3) (a_K X) ++ (w_T (k_Z M) (A 4) (t_of (a_tp X) J) ++ (w_SS (k_Z M) A (a_S X))))))) rfl ?_
    exact Rt _ _ (nI (f_best (a_F X) 8)) (w_G (k_Z M) A (a_kp X) (a_fd X) ++ (w_F (k_Z M) (A 1) (a_F X) ++ (w_F (k_Z M) (A 2) T ++ (w_F (k_Z M) (A 3) (a_K X) ++ (w_T (k_Z M) (A 4) (t_of (a_tp X) J) ++ (w_SS (k_Z M) A (a_S X))))))) dX3_now_87 rfl (⟨T, J, by simp only [o_now, a_fin, if_neg c_1, if_neg c_2, if_neg c_5, if_neg c_8, if_neg c_11, if_pos c_14, f_mm hm hm2], by simp only [o_now, a_fin, if_neg c_1, if_neg c_2, if_neg c_5, if_neg c_8, if_neg c_11, if_pos c_14, f_mm hm hm2]; rfl⟩)
  refine q_tableOut 88 K dX3_now_1 (by have := lv_neT (a := 0) c_1 rfl; have := lv_neT (a := 1) c_2 rfl; have := lv_neT (a := 2) c_5 rfl; have := lv_neT (a := 3) c_8 rfl; have := lv_neT (a := 4) c_11 rfl; have := lv_neT (a := 5) c_14 rfl; omega) (by decide) ?_
  refine q_aload_n K 0 dX3_now_88 rfl ?_
  refine q_iconst 0 K dX3_now_89 rfl ?_
  refine q_wI (q0 := 0) (As := [.int 0]) (rest := []) K kv_X3_finding (c_X3_finding (k_l M) (k_Z M) A X T J 0 (by omega)) rfl rfl ml_X3_52 rfl rfl (Nat.le_of_ble_eq_true rfl) ⟨Nat.le_of_ble_eq_true rfl, Nat.le_of_ble_eq_true rfl⟩ dX3_now_90 (fun r_18 w2 h_17 => ?_)
  obtain ⟨e_r_18, rfl⟩ := h_17
  refine q_eqi (r_fin 0) e_r_18 ?_
  refine q_ws (ws' := w_G (k_Z M) A (a_kp X) (fd_up (a_fd X) 0) ++ (w_F (k_Z M) (A 1) (a_F X) ++ (w_F (k_Z M) (A 2) T ++ (w_F (k_Z M) (A 3) (a_K X) ++ (w_T (k_Z M) (A 4) (t_of (a_tp X) J) ++ (w_SS (k_Z M) A (a_S X))))))) rfl ?_
  exact Rt _ _ (r_fin 0) (w_G (k_Z M) A (a_kp X) (fd_up (a_fd X) 0) ++ (w_F (k_Z M) (A 1) (a_F X) ++ (w_F (k_Z M) (A 2) T ++ (w_F (k_Z M) (A 3) (a_K X) ++ (w_T (k_Z M) (A 4) (t_of (a_tp X) J) ++ (w_SS (k_Z M) A (a_S X))))))) dX3_now_93 rfl (⟨T, J, by simp only [o_now, a_fin, if_neg c_1, if_neg c_2, if_neg c_5, if_neg c_8, if_neg c_11, if_neg c_14, f_mm hm hm2], by simp only [o_now, a_fin, if_neg c_1, if_neg c_2, if_neg c_5, if_neg c_8, if_neg c_11, if_neg c_14, f_mm hm hm2]; rfl⟩)
theorem kv_X3_now : k_iv yX3_now cX3_now 2 (some .int) 1 := ⟨⟨im_X3_now, se_X3_now⟩, in_X3, co_X3_now, by decide +kernel⟩
set_option maxHeartbeats 4000000 in
set_option maxRecDepth 100000 in
theorem c_X3_tryHours (l : Launch) (Z : kz_Z) (A : Nat → Nat → Nat) (X : AS) (T : FS) (J : TJ) (m : Nat) (hm : m ≤ 8) (hm2 : f_wk (a_F X) = nI m) (n : Nat) (hn : n ≤ 100) : KV l Z yX3_tryHours cX3_tryHours 2 5 110 [.ref ((A 0) 0), .int (nI n)] (w_G Z A (a_kp X) (a_fd X) ++ (w_F Z (A 1) (a_F X) ++ (w_F Z (A 2) T ++ (w_F Z (A 3) (a_K X) ++ (w_T Z (A 4) (t_of (a_tp X) J) ++ (w_SS Z A (a_S X))))))) (fun w2 => w2 = w_C Z A X (f_hoursC goA (a_F X) n) J) := by
  refine kv_of (by decide) [(0, .ref ((A 0) 0)), (1, .int (nI n))] (Nat.le_of_ble_eq_true rfl) rfl ?_
  intro M e1 e2 K Rt
  subst e1 e2
  refine q_aload_n K 0 dX3_tryHours_0 rfl ?_
  refine q_get (.ref ((A 2) 0)) K ws_X3 0 rfl rfl 1 (by decide) fl_X3_16 rfl dX3_tryHours_1 ?_
  refine q_aload_n K 0 dX3_tryHours_4 rfl ?_
  refine q_get (.ref ((A 1) 0)) K ws_X3 0 rfl rfl 0 (by decide) fl_X3_12 rfl dX3_tryHours_5 ?_
  refine q_cvV (q0 := 10) (As := [.ref ((A 1) 0)]) (rest := []) K kv_X0_become (c_X0_becomeR (k_l M) (k_Z M) (A 2) (A 1) T (a_F X)) (w_G (k_Z M) A (a_kp X) (a_fd X)) (w_F (k_Z M) (A 3) (a_K X) ++ (w_T (k_Z M) (A 4) (t_of (a_tp X) J) ++ (w_SS (k_Z M) A (a_S X)))) rfl rfl rfl ml_X3_132 rfl rfl (Nat.le_of_ble_eq_true rfl) ⟨Nat.le_of_ble_eq_true rfl, Nat.le_of_ble_eq_true rfl⟩ dX3_tryHours_8 (fun w2 h_1 => ?_)
  obtain rfl := h_1
  refine q_ws (ws' := w_G (k_Z M) A (a_kp X) (a_fd X) ++ (w_F (k_Z M) (A 1) (a_F X) ++ (w_F (k_Z M) (A 2) (a_F X) ++ (w_F (k_Z M) (A 3) (a_K X) ++ (w_T (k_Z M) (A 4) (t_of (a_tp X) J) ++ (w_SS (k_Z M) A (a_S X))))))) rfl ?_
  refine q_aload_n K 0 dX3_tryHours_11 rfl ?_
  refine q_get (.ref ((A 2) 0)) K ws_X3 0 rfl rfl 1 (by decide) fl_X3_16 rfl dX3_tryHours_12 ?_
  refine q_iload_n K 1 dX3_tryHours_15 rfl ?_
  refine q_sipush 255 K dX3_tryHours_16 rfl ?_
  refine q_cvV (q0 := 0) (As := [.int (nI n), .int 255]) (rest := []) K kv_X0_passHours (c_X0_passHours (k_l M) (k_Z M) (A 2) (a_F X) m hm hm2 n (by omega) 255) (w_G (k_Z M) A (a_kp X) (a_fd X) ++ (w_F (k_Z M) (A 1) (a_F X))) (w_F (k_Z M) (A 3) (a_K X) ++ (w_T (k_Z M) (A 4) (t_of (a_tp X) J) ++ (w_SS (k_Z M) A (a_S X)))) rfl rfl rfl ml_X3_108 rfl rfl (Nat.le_of_ble_eq_true rfl) ⟨Nat.le_of_ble_eq_true rfl, Nat.le_of_ble_eq_true rfl⟩ dX3_tryHours_19 (fun w2 h_2 => ?_)
  obtain rfl := h_2
  refine q_ws (ws' := w_G (k_Z M) A (a_kp X) (a_fd X) ++ (w_F (k_Z M) (A 1) (a_F X) ++ (w_F (k_Z M) (A 2) (f_hoursC (f_gm 255) (a_F X) n) ++ (w_F (k_Z M) (A 3) (a_K X) ++ (w_T (k_Z M) (A 4) (t_of (a_tp X) J) ++ (w_SS (k_Z M) A (a_S X))))))) rfl ?_
  exact Rt _ _ (w_G (k_Z M) A (a_kp X) (a_fd X) ++ (w_F (k_Z M) (A 1) (a_F X) ++ (w_F (k_Z M) (A 2) (f_hoursC (f_gm 255) (a_F X) n) ++ (w_F (k_Z M) (A 3) (a_K X) ++ (w_T (k_Z M) (A 4) (t_of (a_tp X) J) ++ (w_SS (k_Z M) A (a_S X))))))) dX3_tryHours_22 (rfl)
theorem kv_X3_tryHours : k_iv yX3_tryHours cX3_tryHours 2 none 1 := ⟨⟨im_X3_tryHours, se_X3_tryHours⟩, in_X3, co_X3_tryHours, by decide +kernel⟩
set_option maxHeartbeats 4000000 in
set_option maxRecDepth 100000 in
theorem c_X3_ahead (l : Launch) (Z : kz_Z) (A : Nat → Nat → Nat) (X : AS) (T : FS) (J : TJ) (m : Nat) (hm : m ≤ 8) (hm2 : f_wk (a_F X) = nI m) (field n : Int32) : KI l Z yX3_ahead cX3_ahead 3 .int 6 131 [.ref ((A 0) 0), .int field, .int n] (w_G Z A (a_kp X) (a_fd X) ++ (w_F Z (A 1) (a_F X) ++ (w_F Z (A 2) T ++ (w_F Z (A 3) (a_K X) ++ (w_T Z (A 4) (t_of (a_tp X) J) ++ (w_SS Z A (a_S X))))))) (fun r w2 => ∃ T2 J2, r = (o_ahead X field n).1 ∧ w2 = w_C Z A (o_ahead X field n).2 T2 J2) := by
  refine ki_of (by decide) [(0, .ref ((A 0) 0)), (1, .int field), (2, .int n)] (Nat.le_of_ble_eq_true rfl) rfl ?_
  intro M e1 e2 K Rt
  subst e1 e2
  refine q_iload_n K 1 dX3_ahead_0 rfl ?_
  refine q_cp (rest := []) K ks_X3_isField (c_X3_isField (k_l M) (k_Z M) field) ml_X3_44 rfl rfl (Nat.le_of_ble_eq_true rfl) ⟨Nat.le_of_ble_eq_true rfl, Nat.le_of_ble_eq_true rfl⟩ dX3_ahead_1 (fun r_1 e_r_1 => ?_)
  refine q_if_eq 17 K dX3_ahead_4 (by decide) (fun c_2 => ?_) (fun c_2 => ?_)
  · have c_2 : ¬ (inR field 0 8) := (kn_eq e_r_1).mp c_2
    refine q_aload_n K 0 dX3_ahead_17 rfl ?_
    refine q_iconst 0 K dX3_ahead_18 rfl ?_
    refine q_wI (q0 := 0) (As := [.int 0]) (rest := []) K kv_X3_finding (c_X3_finding (k_l M) (k_Z M) A X T J 0 (by omega)) rfl rfl ml_X3_52 rfl rfl (Nat.le_of_ble_eq_true rfl) ⟨Nat.le_of_ble_eq_true rfl, Nat.le_of_ble_eq_true rfl⟩ dX3_ahead_19 (fun r_4 w2 h_3 => ?_)
    obtain ⟨e_r_4, rfl⟩ := h_3
    refine q_eqi (r_fin 0) e_r_4 ?_
    refine q_ws (ws' := w_G (k_Z M) A (a_kp X) (fd_up (a_fd X) 0) ++ (w_F (k_Z M) (A 1) (a_F X) ++ (w_F (k_Z M) (A 2) T ++ (w_F (k_Z M) (A 3) (a_K X) ++ (w_T (k_Z M) (A 4) (t_of (a_tp X) J) ++ (w_SS (k_Z M) A (a_S X))))))) rfl ?_
    exact Rt _ _ (r_fin 0) (w_G (k_Z M) A (a_kp X) (fd_up (a_fd X) 0) ++ (w_F (k_Z M) (A 1) (a_F X) ++ (w_F (k_Z M) (A 2) T ++ (w_F (k_Z M) (A 3) (a_K X) ++ (w_T (k_Z M) (A 4) (t_of (a_tp X) J) ++ (w_SS (k_Z M) A (a_S X))))))) dX3_ahead_22 rfl (⟨T, J, by simp only [o_ahead, a_fin, if_neg c_2, e_r_1], by simp only [o_ahead, a_fin, if_neg c_2]; rfl⟩)
  · have c_2 : inR field 0 8 := (kn_ne e_r_1).mp c_2
    obtain ⟨f, h_f, e_f⟩ := kn_rng (n := 8) c_2 rfl
    subst e_f
    refine q_iload_n K 2 dX3_ahead_7 rfl ?_
    refine q_iconst 0 K dX3_ahead_8 rfl ?_
    refine q_bipush 100 K dX3_ahead_9 rfl ?_
    refine q_cp (rest := []) K ks_X3_isIn (c_X3_isIn (k_l M) (k_Z M) n 0 100) ml_X3_48 rfl rfl (Nat.le_of_ble_eq_true rfl) ⟨Nat.le_of_ble_eq_true rfl, Nat.le_of_ble_eq_true rfl⟩ dX3_ahead_11 (fun r_5 e_r_5 => ?_)
    refine q_if_ne 23 K dX3_ahead_14 (by decide) (fun c_6 => ?_) (fun c_6 => ?_)
    · have c_6 : inR n 0 100 := (kn_ne e_r_5).mp c_6
      obtain ⟨k, h_k, e_k⟩ := kn_rng (n := 100) c_6 rfl
      subst e_k
      refine q_aload_n K 0 dX3_ahead_23 rfl ?_
      refine q_iload_n K 2 dX3_ahead_24 rfl ?_
      refine q_wV (q0 := 0) (As := [.int (nI k)]) (rest := []) K kv_X3_tryHours (c_X3_tryHours (k_l M) (k_Z M) A X T J m hm hm2 k (by omega)) rfl rfl ml_X3_128 rfl rfl (Nat.le_of_ble_eq_true rfl) ⟨Nat.le_of_ble_eq_true rfl, Nat.le_of_ble_eq_true rfl⟩ dX3_ahead_25 (fun w2 h_7 => ?_)
      obtain rfl := h_7
      refine q_ws (ws' := w_G (k_Z M) A (a_kp X) (a_fd X) ++ (w_F (k_Z M) (A 1) (a_F X) ++ (w_F (k_Z M) (A 2) (f_hoursC goA (a_F X) k) ++ (w_F (k_Z M) (A 3) (a_K X) ++ (w_T (k_Z M) (A 4) (t_of (a_tp X) J) ++ (w_SS (k_Z M) A (a_S X))))))) rfl ?_
      refine q_aload_n K 0 dX3_ahead_28 rfl ?_
      refine q_get (.ref ((A 2) 0)) K ws_X3 0 rfl rfl 1 (by decide) fl_X3_16 rfl dX3_ahead_29 ?_
      refine q_get (.ref ((A 2) 1)) K ws_X0 13 rfl rfl 0 (by decide) fl_X3_56 rfl dX3_ahead_32 ?_
      refine q_iload_n K 1 dX3_ahead_35 rfl ?_
      refine q_iald K 14 rfl (vp_in_nI (n := f) (N := 9) (by omega) (by omega)) dX3_ahead_36 ?_
      refine q_eqi ((f_bs (f_hoursC goA (a_F X) k)) f) (by rw [nI_clamp (n := f) (by omega)]) ?_
      exact Rt _ _ ((f_bs (f_hoursC goA (a_F X) k)) f) (w_G (k_Z M) A (a_kp X) (a_fd X) ++ (w_F (k_Z M) (A 1) (a_F X) ++ (w_F (k_Z M) (A 2) (f_hoursC goA (a_F X) k) ++ (w_F (k_Z M) (A 3) (a_K X) ++ (w_T (k_Z M) (A 4) (t_of (a_tp X) J) ++ (w_SS (k_Z M) A (a_S X))))))) dX3_ahead_37 rfl (⟨f_hoursC goA (a_F X) k, J, by simp only [o_ahead, a_fin, if_pos c_2, if_pos c_6, e_r_1, e_r_5, nI_clamp (n := f) (by omega), nI_clamp (n := k) (by omega)], by simp only [o_ahead, a_fin, if_pos c_2, if_pos c_6, nI_clamp (n := f) (by omega), nI_clamp (n := k) (by omega)]; rfl⟩)
    · have c_6 : ¬ (inR n 0 100) := (kn_eq e_r_5).mp c_6
      refine q_aload_n K 0 dX3_ahead_17 rfl ?_
      refine q_iconst 0 K dX3_ahead_18 rfl ?_
      refine q_wI (q0 := 0) (As := [.int 0]) (rest := []) K kv_X3_finding (c_X3_finding (k_l M) (k_Z M) A X T J 0 (by omega)) rfl rfl ml_X3_52 rfl rfl (Nat.le_of_ble_eq_true rfl) ⟨Nat.le_of_ble_eq_true rfl, Nat.le_of_ble_eq_true rfl⟩ dX3_ahead_19 (fun r_10 w2 h_9 => ?_)
      obtain ⟨e_r_10, rfl⟩ := h_9
      refine q_eqi (r_fin 0) e_r_10 ?_
      refine q_ws (ws' := w_G (k_Z M) A (a_kp X) (fd_up (a_fd X) 0) ++ (w_F (k_Z M) (A 1) (a_F X) ++ (w_F (k_Z M) (A 2) T ++ (w_F (k_Z M) (A 3) (a_K X) ++ (w_T (k_Z M) (A 4) (t_of (a_tp X) J) ++ (w_SS (k_Z M) A (a_S X))))))) rfl ?_
      exact Rt _ _ (r_fin 0) (w_G (k_Z M) A (a_kp X) (fd_up (a_fd X) 0) ++ (w_F (k_Z M) (A 1) (a_F X) ++ (w_F (k_Z M) (A 2) T ++ (w_F (k_Z M) (A 3) (a_K X) ++ (w_T (k_Z M) (A 4) (t_of (a_tp X) J) ++ (w_SS (k_Z M) A (a_S X))))))) dX3_ahead_22 rfl (⟨T, J, by simp only [o_ahead, a_fin, if_pos c_2, if_neg c_6, e_r_1, e_r_5, nI_clamp (n := f) (by omega)], by simp only [o_ahead, a_fin, if_pos c_2, if_neg c_6, nI_clamp (n := f) (by omega)]; rfl⟩)
theorem kv_X3_ahead : k_iv yX3_ahead cX3_ahead 3 (some .int) 2 := ⟨⟨im_X3_ahead, se_X3_ahead⟩, in_X3, co_X3_ahead, by decide +kernel⟩
set_option maxHeartbeats 4000000 in
set_option maxRecDepth 100000 in
theorem c_X3_stand (l : Launch) (Z : kz_Z) (A : Nat → Nat → Nat) (X : AS) (T : FS) (J : TJ) (m : Nat) (hm : m ≤ 8) (hm2 : f_wk (a_F X) = nI m) (gate n : Int32) : KI l Z yX3_stand cX3_stand 3 .int 6 131 [.ref ((A 0) 0), .int gate, .int n] (w_G Z A (a_kp X) (a_fd X) ++ (w_F Z (A 1) (a_F X) ++ (w_F Z (A 2) T ++ (w_F Z (A 3) (a_K X) ++ (w_T Z (A 4) (t_of (a_tp X) J) ++ (w_SS Z A (a_S X))))))) (fun r w2 => ∃ T2 J2, r = (o_stand X gate n).1 ∧ w2 = w_C Z A (o_stand X gate n).2 T2 J2) := by
  refine ki_of (by decide) [(0, .ref ((A 0) 0)), (1, .int gate), (2, .int n)] (Nat.le_of_ble_eq_true rfl) rfl ?_
  intro M e1 e2 K Rt
  subst e1 e2
  refine q_iload_n K 1 dX3_stand_0 rfl ?_
  refine q_cp (rest := []) K ks_X3_isGate (c_X3_isGate (k_l M) (k_Z M) gate) ml_X3_62 rfl rfl (Nat.le_of_ble_eq_true rfl) ⟨Nat.le_of_ble_eq_true rfl, Nat.le_of_ble_eq_true rfl⟩ dX3_stand_1 (fun r_1 e_r_1 => ?_)
  refine q_if_eq 17 K dX3_stand_4 (by decide) (fun c_2 => ?_) (fun c_2 => ?_)
  · have c_2 : ¬ (inR gate 0 7) := (kn_eq e_r_1).mp c_2
    refine q_aload_n K 0 dX3_stand_17 rfl ?_
    refine q_iconst 0 K dX3_stand_18 rfl ?_
    refine q_wI (q0 := 0) (As := [.int 0]) (rest := []) K kv_X3_finding (c_X3_finding (k_l M) (k_Z M) A X T J 0 (by omega)) rfl rfl ml_X3_52 rfl rfl (Nat.le_of_ble_eq_true rfl) ⟨Nat.le_of_ble_eq_true rfl, Nat.le_of_ble_eq_true rfl⟩ dX3_stand_19 (fun r_4 w2 h_3 => ?_)
    obtain ⟨e_r_4, rfl⟩ := h_3
    refine q_eqi (r_fin 0) e_r_4 ?_
    refine q_ws (ws' := w_G (k_Z M) A (a_kp X) (fd_up (a_fd X) 0) ++ (w_F (k_Z M) (A 1) (a_F X) ++ (w_F (k_Z M) (A 2) T ++ (w_F (k_Z M) (A 3) (a_K X) ++ (w_T (k_Z M) (A 4) (t_of (a_tp X) J) ++ (w_SS (k_Z M) A (a_S X))))))) rfl ?_
    exact Rt _ _ (r_fin 0) (w_G (k_Z M) A (a_kp X) (fd_up (a_fd X) 0) ++ (w_F (k_Z M) (A 1) (a_F X) ++ (w_F (k_Z M) (A 2) T ++ (w_F (k_Z M) (A 3) (a_K X) ++ (w_T (k_Z M) (A 4) (t_of (a_tp X) J) ++ (w_SS (k_Z M) A (a_S X))))))) dX3_stand_22 rfl (⟨T, J, by simp only [o_stand, a_fin, if_neg c_2, e_r_1], by simp only [o_stand, a_fin, if_neg c_2]; rfl⟩)
  · have c_2 : inR gate 0 7 := (kn_ne e_r_1).mp c_2
    obtain ⟨g, h_g, e_g⟩ := kn_rng (n := 7) c_2 rfl
    subst e_g
    refine q_iload_n K 2 dX3_stand_7 rfl ?_
    refine q_iconst 0 K dX3_stand_8 rfl ?_
    refine q_bipush 100 K dX3_stand_9 rfl ?_
    refine q_cp (rest := []) K ks_X3_isIn (c_X3_isIn (k_l M) (k_Z M) n 0 100) ml_X3_48 rfl rfl (Nat.le_of_ble_eq_true rfl) ⟨Nat.le_of_ble_eq_true rfl, Nat.le_of_ble_eq_true rfl⟩ dX3_stand_11 (fun r_5 e_r_5 => ?_)
    refine q_if_ne 23 K dX3_stand_14 (by decide) (fun c_6 => ?_) (fun c_6 => ?_)
    · have c_6 : inR n 0 100 := (kn_ne e_r_5).mp c_6
      obtain ⟨k, h_k, e_k⟩ := kn_rng (n := 100) c_6 rfl
      subst e_k
      refine q_aload_n K 0 dX3_stand_23 rfl ?_
      refine q_iload_n K 2 dX3_stand_24 rfl ?_
      refine q_wV (q0 := 0) (As := [.int (nI k)]) (rest := []) K kv_X3_tryHours (c_X3_tryHours (k_l M) (k_Z M) A X T J m hm hm2 k (by omega)) rfl rfl ml_X3_128 rfl rfl (Nat.le_of_ble_eq_true rfl) ⟨Nat.le_of_ble_eq_true rfl, Nat.le_of_ble_eq_true rfl⟩ dX3_stand_25 (fun w2 h_7 => ?_)
      obtain rfl := h_7
      refine q_ws (ws' := w_G (k_Z M) A (a_kp X) (a_fd X) ++ (w_F (k_Z M) (A 1) (a_F X) ++ (w_F (k_Z M) (A 2) (f_hoursC goA (a_F X) k) ++ (w_F (k_Z M) (A 3) (a_K X) ++ (w_T (k_Z M) (A 4) (t_of (a_tp X) J) ++ (w_SS (k_Z M) A (a_S X))))))) rfl ?_
      refine q_aload_n K 0 dX3_stand_28 rfl ?_
      refine q_get (.ref ((A 2) 0)) K ws_X3 0 rfl rfl 1 (by decide) fl_X3_16 rfl dX3_stand_29 ?_
      refine q_get (.ref ((A 2) 2)) K ws_X0 13 rfl rfl 1 (by decide) fl_X3_68 rfl dX3_stand_32 ?_
      refine q_iload_n K 1 dX3_stand_35 rfl ?_
      refine q_iald K 15 rfl (vp_in_nI (n := g) (N := 8) (by omega) (by omega)) dX3_stand_36 ?_
      refine q_eqi ((f_gs (f_hoursC goA (a_F X) k)) g) (by rw [nI_clamp (n := g) (by omega)]) ?_
      exact Rt _ _ ((f_gs (f_hoursC goA (a_F X) k)) g) (w_G (k_Z M) A (a_kp X) (a_fd X) ++ (w_F (k_Z M) (A 1) (a_F X) ++ (w_F (k_Z M) (A 2) (f_hoursC goA (a_F X) k) ++ (w_F (k_Z M) (A 3) (a_K X) ++ (w_T (k_Z M) (A 4) (t_of (a_tp X) J) ++ (w_SS (k_Z M) A (a_S X))))))) dX3_stand_37 rfl (⟨f_hoursC goA (a_F X) k, J, by simp only [o_stand, a_fin, if_pos c_2, if_pos c_6, e_r_1, e_r_5, nI_clamp (n := g) (by omega), nI_clamp (n := k) (by omega)], by simp only [o_stand, a_fin, if_pos c_2, if_pos c_6, nI_clamp (n := g) (by omega), nI_clamp (n := k) (by omega)]; rfl⟩)
    · have c_6 : ¬ (inR n 0 100) := (kn_eq e_r_5).mp c_6
      refine q_aload_n K 0 dX3_stand_17 rfl ?_
      refine q_iconst 0 K dX3_stand_18 rfl ?_
      refine q_wI (q0 := 0) (As := [.int 0]) (rest := []) K kv_X3_finding (c_X3_finding (k_l M) (k_Z M) A X T J 0 (by omega)) rfl rfl ml_X3_52 rfl rfl (Nat.le_of_ble_eq_true rfl) ⟨Nat.le_of_ble_eq_true rfl, Nat.le_of_ble_eq_true rfl⟩ dX3_stand_19 (fun r_10 w2 h_9 => ?_)
      obtain ⟨e_r_10, rfl⟩ := h_9
      refine q_eqi (r_fin 0) e_r_10 ?_
      refine q_ws (ws' := w_G (k_Z M) A (a_kp X) (fd_up (a_fd X) 0) ++ (w_F (k_Z M) (A 1) (a_F X) ++ (w_F (k_Z M) (A 2) T ++ (w_F (k_Z M) (A 3) (a_K X) ++ (w_T (k_Z M) (A 4) (t_of (a_tp X) J) ++ (w_SS (k_Z M) A (a_S X))))))) rfl ?_
      exact Rt _ _ (r_fin 0) (w_G (k_Z M) A (a_kp X) (fd_up (a_fd X) 0) ++ (w_F (k_Z M) (A 1) (a_F X) ++ (w_F (k_Z M) (A 2) T ++ (w_F (k_Z M) (A 3) (a_K X) ++ (w_T (k_Z M) (A 4) (t_of (a_tp X) J) ++ (w_SS (k_Z M) A (a_S X))))))) dX3_stand_22 rfl (⟨T, J, by simp only [o_stand, a_fin, if_pos c_2, if_neg c_6, e_r_1, e_r_5, nI_clamp (n := g) (by omega)], by simp only [o_stand, a_fin, if_pos c_2, if_neg c_6, nI_clamp (n := g) (by omega)]; rfl⟩)
theorem kv_X3_stand : k_iv yX3_stand cX3_stand 3 (some .int) 2 := ⟨⟨im_X3_stand, se_X3_stand⟩, in_X3, co_X3_stand, by decide +kernel⟩
set_option maxHeartbeats 4000000 in
set_option maxRecDepth 100000 in
theorem c_X3_where (l : Launch) (Z : kz_Z) (A : Nat → Nat → Nat) (X : AS) (T : FS) (J : TJ) (m : Nat) (hm : m ≤ 8) (hm2 : f_wk (a_F X) = nI m) (w what n : Int32) : KI l Z yX3_where cX3_where 4 .int 6 131 [.ref ((A 0) 0), .int w, .int what, .int n] (w_G Z A (a_kp X) (a_fd X) ++ (w_F Z (A 1) (a_F X) ++ (w_F Z (A 2) T ++ (w_F Z (A 3) (a_K X) ++ (w_T Z (A 4) (t_of (a_tp X) J) ++ (w_SS Z A (a_S X))))))) (fun r w2 => ∃ T2 J2, r = (o_where X w what n).1 ∧ w2 = w_C Z A (o_where X w what n).2 T2 J2) := by
  refine ki_of (by decide) [(0, .ref ((A 0) 0)), (1, .int w), (2, .int what), (3, .int n)] (Nat.le_of_ble_eq_true rfl) rfl ?_
  intro M e1 e2 K Rt
  subst e1 e2
  refine q_aload_n K 0 dX3_where_0 rfl ?_
  refine q_iload_n K 1 dX3_where_1 rfl ?_
  refine q_wI (q0 := 0) (As := [.int w]) (rest := []) K kv_X3_isWalker (c_X3_isWalker (k_l M) (k_Z M) A X T J w) rfl rfl ml_X3_85 rfl rfl (Nat.le_of_ble_eq_true rfl) ⟨Nat.le_of_ble_eq_true rfl, Nat.le_of_ble_eq_true rfl⟩ dX3_where_2 (fun r_2 w2 h_1 => ?_)
  obtain ⟨e_r_2, rfl⟩ := h_1
  refine q_ws (ws' := w_G (k_Z M) A (a_kp X) (a_fd X) ++ (w_F (k_Z M) (A 1) (a_F X) ++ (w_F (k_Z M) (A 2) T ++ (w_F (k_Z M) (A 3) (a_K X) ++ (w_T (k_Z M) (A 4) (t_of (a_tp X) J) ++ (w_SS (k_Z M) A (a_S X))))))) rfl ?_
  refine q_if_eq 28 K dX3_where_5 (by decide) (fun c_3 => ?_) (fun c_3 => ?_)
  · have c_3 : ¬ (isW X w) := (kn_eq e_r_2).mp c_3
    refine q_aload_n K 0 dX3_where_28 rfl ?_
    refine q_iconst 0 K dX3_where_29 rfl ?_
    refine q_wI (q0 := 0) (As := [.int 0]) (rest := []) K kv_X3_finding (c_X3_finding (k_l M) (k_Z M) A X T J 0 (by omega)) rfl rfl ml_X3_52 rfl rfl (Nat.le_of_ble_eq_true rfl) ⟨Nat.le_of_ble_eq_true rfl, Nat.le_of_ble_eq_true rfl⟩ dX3_where_30 (fun r_5 w2 h_4 => ?_)
    obtain ⟨e_r_5, rfl⟩ := h_4
    refine q_eqi (r_fin 0) e_r_5 ?_
    refine q_ws (ws' := w_G (k_Z M) A (a_kp X) (fd_up (a_fd X) 0) ++ (w_F (k_Z M) (A 1) (a_F X) ++ (w_F (k_Z M) (A 2) T ++ (w_F (k_Z M) (A 3) (a_K X) ++ (w_T (k_Z M) (A 4) (t_of (a_tp X) J) ++ (w_SS (k_Z M) A (a_S X))))))) rfl ?_
    exact Rt _ _ (r_fin 0) (w_G (k_Z M) A (a_kp X) (fd_up (a_fd X) 0) ++ (w_F (k_Z M) (A 1) (a_F X) ++ (w_F (k_Z M) (A 2) T ++ (w_F (k_Z M) (A 3) (a_K X) ++ (w_T (k_Z M) (A 4) (t_of (a_tp X) J) ++ (w_SS (k_Z M) A (a_S X))))))) dX3_where_33 rfl (⟨T, J, by simp only [o_where, a_fin, if_neg c_3, e_r_2] <;> rfl, by simp only [o_where, a_fin, if_neg c_3] <;> rfl⟩)
  · have c_3 : isW X w := (kn_ne e_r_2).mp c_3
    obtain ⟨u, h_u, e_u⟩ := isW_nat hm hm2 c_3
    subst e_u
    refine q_iload_n K 2 dX3_where_8 rfl ?_
    refine q_iconst 1 K dX3_where_9 rfl ?_
    refine q_icmp_eq 18 K dX3_where_10 (by decide) (fun c_6 => ?_) (fun c_6 => ?_)
    · rw [c_6]
      refine q_iload_n K 3 dX3_where_18 rfl ?_
      refine q_iconst 0 K dX3_where_19 rfl ?_
      refine q_bipush 100 K dX3_where_20 rfl ?_
      refine q_cp (rest := []) K ks_X3_isIn (c_X3_isIn (k_l M) (k_Z M) n 0 100) ml_X3_48 rfl rfl (Nat.le_of_ble_eq_true rfl) ⟨Nat.le_of_ble_eq_true rfl, Nat.le_of_ble_eq_true rfl⟩ dX3_where_22 (fun r_7 e_r_7 => ?_)
      refine q_if_ne 34 K dX3_where_25 (by decide) (fun c_8 => ?_) (fun c_8 => ?_)
      · have c_8 : inR n 0 100 := (kn_ne e_r_7).mp c_8
        obtain ⟨k, h_k, e_k⟩ := kn_rng (n := 100) c_8 rfl
        subst e_k
        refine q_aload_n K 0 dX3_where_34 rfl ?_
        refine q_iload_n K 3 dX3_where_35 rfl ?_
        refine q_wV (q0 := 0) (As := [.int (nI k)]) (rest := []) K kv_X3_tryHours (c_X3_tryHours (k_l M) (k_Z M) A X T J m hm hm2 k (by omega)) rfl rfl ml_X3_128 rfl rfl (Nat.le_of_ble_eq_true rfl) ⟨Nat.le_of_ble_eq_true rfl, Nat.le_of_ble_eq_true rfl⟩ dX3_where_36 (fun w2 h_9 => ?_)
        obtain rfl := h_9
        refine q_ws (ws' := w_G (k_Z M) A (a_kp X) (a_fd X) ++ (w_F (k_Z M) (A 1) (a_F X) ++ (w_F (k_Z M) (A 2) (f_hoursC goA (a_F X) k) ++ (w_F (k_Z M) (A 3) (a_K X) ++ (w_T (k_Z M) (A 4) (t_of (a_tp X) J) ++ (w_SS (k_Z M) A (a_S X))))))) rfl ?_
        refine q_aload_n K 0 dX3_where_39 rfl ?_
        refine q_get (.ref ((A 2) 0)) K ws_X3 0 rfl rfl 1 (by decide) fl_X3_16 rfl dX3_where_40 ?_
        refine q_get (.ref ((A 2) 3)) K ws_X0 13 rfl rfl 2 (by decide) fl_X3_91 rfl dX3_where_43 ?_
        refine q_iload_n K 2 dX3_where_46 rfl ?_
        refine q_aldg (y := (A 2) 6) K 16 rfl (vp_in_nI (n := 1) (N := 5) (by omega) (by omega)) rfl dX3_where_47 ?_
        refine q_iload_n K 1 dX3_where_48 rfl ?_
        refine q_iald K 19 rfl (vp_in_nI (n := u) (N := 8) (by omega) (by omega)) dX3_where_49 ?_
        refine q_eqi ((f_fd (f_hoursC goA (a_F X) k)) u) (by rw [nI_clamp (n := u) (by omega)]) ?_
        exact Rt _ _ ((f_fd (f_hoursC goA (a_F X) k)) u) (w_G (k_Z M) A (a_kp X) (a_fd X) ++ (w_F (k_Z M) (A 1) (a_F X) ++ (w_F (k_Z M) (A 2) (f_hoursC goA (a_F X) k) ++ (w_F (k_Z M) (A 3) (a_K X) ++ (w_T (k_Z M) (A 4) (t_of (a_tp X) J) ++ (w_SS (k_Z M) A (a_S X))))))) dX3_where_50 rfl (⟨f_hoursC goA (a_F X) k, J, by simp only [o_where, a_fin, if_pos c_3, if_pos c_6, if_pos c_8, e_r_2, e_r_7, nI_clamp (n := u) (by omega), nI_clamp (n := k) (by omega)] <;> rfl, by simp only [o_where, a_fin, if_pos c_3, if_pos c_6, if_pos c_8, nI_clamp (n := u) (by omega), nI_clamp (n := k) (by omega)] <;> rfl⟩)
      · have c_8 : ¬ (inR n 0 100) := (kn_eq e_r_7).mp c_8
        refine q_aload_n K 0 dX3_where_28 rfl ?_
        refine q_iconst 0 K dX3_where_29 rfl ?_
        refine q_wI (q0 := 0) (As := [.int 0]) (rest := []) K kv_X3_finding (c_X3_finding (k_l M) (k_Z M) A X T J 0 (by omega)) rfl rfl ml_X3_52 rfl rfl (Nat.le_of_ble_eq_true rfl) ⟨Nat.le_of_ble_eq_true rfl, Nat.le_of_ble_eq_true rfl⟩ dX3_where_30 (fun r_12 w2 h_11 => ?_)
        obtain ⟨e_r_12, rfl⟩ := h_11
        refine q_eqi (r_fin 0) e_r_12 ?_
        refine q_ws (ws' := w_G (k_Z M) A (a_kp X) (fd_up (a_fd X) 0) ++ (w_F (k_Z M) (A 1) (a_F X) ++ (w_F (k_Z M) (A 2) T ++ (w_F (k_Z M) (A 3) (a_K X) ++ (w_T (k_Z M) (A 4) (t_of (a_tp X) J) ++ (w_SS (k_Z M) A (a_S X))))))) rfl ?_
        exact Rt _ _ (r_fin 0) (w_G (k_Z M) A (a_kp X) (fd_up (a_fd X) 0) ++ (w_F (k_Z M) (A 1) (a_F X) ++ (w_F (k_Z M) (A 2) T ++ (w_F (k_Z M) (A 3) (a_K X) ++ (w_T (k_Z M) (A 4) (t_of (a_tp X) J) ++ (w_SS (k_Z M) A (a_S X))))))) dX3_where_33 rfl (⟨T, J, by simp only [o_where, a_fin, if_pos c_3, if_pos c_6, if_neg c_8, e_r_2, e_r_7, nI_clamp (n := u) (by omega)] <;> rfl, by simp only [o_where, a_fin, if_pos c_3, if_pos c_6, if_neg c_8, nI_clamp (n := u) (by omega)] <;> rfl⟩)
    · refine q_iload_n K 2 dX3_where_13 rfl ?_
      refine q_iconst 3 K dX3_where_14 rfl ?_
      refine q_icmp_ne 28 K dX3_where_15 (by decide) (fun c_13 => ?_) (fun c_13 => ?_)
      · refine q_aload_n K 0 dX3_where_28 rfl ?_
        refine q_iconst 0 K dX3_where_29 rfl ?_
        refine q_wI (q0 := 0) (As := [.int 0]) (rest := []) K kv_X3_finding (c_X3_finding (k_l M) (k_Z M) A X T J 0 (by omega)) rfl rfl ml_X3_52 rfl rfl (Nat.le_of_ble_eq_true rfl) ⟨Nat.le_of_ble_eq_true rfl, Nat.le_of_ble_eq_true rfl⟩ dX3_where_30 (fun r_15 w2 h_14 => ?_)
        obtain ⟨e_r_15, rfl⟩ := h_14
        refine q_eqi (r_fin 0) e_r_15 ?_
        refine q_ws (ws' := w_G (k_Z M) A (a_kp X) (fd_up (a_fd X) 0) ++ (w_F (k_Z M) (A 1) (a_F X) ++ (w_F (k_Z M) (A 2) T ++ (w_F (k_Z M) (A 3) (a_K X) ++ (w_T (k_Z M) (A 4) (t_of (a_tp X) J) ++ (w_SS (k_Z M) A (a_S X))))))) rfl ?_
        exact Rt _ _ (r_fin 0) (w_G (k_Z M) A (a_kp X) (fd_up (a_fd X) 0) ++ (w_F (k_Z M) (A 1) (a_F X) ++ (w_F (k_Z M) (A 2) T ++ (w_F (k_Z M) (A 3) (a_K X) ++ (w_T (k_Z M) (A 4) (t_of (a_tp X) J) ++ (w_SS (k_Z M) A (a_S X))))))) dX3_where_33 rfl (⟨T, J, by simp only [o_where, a_fin, if_pos c_3, if_neg c_6, if_neg c_13, e_r_2, nI_clamp (n := u) (by omega)] <;> rfl, by simp only [o_where, a_fin, if_pos c_3, if_neg c_6, if_neg c_13, nI_clamp (n := u) (by omega)] <;> rfl⟩)
      · rw [c_13]
        refine q_iload_n K 3 dX3_where_18 rfl ?_
        refine q_iconst 0 K dX3_where_19 rfl ?_
        refine q_bipush 100 K dX3_where_20 rfl ?_
        refine q_cp (rest := []) K ks_X3_isIn (c_X3_isIn (k_l M) (k_Z M) n 0 100) ml_X3_48 rfl rfl (Nat.le_of_ble_eq_true rfl) ⟨Nat.le_of_ble_eq_true rfl, Nat.le_of_ble_eq_true rfl⟩ dX3_where_22 (fun r_16 e_r_16 => ?_)
        refine q_if_ne 34 K dX3_where_25 (by decide) (fun c_17 => ?_) (fun c_17 => ?_)
        · have c_17 : inR n 0 100 := (kn_ne e_r_16).mp c_17
          obtain ⟨k, h_k, e_k⟩ := kn_rng (n := 100) c_17 rfl
          subst e_k
          refine q_aload_n K 0 dX3_where_34 rfl ?_
          refine q_iload_n K 3 dX3_where_35 rfl ?_
          refine q_wV (q0 := 0) (As := [.int (nI k)]) (rest := []) K kv_X3_tryHours (c_X3_tryHours (k_l M) (k_Z M) A X T J m hm hm2 k (by omega)) rfl rfl ml_X3_128 rfl rfl (Nat.le_of_ble_eq_true rfl) ⟨Nat.le_of_ble_eq_true rfl, Nat.le_of_ble_eq_true rfl⟩ dX3_where_36 (fun w2 h_18 => ?_)
          obtain rfl := h_18
          refine q_ws (ws' := w_G (k_Z M) A (a_kp X) (a_fd X) ++ (w_F (k_Z M) (A 1) (a_F X) ++ (w_F (k_Z M) (A 2) (f_hoursC goA (a_F X) k) ++ (w_F (k_Z M) (A 3) (a_K X) ++ (w_T (k_Z M) (A 4) (t_of (a_tp X) J) ++ (w_SS (k_Z M) A (a_S X))))))) rfl ?_
          refine q_aload_n K 0 dX3_where_39 rfl ?_
          refine q_get (.ref ((A 2) 0)) K ws_X3 0 rfl rfl 1 (by decide) fl_X3_16 rfl dX3_where_40 ?_
          refine q_get (.ref ((A 2) 3)) K ws_X0 13 rfl rfl 2 (by decide) fl_X3_91 rfl dX3_where_43 ?_
          refine q_iload_n K 2 dX3_where_46 rfl ?_
          refine q_aldg (y := (A 2) 8) K 16 rfl (vp_in_nI (n := 3) (N := 5) (by omega) (by omega)) rfl dX3_where_47 ?_
          refine q_iload_n K 1 dX3_where_48 rfl ?_
          refine q_iald K 21 rfl (vp_in_nI (n := u) (N := 8) (by omega) (by omega)) dX3_where_49 ?_
          refine q_eqi ((f_md (f_hoursC goA (a_F X) k)) u) (by rw [nI_clamp (n := u) (by omega)]) ?_
          exact Rt _ _ ((f_md (f_hoursC goA (a_F X) k)) u) (w_G (k_Z M) A (a_kp X) (a_fd X) ++ (w_F (k_Z M) (A 1) (a_F X) ++ (w_F (k_Z M) (A 2) (f_hoursC goA (a_F X) k) ++ (w_F (k_Z M) (A 3) (a_K X) ++ (w_T (k_Z M) (A 4) (t_of (a_tp X) J) ++ (w_SS (k_Z M) A (a_S X))))))) dX3_where_50 rfl (⟨f_hoursC goA (a_F X) k, J, by simp only [o_where, a_fin, if_pos c_3, if_neg c_6, if_pos c_13, if_pos c_17, e_r_2, e_r_16, nI_clamp (n := u) (by omega), nI_clamp (n := k) (by omega)] <;> rfl, by simp only [o_where, a_fin, if_pos c_3, if_neg c_6, if_pos c_13, if_pos c_17, nI_clamp (n := u) (by omega), nI_clamp (n := k) (by omega)] <;> rfl⟩)
        · have c_17 : ¬ (inR n 0 100) := (kn_eq e_r_16).mp c_17
          refine q_aload_n K 0 dX3_where_28 rfl ?_
          refine q_iconst 0 K dX3_where_29 rfl ?_
          refine q_wI (q0 := 0) (As := [.int 0]) (rest := []) K kv_X3_finding (c_X3_finding (k_l M) (k_Z M) A X T J 0 (by omega)) rfl rfl ml_X3_52 rfl rfl (Nat.le_of_ble_eq_true rfl) ⟨Nat.le_of_ble_eq_true rfl, Nat.le_of_ble_eq_true rfl⟩ dX3_where_30 (fun r_21 w2 h_20 => ?_)
          obtain ⟨e_r_21, rfl⟩ := h_20
          refine q_eqi (r_fin 0) e_r_21 ?_
          refine q_ws (ws' := w_G (k_Z M) A (a_kp X) (fd_up (a_fd X) 0) ++ (w_F (k_Z M) (A 1) (a_F X) ++ (w_F (k_Z M) (A 2) T ++ (w_F (k_Z M) (A 3) (a_K X) ++ (w_T (k_Z M) (A 4) (t_of (a_tp X) J) ++ (w_SS (k_Z M) A (a_S X))))))) rfl ?_
          exact Rt _ _ (r_fin 0) (w_G (k_Z M) A (a_kp X) (fd_up (a_fd X) 0) ++ (w_F (k_Z M) (A 1) (a_F X) ++ (w_F (k_Z M) (A 2) T ++ (w_F (k_Z M) (A 3) (a_K X) ++ (w_T (k_Z M) (A 4) (t_of (a_tp X) J) ++ (w_SS (k_Z M) A (a_S X))))))) dX3_where_33 rfl (⟨T, J, by simp only [o_where, a_fin, if_pos c_3, if_neg c_6, if_pos c_13, if_neg c_17, e_r_2, e_r_16, nI_clamp (n := u) (by omega)] <;> rfl, by simp only [o_where, a_fin, if_pos c_3, if_neg c_6, if_pos c_13, if_neg c_17, nI_clamp (n := u) (by omega)] <;> rfl⟩)
theorem kv_X3_where : k_iv yX3_where cX3_where 4 (some .int) 3 := ⟨⟨im_X3_where, se_X3_where⟩, in_X3, co_X3_where, by decide +kernel⟩
set_option maxHeartbeats 4000000 in
set_option maxRecDepth 100000 in
theorem c_X3_corn (l : Launch) (Z : kz_Z) (A : Nat → Nat → Nat) (X : AS) (T : FS) (J : TJ) (m : Nat) (hm : m ≤ 8) (hm2 : f_wk (a_F X) = nI m) (field v : Int32) : KI l Z yX3_corn cX3_corn 4 .int 5 110 [.ref ((A 0) 0), .int field, .int v] (w_G Z A (a_kp X) (a_fd X) ++ (w_F Z (A 1) (a_F X) ++ (w_F Z (A 2) T ++ (w_F Z (A 3) (a_K X) ++ (w_T Z (A 4) (t_of (a_tp X) J) ++ (w_SS Z A (a_S X))))))) (fun r w2 => ∃ T2 J2, r = (o_corn X field v).1 ∧ w2 = w_C Z A (o_corn X field v).2 T2 J2) := by
  refine ki_of (by decide) [(0, .ref ((A 0) 0)), (1, .int field), (2, .int v)] (Nat.le_of_ble_eq_true rfl) rfl ?_
  intro M e1 e2 K Rt
  subst e1 e2
  refine q_iload_n K 1 dX3_corn_0 rfl ?_
  refine q_cp (rest := []) K ks_X3_isField (c_X3_isField (k_l M) (k_Z M) field) ml_X3_44 rfl rfl (Nat.le_of_ble_eq_true rfl) ⟨Nat.le_of_ble_eq_true rfl, Nat.le_of_ble_eq_true rfl⟩ dX3_corn_1 (fun r_1 e_r_1 => ?_)
  refine q_if_eq 18 K dX3_corn_4 (by decide) (fun c_2 => ?_) (fun c_2 => ?_)
  · have c_2 : ¬ (inR field 0 8) := (kn_eq e_r_1).mp c_2
    refine q_aload_n K 0 dX3_corn_18 rfl ?_
    refine q_iconst 0 K dX3_corn_19 rfl ?_
    refine q_wI (q0 := 0) (As := [.int 0]) (rest := []) K kv_X3_finding (c_X3_finding (k_l M) (k_Z M) A X T J 0 (by omega)) rfl rfl ml_X3_52 rfl rfl (Nat.le_of_ble_eq_true rfl) ⟨Nat.le_of_ble_eq_true rfl, Nat.le_of_ble_eq_true rfl⟩ dX3_corn_20 (fun r_4 w2 h_3 => ?_)
    obtain ⟨e_r_4, rfl⟩ := h_3
    refine q_eqi (r_fin 0) e_r_4 ?_
    refine q_ws (ws' := w_G (k_Z M) A (a_kp X) (fd_up (a_fd X) 0) ++ (w_F (k_Z M) (A 1) (a_F X) ++ (w_F (k_Z M) (A 2) T ++ (w_F (k_Z M) (A 3) (a_K X) ++ (w_T (k_Z M) (A 4) (t_of (a_tp X) J) ++ (w_SS (k_Z M) A (a_S X))))))) rfl ?_
    exact Rt _ _ (r_fin 0) (w_G (k_Z M) A (a_kp X) (fd_up (a_fd X) 0) ++ (w_F (k_Z M) (A 1) (a_F X) ++ (w_F (k_Z M) (A 2) T ++ (w_F (k_Z M) (A 3) (a_K X) ++ (w_T (k_Z M) (A 4) (t_of (a_tp X) J) ++ (w_SS (k_Z M) A (a_S X))))))) dX3_corn_23 rfl (⟨T, J, by simp only [o_corn, a_fin, if_neg c_2, e_r_1], by simp only [o_corn, a_fin, if_neg c_2]; rfl⟩)
  · have c_2 : inR field 0 8 := (kn_ne e_r_1).mp c_2
    obtain ⟨f, h_f, e_f⟩ := kn_rng (n := 8) c_2 rfl
    subst e_f
    refine q_iload_n K 2 dX3_corn_7 rfl ?_
    refine q_iconst 0 K dX3_corn_8 rfl ?_
    refine q_sipush 9999 K dX3_corn_9 rfl ?_
    refine q_cp (rest := []) K ks_X3_isIn (c_X3_isIn (k_l M) (k_Z M) v 0 9999) ml_X3_48 rfl rfl (Nat.le_of_ble_eq_true rfl) ⟨Nat.le_of_ble_eq_true rfl, Nat.le_of_ble_eq_true rfl⟩ dX3_corn_12 (fun r_5 e_r_5 => ?_)
    refine q_if_ne 24 K dX3_corn_15 (by decide) (fun c_6 => ?_) (fun c_6 => ?_)
    · have c_6 : inR v 0 9999 := (kn_ne e_r_5).mp c_6
      refine q_aload_n K 0 dX3_corn_24 rfl ?_
      refine q_get (.ref ((A 2) 0)) K ws_X3 0 rfl rfl 1 (by decide) fl_X3_16 rfl dX3_corn_25 ?_
      refine q_aload_n K 0 dX3_corn_28 rfl ?_
      refine q_get (.ref ((A 1) 0)) K ws_X3 0 rfl rfl 0 (by decide) fl_X3_12 rfl dX3_corn_29 ?_
      refine q_cvV (q0 := 10) (As := [.ref ((A 1) 0)]) (rest := []) K kv_X0_become (c_X0_becomeR (k_l M) (k_Z M) (A 2) (A 1) T (a_F X)) (w_G (k_Z M) A (a_kp X) (a_fd X)) (w_F (k_Z M) (A 3) (a_K X) ++ (w_T (k_Z M) (A 4) (t_of (a_tp X) J) ++ (w_SS (k_Z M) A (a_S X)))) rfl rfl rfl ml_X3_132 rfl rfl (Nat.le_of_ble_eq_true rfl) ⟨Nat.le_of_ble_eq_true rfl, Nat.le_of_ble_eq_true rfl⟩ dX3_corn_32 (fun w2 h_7 => ?_)
      obtain rfl := h_7
      refine q_ws (ws' := w_G (k_Z M) A (a_kp X) (a_fd X) ++ (w_F (k_Z M) (A 1) (a_F X) ++ (w_F (k_Z M) (A 2) (a_F X) ++ (w_F (k_Z M) (A 3) (a_K X) ++ (w_T (k_Z M) (A 4) (t_of (a_tp X) J) ++ (w_SS (k_Z M) A (a_S X))))))) rfl ?_
      refine q_iconst 0 K dX3_corn_35 rfl ?_
      refine q_istore_n (lv' := [(3, .int 0), (0, .ref ((A 0) 0)), (1, .int (nI f)), (2, .int v)]) K dX3_corn_36 (by decide) rfl ?_
      refine q_loop (α := Nat) (fun n9 i => (i + n9 = 101) ∧ o_find (p_corn (a_F X) f v) 101 0 = o_find (p_corn (a_F X) f v) n9 i) 37 (fun i => [(3, .int (nI i)), (0, .ref ((A 0) 0)), (1, .int (nI f)), (2, .int v)]) (fun i => w_G (k_Z M) A (a_kp X) (a_fd X) ++ (w_F (k_Z M) (A 1) (a_F X) ++ (w_F (k_Z M) (A 2) (f_hoursC goA (a_F X) i) ++ (w_F (k_Z M) (A 3) (a_K X) ++ (w_T (k_Z M) (A 4) (t_of (a_tp X) J) ++ (w_SS (k_Z M) A (a_S X))))))) (fun n_8 i hI_9 ih_10 => ?_) 101 0 ⟨rfl, rfl⟩
      obtain ⟨hI, hF⟩ := hI_9
      refine q_iload_n K 0 dX3_corn_37 rfl ?_
      refine q_bipush 100 K dX3_corn_38 rfl ?_
      refine q_icmp_gt 75 K dX3_corn_40 (by decide) (fun c_11 => ?_) (fun c_11 => ?_)
      · have c_11n : 100 < i := (nI_ltI (a := 100) (b := i) (by omega) (by omega)).mp c_11
        refine q_aload_n K 1 dX3_corn_75 rfl ?_
        refine q_iconst 3 K dX3_corn_76 rfl ?_
        refine q_wI (q0 := 0) (As := [.int 3]) (rest := []) K kv_X3_finding (c_X3_finding (k_l M) (k_Z M) A X (f_hoursC goA (a_F X) i) J 3 (by omega)) rfl rfl ml_X3_52 rfl rfl (Nat.le_of_ble_eq_true rfl) ⟨Nat.le_of_ble_eq_true rfl, Nat.le_of_ble_eq_true rfl⟩ dX3_corn_77 (fun r_13 w2 h_12 => ?_)
        obtain ⟨e_r_13, rfl⟩ := h_12
        refine q_eqi (r_fin 3) e_r_13 ?_
        refine q_ws (ws' := w_G (k_Z M) A (a_kp X) (fd_up (a_fd X) 3) ++ (w_F (k_Z M) (A 1) (a_F X) ++ (w_F (k_Z M) (A 2) (f_hoursC goA (a_F X) i) ++ (w_F (k_Z M) (A 3) (a_K X) ++ (w_T (k_Z M) (A 4) (t_of (a_tp X) J) ++ (w_SS (k_Z M) A (a_S X))))))) rfl ?_
        exact Rt _ _ (r_fin 3) (w_G (k_Z M) A (a_kp X) (fd_up (a_fd X) 3) ++ (w_F (k_Z M) (A 1) (a_F X) ++ (w_F (k_Z M) (A 2) (f_hoursC goA (a_F X) i) ++ (w_F (k_Z M) (A 3) (a_K X) ++ (w_T (k_Z M) (A 4) (t_of (a_tp X) J) ++ (w_SS (k_Z M) A (a_S X))))))) dX3_corn_80 rfl (⟨f_hoursC goA (a_F X) i, J, by simp only [o_corn, a_fin, if_pos c_2, if_pos c_6, if_pos c_11, nI_clamp (n := f) (by omega), (show o_find (p_corn (a_F X) f v) 101 0 = 101 by rw [hF, show n_8 = 0 by omega, o_find]; omega), o_none, if_neg (show ¬ 101 < 101 by omega)], by simp only [o_corn, a_fin, if_pos c_2, if_pos c_6, if_pos c_11, nI_clamp (n := f) (by omega), (show o_find (p_corn (a_F X) f v) 101 0 = 101 by rw [hF, show n_8 = 0 by omega, o_find]; omega), o_none, if_neg (show ¬ 101 < 101 by omega)]; rfl⟩)
      · have c_11n : ¬ (100 < i) := fun h9 => c_11 ((nI_ltI (a := 100) (b := i) (by omega) (by omega)).mpr h9)
        refine q_aload_n K 1 dX3_corn_43 rfl ?_
        refine q_get (.ref ((A 2) 0)) K ws_X3 0 rfl rfl 1 (by decide) fl_X3_16 rfl dX3_corn_44 ?_
        refine q_get (.ref ((A 2) 1)) K ws_X0 13 rfl rfl 0 (by decide) fl_X3_56 rfl dX3_corn_47 ?_
        refine q_iload_n K 2 dX3_corn_50 rfl ?_
        refine q_iald K 14 rfl (vp_in_nI (n := f) (N := 9) (by omega) (by omega)) dX3_corn_51 ?_
        refine q_eqi ((f_bs (f_hoursC goA (a_F X) i)) f) (by rw [nI_clamp (n := f) (by omega)]) ?_
        refine q_iload_n K 3 dX3_corn_52 rfl ?_
        refine q_icmp_lt 58 K dX3_corn_53 (by decide) (fun c_14 => ?_) (fun c_14 => ?_)
        · refine q_aload_n K 1 dX3_corn_58 rfl ?_
          refine q_get (.ref ((A 2) 0)) K ws_X3 0 rfl rfl 1 (by decide) fl_X3_16 rfl dX3_corn_59 ?_
          refine q_iconst 1 K dX3_corn_62 rfl ?_
          refine q_sipush 255 K dX3_corn_63 rfl ?_
          refine q_cvV (q0 := 0) (As := [.int 1, .int 255]) (rest := []) K kv_X0_passHours (c_X0_passHours (k_l M) (k_Z M) (A 2) (f_hoursC goA (a_F X) i) m hm (by rw [f_hoursC_wk]; exact hm2) 1 (by omega) 255) (w_G (k_Z M) A (a_kp X) (a_fd X) ++ (w_F (k_Z M) (A 1) (a_F X))) (w_F (k_Z M) (A 3) (a_K X) ++ (w_T (k_Z M) (A 4) (t_of (a_tp X) J) ++ (w_SS (k_Z M) A (a_S X)))) rfl rfl rfl ml_X3_108 rfl rfl (Nat.le_of_ble_eq_true rfl) ⟨Nat.le_of_ble_eq_true rfl, Nat.le_of_ble_eq_true rfl⟩ dX3_corn_66 (fun w2 h_15 => ?_)
          obtain rfl := h_15
          refine q_ws (ws' := w_G (k_Z M) A (a_kp X) (a_fd X) ++ (w_F (k_Z M) (A 1) (a_F X) ++ (w_F (k_Z M) (A 2) (f_hoursC (f_gm 255) (f_hoursC goA (a_F X) i) 1) ++ (w_F (k_Z M) (A 3) (a_K X) ++ (w_T (k_Z M) (A 4) (t_of (a_tp X) J) ++ (w_SS (k_Z M) A (a_S X))))))) rfl ?_
          refine q_iinc (nI (i + 1)) (lv' := [(3, .int (nI (i + 1))), (0, .ref ((A 0) 0)), (1, .int (nI f)), (2, .int v)]) K 0 dX3_corn_69 rfl (kn_inc i) (by decide) rfl ?_
          refine q_goto 37 K dX3_corn_72 (by decide) ?_
          exact ih_10 (n_8 - 1) (i + 1) (by omega) ⟨by show i + 1 + (n_8 - 1) = 101; omega, by rw [hF, show n_8 = (n_8 - 1) + 1 by omega, o_find, if_neg (by rw [p_corn, decide_eq_true c_14]; decide)]; rfl⟩
        · refine q_iload_n K 0 dX3_corn_56 rfl ?_
          exact Rt _ _ (nI i) (w_G (k_Z M) A (a_kp X) (a_fd X) ++ (w_F (k_Z M) (A 1) (a_F X) ++ (w_F (k_Z M) (A 2) (f_hoursC goA (a_F X) i) ++ (w_F (k_Z M) (A 3) (a_K X) ++ (w_T (k_Z M) (A 4) (t_of (a_tp X) J) ++ (w_SS (k_Z M) A (a_S X))))))) dX3_corn_57 rfl (⟨f_hoursC goA (a_F X) i, J, by simp only [o_corn, a_fin, if_pos c_2, if_pos c_6, if_neg c_11, if_neg c_14, nI_clamp (n := f) (by omega), (show o_find (p_corn (a_F X) f v) 101 0 = i by rw [hF, show n_8 = (n_8 - 1) + 1 by omega, o_find, if_pos (by rw [p_corn, decide_eq_false c_14] <;> rfl)]), o_none, if_pos (show i < 101 by omega)], by simp only [o_corn, a_fin, if_pos c_2, if_pos c_6, if_neg c_11, if_neg c_14, nI_clamp (n := f) (by omega), (show o_find (p_corn (a_F X) f v) 101 0 = i by rw [hF, show n_8 = (n_8 - 1) + 1 by omega, o_find, if_pos (by rw [p_corn, decide_eq_false c_14] <;> rfl)]), o_none, if_pos (show i < 101 by omega)]; rfl⟩)
    · have c_6 : ¬ (inR v 0 9999) := (kn_eq e_r_5).mp c_6
      refine q_aload_n K 0 dX3_corn_18 rfl ?_
      refine q_iconst 0 K dX3_corn_19 rfl ?_
      refine q_wI (q0 := 0) (As := [.int 0]) (rest := []) K kv_X3_finding (c_X3_finding (k_l M) (k_Z M) A X T J 0 (by omega)) rfl rfl ml_X3_52 rfl rfl (Nat.le_of_ble_eq_true rfl) ⟨Nat.le_of_ble_eq_true rfl, Nat.le_of_ble_eq_true rfl⟩ dX3_corn_20 (fun r_18 w2 h_17 => ?_)
      obtain ⟨e_r_18, rfl⟩ := h_17
      refine q_eqi (r_fin 0) e_r_18 ?_
      refine q_ws (ws' := w_G (k_Z M) A (a_kp X) (fd_up (a_fd X) 0) ++ (w_F (k_Z M) (A 1) (a_F X) ++ (w_F (k_Z M) (A 2) T ++ (w_F (k_Z M) (A 3) (a_K X) ++ (w_T (k_Z M) (A 4) (t_of (a_tp X) J) ++ (w_SS (k_Z M) A (a_S X))))))) rfl ?_
      exact Rt _ _ (r_fin 0) (w_G (k_Z M) A (a_kp X) (fd_up (a_fd X) 0) ++ (w_F (k_Z M) (A 1) (a_F X) ++ (w_F (k_Z M) (A 2) T ++ (w_F (k_Z M) (A 3) (a_K X) ++ (w_T (k_Z M) (A 4) (t_of (a_tp X) J) ++ (w_SS (k_Z M) A (a_S X))))))) dX3_corn_23 rfl (⟨T, J, by simp only [o_corn, a_fin, if_pos c_2, if_neg c_6, e_r_1, e_r_5, nI_clamp (n := f) (by omega)], by simp only [o_corn, a_fin, if_pos c_2, if_neg c_6, nI_clamp (n := f) (by omega)]; rfl⟩)
theorem kv_X3_corn : k_iv yX3_corn cX3_corn 4 (some .int) 2 := ⟨⟨im_X3_corn, se_X3_corn⟩, in_X3, co_X3_corn, by decide +kernel⟩
set_option maxHeartbeats 4000000 in
set_option maxRecDepth 100000 in
theorem c_X3_when (l : Launch) (Z : kz_Z) (A : Nat → Nat → Nat) (X : AS) (T : FS) (J : TJ) (m : Nat) (hm : m ≤ 8) (hm2 : f_wk (a_F X) = nI m) (gate s : Int32) : KI l Z yX3_when cX3_when 4 .int 5 110 [.ref ((A 0) 0), .int gate, .int s] (w_G Z A (a_kp X) (a_fd X) ++ (w_F Z (A 1) (a_F X) ++ (w_F Z (A 2) T ++ (w_F Z (A 3) (a_K X) ++ (w_T Z (A 4) (t_of (a_tp X) J) ++ (w_SS Z A (a_S X))))))) (fun r w2 => ∃ T2 J2, r = (o_when X gate s).1 ∧ w2 = w_C Z A (o_when X gate s).2 T2 J2) := by
  refine ki_of (by decide) [(0, .ref ((A 0) 0)), (1, .int gate), (2, .int s)] (Nat.le_of_ble_eq_true rfl) rfl ?_
  intro M e1 e2 K Rt
  subst e1 e2
  refine q_iload_n K 1 dX3_when_0 rfl ?_
  refine q_cp (rest := []) K ks_X3_isGate (c_X3_isGate (k_l M) (k_Z M) gate) ml_X3_62 rfl rfl (Nat.le_of_ble_eq_true rfl) ⟨Nat.le_of_ble_eq_true rfl, Nat.le_of_ble_eq_true rfl⟩ dX3_when_1 (fun r_1 e_r_1 => ?_)
  refine q_if_eq 14 K dX3_when_4 (by decide) (fun c_2 => ?_) (fun c_2 => ?_)
  · have c_2 : ¬ (inR gate 0 7) := (kn_eq e_r_1).mp c_2
    refine q_aload_n K 0 dX3_when_14 rfl ?_
    refine q_iconst 0 K dX3_when_15 rfl ?_
    refine q_wI (q0 := 0) (As := [.int 0]) (rest := []) K kv_X3_finding (c_X3_finding (k_l M) (k_Z M) A X T J 0 (by omega)) rfl rfl ml_X3_52 rfl rfl (Nat.le_of_ble_eq_true rfl) ⟨Nat.le_of_ble_eq_true rfl, Nat.le_of_ble_eq_true rfl⟩ dX3_when_16 (fun r_4 w2 h_3 => ?_)
    obtain ⟨e_r_4, rfl⟩ := h_3
    refine q_eqi (r_fin 0) e_r_4 ?_
    refine q_ws (ws' := w_G (k_Z M) A (a_kp X) (fd_up (a_fd X) 0) ++ (w_F (k_Z M) (A 1) (a_F X) ++ (w_F (k_Z M) (A 2) T ++ (w_F (k_Z M) (A 3) (a_K X) ++ (w_T (k_Z M) (A 4) (t_of (a_tp X) J) ++ (w_SS (k_Z M) A (a_S X))))))) rfl ?_
    exact Rt _ _ (r_fin 0) (w_G (k_Z M) A (a_kp X) (fd_up (a_fd X) 0) ++ (w_F (k_Z M) (A 1) (a_F X) ++ (w_F (k_Z M) (A 2) T ++ (w_F (k_Z M) (A 3) (a_K X) ++ (w_T (k_Z M) (A 4) (t_of (a_tp X) J) ++ (w_SS (k_Z M) A (a_S X))))))) dX3_when_19 rfl (⟨T, J, by simp only [o_when, a_fin, if_neg c_2, e_r_1], by simp only [o_when, a_fin, if_neg c_2]; rfl⟩)
  · have c_2 : inR gate 0 7 := (kn_ne e_r_1).mp c_2
    obtain ⟨g, h_g, e_g⟩ := kn_rng (n := 7) c_2 rfl
    subst e_g
    refine q_iload_n K 2 dX3_when_7 rfl ?_
    refine q_cp (rest := []) K ks_X3_isManner (c_X3_isManner (k_l M) (k_Z M) s) ml_X3_65 rfl rfl (Nat.le_of_ble_eq_true rfl) ⟨Nat.le_of_ble_eq_true rfl, Nat.le_of_ble_eq_true rfl⟩ dX3_when_8 (fun r_5 e_r_5 => ?_)
    refine q_if_ne 20 K dX3_when_11 (by decide) (fun c_6 => ?_) (fun c_6 => ?_)
    · have c_6 : inR s 0 3 := (kn_ne e_r_5).mp c_6
      refine q_aload_n K 0 dX3_when_20 rfl ?_
      refine q_get (.ref ((A 2) 0)) K ws_X3 0 rfl rfl 1 (by decide) fl_X3_16 rfl dX3_when_21 ?_
      refine q_aload_n K 0 dX3_when_24 rfl ?_
      refine q_get (.ref ((A 1) 0)) K ws_X3 0 rfl rfl 0 (by decide) fl_X3_12 rfl dX3_when_25 ?_
      refine q_cvV (q0 := 10) (As := [.ref ((A 1) 0)]) (rest := []) K kv_X0_become (c_X0_becomeR (k_l M) (k_Z M) (A 2) (A 1) T (a_F X)) (w_G (k_Z M) A (a_kp X) (a_fd X)) (w_F (k_Z M) (A 3) (a_K X) ++ (w_T (k_Z M) (A 4) (t_of (a_tp X) J) ++ (w_SS (k_Z M) A (a_S X)))) rfl rfl rfl ml_X3_132 rfl rfl (Nat.le_of_ble_eq_true rfl) ⟨Nat.le_of_ble_eq_true rfl, Nat.le_of_ble_eq_true rfl⟩ dX3_when_28 (fun w2 h_7 => ?_)
      obtain rfl := h_7
      refine q_ws (ws' := w_G (k_Z M) A (a_kp X) (a_fd X) ++ (w_F (k_Z M) (A 1) (a_F X) ++ (w_F (k_Z M) (A 2) (a_F X) ++ (w_F (k_Z M) (A 3) (a_K X) ++ (w_T (k_Z M) (A 4) (t_of (a_tp X) J) ++ (w_SS (k_Z M) A (a_S X))))))) rfl ?_
      refine q_iconst 0 K dX3_when_31 rfl ?_
      refine q_istore_n (lv' := [(3, .int 0), (0, .ref ((A 0) 0)), (1, .int (nI g)), (2, .int s)]) K dX3_when_32 (by decide) rfl ?_
      refine q_loop (α := Nat) (fun n9 i => (i + n9 = 101) ∧ o_find (p_when (a_F X) g s) 101 0 = o_find (p_when (a_F X) g s) n9 i) 33 (fun i => [(3, .int (nI i)), (0, .ref ((A 0) 0)), (1, .int (nI g)), (2, .int s)]) (fun i => w_G (k_Z M) A (a_kp X) (a_fd X) ++ (w_F (k_Z M) (A 1) (a_F X) ++ (w_F (k_Z M) (A 2) (f_hoursC goA (a_F X) i) ++ (w_F (k_Z M) (A 3) (a_K X) ++ (w_T (k_Z M) (A 4) (t_of (a_tp X) J) ++ (w_SS (k_Z M) A (a_S X))))))) (fun n_8 i hI_9 ih_10 => ?_) 101 0 ⟨rfl, rfl⟩
      obtain ⟨hI, hF⟩ := hI_9
      refine q_iload_n K 0 dX3_when_33 rfl ?_
      refine q_bipush 100 K dX3_when_34 rfl ?_
      refine q_icmp_gt 71 K dX3_when_36 (by decide) (fun c_11 => ?_) (fun c_11 => ?_)
      · have c_11n : 100 < i := (nI_ltI (a := 100) (b := i) (by omega) (by omega)).mp c_11
        refine q_aload_n K 1 dX3_when_71 rfl ?_
        refine q_iconst 3 K dX3_when_72 rfl ?_
        refine q_wI (q0 := 0) (As := [.int 3]) (rest := []) K kv_X3_finding (c_X3_finding (k_l M) (k_Z M) A X (f_hoursC goA (a_F X) i) J 3 (by omega)) rfl rfl ml_X3_52 rfl rfl (Nat.le_of_ble_eq_true rfl) ⟨Nat.le_of_ble_eq_true rfl, Nat.le_of_ble_eq_true rfl⟩ dX3_when_73 (fun r_13 w2 h_12 => ?_)
        obtain ⟨e_r_13, rfl⟩ := h_12
        refine q_eqi (r_fin 3) e_r_13 ?_
        refine q_ws (ws' := w_G (k_Z M) A (a_kp X) (fd_up (a_fd X) 3) ++ (w_F (k_Z M) (A 1) (a_F X) ++ (w_F (k_Z M) (A 2) (f_hoursC goA (a_F X) i) ++ (w_F (k_Z M) (A 3) (a_K X) ++ (w_T (k_Z M) (A 4) (t_of (a_tp X) J) ++ (w_SS (k_Z M) A (a_S X))))))) rfl ?_
        exact Rt _ _ (r_fin 3) (w_G (k_Z M) A (a_kp X) (fd_up (a_fd X) 3) ++ (w_F (k_Z M) (A 1) (a_F X) ++ (w_F (k_Z M) (A 2) (f_hoursC goA (a_F X) i) ++ (w_F (k_Z M) (A 3) (a_K X) ++ (w_T (k_Z M) (A 4) (t_of (a_tp X) J) ++ (w_SS (k_Z M) A (a_S X))))))) dX3_when_76 rfl (⟨f_hoursC goA (a_F X) i, J, by simp only [o_when, a_fin, if_pos c_2, if_pos c_6, if_pos c_11, nI_clamp (n := g) (by omega), (show o_find (p_when (a_F X) g s) 101 0 = 101 by rw [hF, show n_8 = 0 by omega, o_find]; omega), o_none, if_neg (show ¬ 101 < 101 by omega)], by simp only [o_when, a_fin, if_pos c_2, if_pos c_6, if_pos c_11, nI_clamp (n := g) (by omega), (show o_find (p_when (a_F X) g s) 101 0 = 101 by rw [hF, show n_8 = 0 by omega, o_find]; omega), o_none, if_neg (show ¬ 101 < 101 by omega)]; rfl⟩)
      · have c_11n : ¬ (100 < i) := fun h9 => c_11 ((nI_ltI (a := 100) (b := i) (by omega) (by omega)).mpr h9)
        refine q_aload_n K 1 dX3_when_39 rfl ?_
        refine q_get (.ref ((A 2) 0)) K ws_X3 0 rfl rfl 1 (by decide) fl_X3_16 rfl dX3_when_40 ?_
        refine q_get (.ref ((A 2) 2)) K ws_X0 13 rfl rfl 1 (by decide) fl_X3_68 rfl dX3_when_43 ?_
        refine q_iload_n K 2 dX3_when_46 rfl ?_
        refine q_iald K 15 rfl (vp_in_nI (n := g) (N := 8) (by omega) (by omega)) dX3_when_47 ?_
        refine q_eqi ((f_gs (f_hoursC goA (a_F X) i)) g) (by rw [nI_clamp (n := g) (by omega)]) ?_
        refine q_iload_n K 3 dX3_when_48 rfl ?_
        refine q_icmp_ne 54 K dX3_when_49 (by decide) (fun c_14 => ?_) (fun c_14 => ?_)
        · refine q_aload_n K 1 dX3_when_54 rfl ?_
          refine q_get (.ref ((A 2) 0)) K ws_X3 0 rfl rfl 1 (by decide) fl_X3_16 rfl dX3_when_55 ?_
          refine q_iconst 1 K dX3_when_58 rfl ?_
          refine q_sipush 255 K dX3_when_59 rfl ?_
          refine q_cvV (q0 := 0) (As := [.int 1, .int 255]) (rest := []) K kv_X0_passHours (c_X0_passHours (k_l M) (k_Z M) (A 2) (f_hoursC goA (a_F X) i) m hm (by rw [f_hoursC_wk]; exact hm2) 1 (by omega) 255) (w_G (k_Z M) A (a_kp X) (a_fd X) ++ (w_F (k_Z M) (A 1) (a_F X))) (w_F (k_Z M) (A 3) (a_K X) ++ (w_T (k_Z M) (A 4) (t_of (a_tp X) J) ++ (w_SS (k_Z M) A (a_S X)))) rfl rfl rfl ml_X3_108 rfl rfl (Nat.le_of_ble_eq_true rfl) ⟨Nat.le_of_ble_eq_true rfl, Nat.le_of_ble_eq_true rfl⟩ dX3_when_62 (fun w2 h_15 => ?_)
          obtain rfl := h_15
          refine q_ws (ws' := w_G (k_Z M) A (a_kp X) (a_fd X) ++ (w_F (k_Z M) (A 1) (a_F X) ++ (w_F (k_Z M) (A 2) (f_hoursC (f_gm 255) (f_hoursC goA (a_F X) i) 1) ++ (w_F (k_Z M) (A 3) (a_K X) ++ (w_T (k_Z M) (A 4) (t_of (a_tp X) J) ++ (w_SS (k_Z M) A (a_S X))))))) rfl ?_
          refine q_iinc (nI (i + 1)) (lv' := [(3, .int (nI (i + 1))), (0, .ref ((A 0) 0)), (1, .int (nI g)), (2, .int s)]) K 0 dX3_when_65 rfl (kn_inc i) (by decide) rfl ?_
          refine q_goto 33 K dX3_when_68 (by decide) ?_
          exact ih_10 (n_8 - 1) (i + 1) (by omega) ⟨by show i + 1 + (n_8 - 1) = 101; omega, by rw [hF, show n_8 = (n_8 - 1) + 1 by omega, o_find, if_neg (by rw [p_when, decide_eq_false c_14]; decide)]; rfl⟩
        · refine q_iload_n K 0 dX3_when_52 rfl ?_
          exact Rt _ _ (nI i) (w_G (k_Z M) A (a_kp X) (a_fd X) ++ (w_F (k_Z M) (A 1) (a_F X) ++ (w_F (k_Z M) (A 2) (f_hoursC goA (a_F X) i) ++ (w_F (k_Z M) (A 3) (a_K X) ++ (w_T (k_Z M) (A 4) (t_of (a_tp X) J) ++ (w_SS (k_Z M) A (a_S X))))))) dX3_when_53 rfl (⟨f_hoursC goA (a_F X) i, J, by simp only [o_when, a_fin, if_pos c_2, if_pos c_6, if_neg c_11, if_pos c_14, nI_clamp (n := g) (by omega), (show o_find (p_when (a_F X) g s) 101 0 = i by rw [hF, show n_8 = (n_8 - 1) + 1 by omega, o_find, if_pos (by rw [p_when, decide_eq_true c_14] <;> rfl)]), o_none, if_pos (show i < 101 by omega)], by simp only [o_when, a_fin, if_pos c_2, if_pos c_6, if_neg c_11, if_pos c_14, nI_clamp (n := g) (by omega), (show o_find (p_when (a_F X) g s) 101 0 = i by rw [hF, show n_8 = (n_8 - 1) + 1 by omega, o_find, if_pos (by rw [p_when, decide_eq_true c_14] <;> rfl)]), o_none, if_pos (show i < 101 by omega)]; rfl⟩)
    · have c_6 : ¬ (inR s 0 3) := (kn_eq e_r_5).mp c_6
      refine q_aload_n K 0 dX3_when_14 rfl ?_
      refine q_iconst 0 K dX3_when_15 rfl ?_
      refine q_wI (q0 := 0) (As := [.int 0]) (rest := []) K kv_X3_finding (c_X3_finding (k_l M) (k_Z M) A X T J 0 (by omega)) rfl rfl ml_X3_52 rfl rfl (Nat.le_of_ble_eq_true rfl) ⟨Nat.le_of_ble_eq_true rfl, Nat.le_of_ble_eq_true rfl⟩ dX3_when_16 (fun r_18 w2 h_17 => ?_)
      obtain ⟨e_r_18, rfl⟩ := h_17
      refine q_eqi (r_fin 0) e_r_18 ?_
      refine q_ws (ws' := w_G (k_Z M) A (a_kp X) (fd_up (a_fd X) 0) ++ (w_F (k_Z M) (A 1) (a_F X) ++ (w_F (k_Z M) (A 2) T ++ (w_F (k_Z M) (A 3) (a_K X) ++ (w_T (k_Z M) (A 4) (t_of (a_tp X) J) ++ (w_SS (k_Z M) A (a_S X))))))) rfl ?_
      exact Rt _ _ (r_fin 0) (w_G (k_Z M) A (a_kp X) (fd_up (a_fd X) 0) ++ (w_F (k_Z M) (A 1) (a_F X) ++ (w_F (k_Z M) (A 2) T ++ (w_F (k_Z M) (A 3) (a_K X) ++ (w_T (k_Z M) (A 4) (t_of (a_tp X) J) ++ (w_SS (k_Z M) A (a_S X))))))) dX3_when_19 rfl (⟨T, J, by simp only [o_when, a_fin, if_pos c_2, if_neg c_6, e_r_1, e_r_5, nI_clamp (n := g) (by omega)], by simp only [o_when, a_fin, if_pos c_2, if_neg c_6, nI_clamp (n := g) (by omega)]; rfl⟩)
theorem kv_X3_when : k_iv yX3_when cX3_when 4 (some .int) 2 := ⟨⟨im_X3_when, se_X3_when⟩, in_X3, co_X3_when, by decide +kernel⟩
set_option maxHeartbeats 4000000 in
set_option maxRecDepth 100000 in
theorem c_X3_meet (l : Launch) (Z : kz_Z) (A : Nat → Nat → Nat) (X : AS) (T : FS) (J : TJ) (m : Nat) (hm : m ≤ 8) (hm2 : f_wk (a_F X) = nI m) (a b : Int32) : KI l Z yX3_meet cX3_meet 4 .int 5 110 [.ref ((A 0) 0), .int a, .int b] (w_G Z A (a_kp X) (a_fd X) ++ (w_F Z (A 1) (a_F X) ++ (w_F Z (A 2) T ++ (w_F Z (A 3) (a_K X) ++ (w_T Z (A 4) (t_of (a_tp X) J) ++ (w_SS Z A (a_S X))))))) (fun r w2 => ∃ T2 J2, r = (o_meet X a b).1 ∧ w2 = w_C Z A (o_meet X a b).2 T2 J2) := by
  refine ki_of (by decide) [(0, .ref ((A 0) 0)), (1, .int a), (2, .int b)] (Nat.le_of_ble_eq_true rfl) rfl ?_
  intro M e1 e2 K Rt
  subst e1 e2
  refine q_aload_n K 0 dX3_meet_0 rfl ?_
  refine q_iload_n K 1 dX3_meet_1 rfl ?_
  refine q_wI (q0 := 0) (As := [.int a]) (rest := []) K kv_X3_isWalker (c_X3_isWalker (k_l M) (k_Z M) A X T J a) rfl rfl ml_X3_85 rfl rfl (Nat.le_of_ble_eq_true rfl) ⟨Nat.le_of_ble_eq_true rfl, Nat.le_of_ble_eq_true rfl⟩ dX3_meet_2 (fun r_2 w2 h_1 => ?_)
  obtain ⟨e_r_2, rfl⟩ := h_1
  refine q_ws (ws' := w_G (k_Z M) A (a_kp X) (a_fd X) ++ (w_F (k_Z M) (A 1) (a_F X) ++ (w_F (k_Z M) (A 2) T ++ (w_F (k_Z M) (A 3) (a_K X) ++ (w_T (k_Z M) (A 4) (t_of (a_tp X) J) ++ (w_SS (k_Z M) A (a_S X))))))) rfl ?_
  refine q_if_eq 21 K dX3_meet_5 (by decide) (fun c_3 => ?_) (fun c_3 => ?_)
  · have c_3 : ¬ (isW X a) := (kn_eq e_r_2).mp c_3
    refine q_aload_n K 0 dX3_meet_21 rfl ?_
    refine q_iconst 0 K dX3_meet_22 rfl ?_
    refine q_wI (q0 := 0) (As := [.int 0]) (rest := []) K kv_X3_finding (c_X3_finding (k_l M) (k_Z M) A X T J 0 (by omega)) rfl rfl ml_X3_52 rfl rfl (Nat.le_of_ble_eq_true rfl) ⟨Nat.le_of_ble_eq_true rfl, Nat.le_of_ble_eq_true rfl⟩ dX3_meet_23 (fun r_5 w2 h_4 => ?_)
    obtain ⟨e_r_5, rfl⟩ := h_4
    refine q_eqi (r_fin 0) e_r_5 ?_
    refine q_ws (ws' := w_G (k_Z M) A (a_kp X) (fd_up (a_fd X) 0) ++ (w_F (k_Z M) (A 1) (a_F X) ++ (w_F (k_Z M) (A 2) T ++ (w_F (k_Z M) (A 3) (a_K X) ++ (w_T (k_Z M) (A 4) (t_of (a_tp X) J) ++ (w_SS (k_Z M) A (a_S X))))))) rfl ?_
    exact Rt _ _ (r_fin 0) (w_G (k_Z M) A (a_kp X) (fd_up (a_fd X) 0) ++ (w_F (k_Z M) (A 1) (a_F X) ++ (w_F (k_Z M) (A 2) T ++ (w_F (k_Z M) (A 3) (a_K X) ++ (w_T (k_Z M) (A 4) (t_of (a_tp X) J) ++ (w_SS (k_Z M) A (a_S X))))))) dX3_meet_26 rfl (⟨T, J, by simp only [o_meet, a_fin, if_neg c_3, e_r_2], by simp only [o_meet, a_fin, if_neg c_3]; rfl⟩)
  · have c_3 : isW X a := (kn_ne e_r_2).mp c_3
    obtain ⟨u, h_u, e_u⟩ := isW_nat hm hm2 c_3
    subst e_u
    refine q_aload_n K 0 dX3_meet_8 rfl ?_
    refine q_iload_n K 2 dX3_meet_9 rfl ?_
    refine q_wI (q0 := 0) (As := [.int b]) (rest := []) K kv_X3_isWalker (c_X3_isWalker (k_l M) (k_Z M) A X T J b) rfl rfl ml_X3_85 rfl rfl (Nat.le_of_ble_eq_true rfl) ⟨Nat.le_of_ble_eq_true rfl, Nat.le_of_ble_eq_true rfl⟩ dX3_meet_10 (fun r_7 w2 h_6 => ?_)
    obtain ⟨e_r_7, rfl⟩ := h_6
    refine q_ws (ws' := w_G (k_Z M) A (a_kp X) (a_fd X) ++ (w_F (k_Z M) (A 1) (a_F X) ++ (w_F (k_Z M) (A 2) T ++ (w_F (k_Z M) (A 3) (a_K X) ++ (w_T (k_Z M) (A 4) (t_of (a_tp X) J) ++ (w_SS (k_Z M) A (a_S X))))))) rfl ?_
    refine q_if_eq 21 K dX3_meet_13 (by decide) (fun c_8 => ?_) (fun c_8 => ?_)
    · have c_8 : ¬ (isW X b) := (kn_eq e_r_7).mp c_8
      refine q_aload_n K 0 dX3_meet_21 rfl ?_
      refine q_iconst 0 K dX3_meet_22 rfl ?_
      refine q_wI (q0 := 0) (As := [.int 0]) (rest := []) K kv_X3_finding (c_X3_finding (k_l M) (k_Z M) A X T J 0 (by omega)) rfl rfl ml_X3_52 rfl rfl (Nat.le_of_ble_eq_true rfl) ⟨Nat.le_of_ble_eq_true rfl, Nat.le_of_ble_eq_true rfl⟩ dX3_meet_23 (fun r_10 w2 h_9 => ?_)
      obtain ⟨e_r_10, rfl⟩ := h_9
      refine q_eqi (r_fin 0) e_r_10 ?_
      refine q_ws (ws' := w_G (k_Z M) A (a_kp X) (fd_up (a_fd X) 0) ++ (w_F (k_Z M) (A 1) (a_F X) ++ (w_F (k_Z M) (A 2) T ++ (w_F (k_Z M) (A 3) (a_K X) ++ (w_T (k_Z M) (A 4) (t_of (a_tp X) J) ++ (w_SS (k_Z M) A (a_S X))))))) rfl ?_
      exact Rt _ _ (r_fin 0) (w_G (k_Z M) A (a_kp X) (fd_up (a_fd X) 0) ++ (w_F (k_Z M) (A 1) (a_F X) ++ (w_F (k_Z M) (A 2) T ++ (w_F (k_Z M) (A 3) (a_K X) ++ (w_T (k_Z M) (A 4) (t_of (a_tp X) J) ++ (w_SS (k_Z M) A (a_S X))))))) dX3_meet_26 rfl (⟨T, J, by simp only [o_meet, a_fin, if_pos c_3, if_neg c_8, e_r_2, e_r_7, nI_clamp (n := u) (by omega)], by simp only [o_meet, a_fin, if_pos c_3, if_neg c_8, nI_clamp (n := u) (by omega)]; rfl⟩)
    · have c_8 : isW X b := (kn_ne e_r_7).mp c_8
      obtain ⟨v, h_v, e_v⟩ := isW_nat hm hm2 c_8
      subst e_v
      refine q_iload_n K 1 dX3_meet_16 rfl ?_
      refine q_iload_n K 2 dX3_meet_17 rfl ?_
      refine q_icmp_ne 27 K dX3_meet_18 (by decide) (fun c_11 => ?_) (fun c_11 => ?_)
      · have c_11n : ¬ (u = v) := fun h9 => c_11 ((nI_eq (a := u) (b := v) (by omega) (by omega)).mpr h9)
        refine q_aload_n K 0 dX3_meet_27 rfl ?_
        refine q_get (.ref ((A 2) 0)) K ws_X3 0 rfl rfl 1 (by decide) fl_X3_16 rfl dX3_meet_28 ?_
        refine q_aload_n K 0 dX3_meet_31 rfl ?_
        refine q_get (.ref ((A 1) 0)) K ws_X3 0 rfl rfl 0 (by decide) fl_X3_12 rfl dX3_meet_32 ?_
        refine q_cvV (q0 := 10) (As := [.ref ((A 1) 0)]) (rest := []) K kv_X0_become (c_X0_becomeR (k_l M) (k_Z M) (A 2) (A 1) T (a_F X)) (w_G (k_Z M) A (a_kp X) (a_fd X)) (w_F (k_Z M) (A 3) (a_K X) ++ (w_T (k_Z M) (A 4) (t_of (a_tp X) J) ++ (w_SS (k_Z M) A (a_S X)))) rfl rfl rfl ml_X3_132 rfl rfl (Nat.le_of_ble_eq_true rfl) ⟨Nat.le_of_ble_eq_true rfl, Nat.le_of_ble_eq_true rfl⟩ dX3_meet_35 (fun w2 h_12 => ?_)
        obtain rfl := h_12
        refine q_ws (ws' := w_G (k_Z M) A (a_kp X) (a_fd X) ++ (w_F (k_Z M) (A 1) (a_F X) ++ (w_F (k_Z M) (A 2) (a_F X) ++ (w_F (k_Z M) (A 3) (a_K X) ++ (w_T (k_Z M) (A 4) (t_of (a_tp X) J) ++ (w_SS (k_Z M) A (a_S X))))))) rfl ?_
        refine q_iconst 0 K dX3_meet_38 rfl ?_
        refine q_istore_n (lv' := [(3, .int 0), (0, .ref ((A 0) 0)), (1, .int (nI u)), (2, .int (nI v))]) K dX3_meet_39 (by decide) rfl ?_
        refine q_loop (α := Nat) (fun n9 i => (i + n9 = 101) ∧ o_find (p_meet (a_F X) u v) 101 0 = o_find (p_meet (a_F X) u v) n9 i) 40 (fun i => [(3, .int (nI i)), (0, .ref ((A 0) 0)), (1, .int (nI u)), (2, .int (nI v))]) (fun i => w_G (k_Z M) A (a_kp X) (a_fd X) ++ (w_F (k_Z M) (A 1) (a_F X) ++ (w_F (k_Z M) (A 2) (f_hoursC goA (a_F X) i) ++ (w_F (k_Z M) (A 3) (a_K X) ++ (w_T (k_Z M) (A 4) (t_of (a_tp X) J) ++ (w_SS (k_Z M) A (a_S X))))))) (fun n_13 i hI_14 ih_15 => ?_) 101 0 ⟨rfl, rfl⟩
        obtain ⟨hI, hF⟩ := hI_14
        refine q_iload_n K 0 dX3_meet_40 rfl ?_
        refine q_bipush 100 K dX3_meet_41 rfl ?_
        refine q_icmp_gt 90 K dX3_meet_43 (by decide) (fun c_16 => ?_) (fun c_16 => ?_)
        · have c_16n : 100 < i := (nI_ltI (a := 100) (b := i) (by omega) (by omega)).mp c_16
          refine q_aload_n K 1 dX3_meet_90 rfl ?_
          refine q_iconst 3 K dX3_meet_91 rfl ?_
          refine q_wI (q0 := 0) (As := [.int 3]) (rest := []) K kv_X3_finding (c_X3_finding (k_l M) (k_Z M) A X (f_hoursC goA (a_F X) i) J 3 (by omega)) rfl rfl ml_X3_52 rfl rfl (Nat.le_of_ble_eq_true rfl) ⟨Nat.le_of_ble_eq_true rfl, Nat.le_of_ble_eq_true rfl⟩ dX3_meet_92 (fun r_18 w2 h_17 => ?_)
          obtain ⟨e_r_18, rfl⟩ := h_17
          refine q_eqi (r_fin 3) e_r_18 ?_
          refine q_ws (ws' := w_G (k_Z M) A (a_kp X) (fd_up (a_fd X) 3) ++ (w_F (k_Z M) (A 1) (a_F X) ++ (w_F (k_Z M) (A 2) (f_hoursC goA (a_F X) i) ++ (w_F (k_Z M) (A 3) (a_K X) ++ (w_T (k_Z M) (A 4) (t_of (a_tp X) J) ++ (w_SS (k_Z M) A (a_S X))))))) rfl ?_
          exact Rt _ _ (r_fin 3) (w_G (k_Z M) A (a_kp X) (fd_up (a_fd X) 3) ++ (w_F (k_Z M) (A 1) (a_F X) ++ (w_F (k_Z M) (A 2) (f_hoursC goA (a_F X) i) ++ (w_F (k_Z M) (A 3) (a_K X) ++ (w_T (k_Z M) (A 4) (t_of (a_tp X) J) ++ (w_SS (k_Z M) A (a_S X))))))) dX3_meet_95 rfl (⟨f_hoursC goA (a_F X) i, J, by simp only [o_meet, a_fin, if_pos c_3, if_pos c_8, if_neg c_11, if_pos c_16, nI_clamp (n := u) (by omega), nI_clamp (n := v) (by omega), (show o_find (p_meet (a_F X) u v) 101 0 = 101 by rw [hF, show n_13 = 0 by omega, o_find]; omega), o_none, if_neg (show ¬ 101 < 101 by omega)], by simp only [o_meet, a_fin, if_pos c_3, if_pos c_8, if_neg c_11, if_pos c_16, nI_clamp (n := u) (by omega), nI_clamp (n := v) (by omega), (show o_find (p_meet (a_F X) u v) 101 0 = 101 by rw [hF, show n_13 = 0 by omega, o_find]; omega), o_none, if_neg (show ¬ 101 < 101 by omega)]; rfl⟩)
        · have c_16n : ¬ (100 < i) := fun h9 => c_16 ((nI_ltI (a := 100) (b := i) (by omega) (by omega)).mpr h9)
          refine q_aload_n K 1 dX3_meet_46 rfl ?_
          refine q_get (.ref ((A 2) 0)) K ws_X3 0 rfl rfl 1 (by decide) fl_X3_16 rfl dX3_meet_47 ?_
          refine q_get (.ref ((A 2) 3)) K ws_X0 13 rfl rfl 2 (by decide) fl_X3_91 rfl dX3_meet_50 ?_
          refine q_iconst 1 K dX3_meet_53 rfl ?_
          refine q_aldg (y := (A 2) 6) K 16 rfl (vp_in_nI (n := 1) (N := 5) (by omega) (by omega)) rfl dX3_meet_54 ?_
          refine q_iload_n K 2 dX3_meet_55 rfl ?_
          refine q_iald K 19 rfl (vp_in_nI (n := u) (N := 8) (by omega) (by omega)) dX3_meet_56 ?_
          refine q_eqi ((f_fd (f_hoursC goA (a_F X) i)) u) (by rw [nI_clamp (n := u) (by omega)]) ?_
          refine q_aload_n K 1 dX3_meet_57 rfl ?_
          refine q_get (.ref ((A 2) 0)) K ws_X3 0 rfl rfl 1 (by decide) fl_X3_16 rfl dX3_meet_58 ?_
          refine q_get (.ref ((A 2) 3)) K ws_X0 13 rfl rfl 2 (by decide) fl_X3_91 rfl dX3_meet_61 ?_
          refine q_iconst 1 K dX3_meet_64 rfl ?_
          refine q_aldg (y := (A 2) 6) K 16 rfl (vp_in_nI (n := 1) (N := 5) (by omega) (by omega)) rfl dX3_meet_65 ?_
          refine q_iload_n K 3 dX3_meet_66 rfl ?_
          refine q_iald K 19 rfl (vp_in_nI (n := v) (N := 8) (by omega) (by omega)) dX3_meet_67 ?_
          refine q_eqi ((f_fd (f_hoursC goA (a_F X) i)) v) (by rw [nI_clamp (n := v) (by omega)]) ?_
          refine q_icmp_ne 73 K dX3_meet_68 (by decide) (fun c_19 => ?_) (fun c_19 => ?_)
          · refine q_aload_n K 1 dX3_meet_73 rfl ?_
            refine q_get (.ref ((A 2) 0)) K ws_X3 0 rfl rfl 1 (by decide) fl_X3_16 rfl dX3_meet_74 ?_
            refine q_iconst 1 K dX3_meet_77 rfl ?_
            refine q_sipush 255 K dX3_meet_78 rfl ?_
            refine q_cvV (q0 := 0) (As := [.int 1, .int 255]) (rest := []) K kv_X0_passHours (c_X0_passHours (k_l M) (k_Z M) (A 2) (f_hoursC goA (a_F X) i) m hm (by rw [f_hoursC_wk]; exact hm2) 1 (by omega) 255) (w_G (k_Z M) A (a_kp X) (a_fd X) ++ (w_F (k_Z M) (A 1) (a_F X))) (w_F (k_Z M) (A 3) (a_K X) ++ (w_T (k_Z M) (A 4) (t_of (a_tp X) J) ++ (w_SS (k_Z M) A (a_S X)))) rfl rfl rfl ml_X3_108 rfl rfl (Nat.le_of_ble_eq_true rfl) ⟨Nat.le_of_ble_eq_true rfl, Nat.le_of_ble_eq_true rfl⟩ dX3_meet_81 (fun w2 h_20 => ?_)
            obtain rfl := h_20
            refine q_ws (ws' := w_G (k_Z M) A (a_kp X) (a_fd X) ++ (w_F (k_Z M) (A 1) (a_F X) ++ (w_F (k_Z M) (A 2) (f_hoursC (f_gm 255) (f_hoursC goA (a_F X) i) 1) ++ (w_F (k_Z M) (A 3) (a_K X) ++ (w_T (k_Z M) (A 4) (t_of (a_tp X) J) ++ (w_SS (k_Z M) A (a_S X))))))) rfl ?_
            refine q_iinc (nI (i + 1)) (lv' := [(3, .int (nI (i + 1))), (0, .ref ((A 0) 0)), (1, .int (nI u)), (2, .int (nI v))]) K 0 dX3_meet_84 rfl (kn_inc i) (by decide) rfl ?_
            refine q_goto 40 K dX3_meet_87 (by decide) ?_
            exact ih_15 (n_13 - 1) (i + 1) (by omega) ⟨by show i + 1 + (n_13 - 1) = 101; omega, by rw [hF, show n_13 = (n_13 - 1) + 1 by omega, o_find, if_neg (by rw [p_meet, decide_eq_false c_19]; decide)]; rfl⟩
          · refine q_iload_n K 0 dX3_meet_71 rfl ?_
            exact Rt _ _ (nI i) (w_G (k_Z M) A (a_kp X) (a_fd X) ++ (w_F (k_Z M) (A 1) (a_F X) ++ (w_F (k_Z M) (A 2) (f_hoursC goA (a_F X) i) ++ (w_F (k_Z M) (A 3) (a_K X) ++ (w_T (k_Z M) (A 4) (t_of (a_tp X) J) ++ (w_SS (k_Z M) A (a_S X))))))) dX3_meet_72 rfl (⟨f_hoursC goA (a_F X) i, J, by simp only [o_meet, a_fin, if_pos c_3, if_pos c_8, if_neg c_11, if_neg c_16, if_pos c_19, nI_clamp (n := u) (by omega), nI_clamp (n := v) (by omega), (show o_find (p_meet (a_F X) u v) 101 0 = i by rw [hF, show n_13 = (n_13 - 1) + 1 by omega, o_find, if_pos (by rw [p_meet, decide_eq_true c_19] <;> rfl)]), o_none, if_pos (show i < 101 by omega)], by simp only [o_meet, a_fin, if_pos c_3, if_pos c_8, if_neg c_11, if_neg c_16, if_pos c_19, nI_clamp (n := u) (by omega), nI_clamp (n := v) (by omega), (show o_find (p_meet (a_F X) u v) 101 0 = i by rw [hF, show n_13 = (n_13 - 1) + 1 by omega, o_find, if_pos (by rw [p_meet, decide_eq_true c_19] <;> rfl)]), o_none, if_pos (show i < 101 by omega)]; rfl⟩)
      · have c_11n : u = v := (nI_eq (a := u) (b := v) (by omega) (by omega)).mp c_11
        refine q_aload_n K 0 dX3_meet_21 rfl ?_
        refine q_iconst 0 K dX3_meet_22 rfl ?_
        refine q_wI (q0 := 0) (As := [.int 0]) (rest := []) K kv_X3_finding (c_X3_finding (k_l M) (k_Z M) A X T J 0 (by omega)) rfl rfl ml_X3_52 rfl rfl (Nat.le_of_ble_eq_true rfl) ⟨Nat.le_of_ble_eq_true rfl, Nat.le_of_ble_eq_true rfl⟩ dX3_meet_23 (fun r_23 w2 h_22 => ?_)
        obtain ⟨e_r_23, rfl⟩ := h_22
        refine q_eqi (r_fin 0) e_r_23 ?_
        refine q_ws (ws' := w_G (k_Z M) A (a_kp X) (fd_up (a_fd X) 0) ++ (w_F (k_Z M) (A 1) (a_F X) ++ (w_F (k_Z M) (A 2) T ++ (w_F (k_Z M) (A 3) (a_K X) ++ (w_T (k_Z M) (A 4) (t_of (a_tp X) J) ++ (w_SS (k_Z M) A (a_S X))))))) rfl ?_
        exact Rt _ _ (r_fin 0) (w_G (k_Z M) A (a_kp X) (fd_up (a_fd X) 0) ++ (w_F (k_Z M) (A 1) (a_F X) ++ (w_F (k_Z M) (A 2) T ++ (w_F (k_Z M) (A 3) (a_K X) ++ (w_T (k_Z M) (A 4) (t_of (a_tp X) J) ++ (w_SS (k_Z M) A (a_S X))))))) dX3_meet_26 rfl (⟨T, J, by simp only [o_meet, a_fin, if_pos c_3, if_pos c_8, if_pos c_11, e_r_2, e_r_7, nI_clamp (n := u) (by omega), nI_clamp (n := v) (by omega)], by simp only [o_meet, a_fin, if_pos c_3, if_pos c_8, if_pos c_11, nI_clamp (n := u) (by omega), nI_clamp (n := v) (by omega)]; rfl⟩)
theorem kv_X3_meet : k_iv yX3_meet cX3_meet 4 (some .int) 2 := ⟨⟨im_X3_meet, se_X3_meet⟩, in_X3, co_X3_meet, by decide +kernel⟩
set_option maxHeartbeats 4000000 in
set_option maxRecDepth 100000 in
theorem c_X3_windFor (l : Launch) (Z : kz_Z) (A : Nat → Nat → Nat) (X : AS) (T : FS) (J : TJ) (m : Nat) (hm : m ≤ 8) (hm2 : f_wk (a_F X) = nI m) (field v n : Int32) : KI l Z yX3_windFor cX3_windFor 5 .int 5 110 [.ref ((A 0) 0), .int field, .int v, .int n] (w_G Z A (a_kp X) (a_fd X) ++ (w_F Z (A 1) (a_F X) ++ (w_F Z (A 2) T ++ (w_F Z (A 3) (a_K X) ++ (w_T Z (A 4) (t_of (a_tp X) J) ++ (w_SS Z A (a_S X))))))) (fun r w2 => ∃ T2 J2, r = (o_windFor X field v n).1 ∧ w2 = w_C Z A (o_windFor X field v n).2 T2 J2) := by
  refine ki_of (by decide) [(0, .ref ((A 0) 0)), (1, .int field), (2, .int v), (3, .int n)] (Nat.le_of_ble_eq_true rfl) rfl ?_
  intro M e1 e2 K Rt
  subst e1 e2
  refine q_iload_n K 1 dX3_windFor_0 rfl ?_
  refine q_cp (rest := []) K ks_X3_isField (c_X3_isField (k_l M) (k_Z M) field) ml_X3_44 rfl rfl (Nat.le_of_ble_eq_true rfl) ⟨Nat.le_of_ble_eq_true rfl, Nat.le_of_ble_eq_true rfl⟩ dX3_windFor_1 (fun r_1 e_r_1 => ?_)
  refine q_if_eq 28 K dX3_windFor_4 (by decide) (fun c_2 => ?_) (fun c_2 => ?_)
  · have c_2 : ¬ (inR field 0 8) := (kn_eq e_r_1).mp c_2
    refine q_aload_n K 0 dX3_windFor_28 rfl ?_
    refine q_iconst 0 K dX3_windFor_29 rfl ?_
    refine q_wI (q0 := 0) (As := [.int 0]) (rest := []) K kv_X3_finding (c_X3_finding (k_l M) (k_Z M) A X T J 0 (by omega)) rfl rfl ml_X3_52 rfl rfl (Nat.le_of_ble_eq_true rfl) ⟨Nat.le_of_ble_eq_true rfl, Nat.le_of_ble_eq_true rfl⟩ dX3_windFor_30 (fun r_4 w2 h_3 => ?_)
    obtain ⟨e_r_4, rfl⟩ := h_3
    refine q_eqi (r_fin 0) e_r_4 ?_
    refine q_ws (ws' := w_G (k_Z M) A (a_kp X) (fd_up (a_fd X) 0) ++ (w_F (k_Z M) (A 1) (a_F X) ++ (w_F (k_Z M) (A 2) T ++ (w_F (k_Z M) (A 3) (a_K X) ++ (w_T (k_Z M) (A 4) (t_of (a_tp X) J) ++ (w_SS (k_Z M) A (a_S X))))))) rfl ?_
    exact Rt _ _ (r_fin 0) (w_G (k_Z M) A (a_kp X) (fd_up (a_fd X) 0) ++ (w_F (k_Z M) (A 1) (a_F X) ++ (w_F (k_Z M) (A 2) T ++ (w_F (k_Z M) (A 3) (a_K X) ++ (w_T (k_Z M) (A 4) (t_of (a_tp X) J) ++ (w_SS (k_Z M) A (a_S X))))))) dX3_windFor_33 rfl (⟨T, J, by simp only [o_windFor, a_fin, if_neg c_2, e_r_1], by simp only [o_windFor, a_fin, if_neg c_2]; rfl⟩)
  · have c_2 : inR field 0 8 := (kn_ne e_r_1).mp c_2
    obtain ⟨f, h_f, e_f⟩ := kn_rng (n := 8) c_2 rfl
    subst e_f
    refine q_iload_n K 2 dX3_windFor_7 rfl ?_
    refine q_iconst 0 K dX3_windFor_8 rfl ?_
    refine q_sipush 9999 K dX3_windFor_9 rfl ?_
    refine q_cp (rest := []) K ks_X3_isIn (c_X3_isIn (k_l M) (k_Z M) v 0 9999) ml_X3_48 rfl rfl (Nat.le_of_ble_eq_true rfl) ⟨Nat.le_of_ble_eq_true rfl, Nat.le_of_ble_eq_true rfl⟩ dX3_windFor_12 (fun r_5 e_r_5 => ?_)
    refine q_if_eq 28 K dX3_windFor_15 (by decide) (fun c_6 => ?_) (fun c_6 => ?_)
    · have c_6 : ¬ (inR v 0 9999) := (kn_eq e_r_5).mp c_6
      refine q_aload_n K 0 dX3_windFor_28 rfl ?_
      refine q_iconst 0 K dX3_windFor_29 rfl ?_
      refine q_wI (q0 := 0) (As := [.int 0]) (rest := []) K kv_X3_finding (c_X3_finding (k_l M) (k_Z M) A X T J 0 (by omega)) rfl rfl ml_X3_52 rfl rfl (Nat.le_of_ble_eq_true rfl) ⟨Nat.le_of_ble_eq_true rfl, Nat.le_of_ble_eq_true rfl⟩ dX3_windFor_30 (fun r_8 w2 h_7 => ?_)
      obtain ⟨e_r_8, rfl⟩ := h_7
      refine q_eqi (r_fin 0) e_r_8 ?_
      refine q_ws (ws' := w_G (k_Z M) A (a_kp X) (fd_up (a_fd X) 0) ++ (w_F (k_Z M) (A 1) (a_F X) ++ (w_F (k_Z M) (A 2) T ++ (w_F (k_Z M) (A 3) (a_K X) ++ (w_T (k_Z M) (A 4) (t_of (a_tp X) J) ++ (w_SS (k_Z M) A (a_S X))))))) rfl ?_
      exact Rt _ _ (r_fin 0) (w_G (k_Z M) A (a_kp X) (fd_up (a_fd X) 0) ++ (w_F (k_Z M) (A 1) (a_F X) ++ (w_F (k_Z M) (A 2) T ++ (w_F (k_Z M) (A 3) (a_K X) ++ (w_T (k_Z M) (A 4) (t_of (a_tp X) J) ++ (w_SS (k_Z M) A (a_S X))))))) dX3_windFor_33 rfl (⟨T, J, by simp only [o_windFor, a_fin, if_pos c_2, if_neg c_6, e_r_1, e_r_5, nI_clamp (n := f) (by omega)], by simp only [o_windFor, a_fin, if_pos c_2, if_neg c_6, nI_clamp (n := f) (by omega)]; rfl⟩)
    · have c_6 : inR v 0 9999 := (kn_ne e_r_5).mp c_6
      refine q_iload_n K 3 dX3_windFor_18 rfl ?_
      refine q_iconst 0 K dX3_windFor_19 rfl ?_
      refine q_bipush 40 K dX3_windFor_20 rfl ?_
      refine q_cp (rest := []) K ks_X3_isIn (c_X3_isIn (k_l M) (k_Z M) n 0 40) ml_X3_48 rfl rfl (Nat.le_of_ble_eq_true rfl) ⟨Nat.le_of_ble_eq_true rfl, Nat.le_of_ble_eq_true rfl⟩ dX3_windFor_22 (fun r_9 e_r_9 => ?_)
      refine q_if_ne 34 K dX3_windFor_25 (by decide) (fun c_10 => ?_) (fun c_10 => ?_)
      · have c_10 : inR n 0 40 := (kn_ne e_r_9).mp c_10
        obtain ⟨k, h_k, e_k⟩ := kn_rng (n := 40) c_10 rfl
        subst e_k
        refine q_iconst 0 K dX3_windFor_34 rfl ?_
        refine q_istore (lv' := [(4, .int 0), (0, .ref ((A 0) 0)), (1, .int (nI f)), (2, .int v), (3, .int (nI k))]) K dX3_windFor_35 (by decide) rfl ?_
        refine q_loop (α := Nat × FS) (fun n9 x9 => (x9.1 + n9 = 10) ∧ o_find (p_windFor (a_F X) f v k) 10 0 = o_find (p_windFor (a_F X) f v k) n9 x9.1) 37 (fun x9 => [(4, .int (nI x9.1)), (0, .ref ((A 0) 0)), (1, .int (nI f)), (2, .int v), (3, .int (nI k))]) (fun x9 => w_G (k_Z M) A (a_kp X) (a_fd X) ++ (w_F (k_Z M) (A 1) (a_F X) ++ (w_F (k_Z M) (A 2) x9.2 ++ (w_F (k_Z M) (A 3) (a_K X) ++ (w_T (k_Z M) (A 4) (t_of (a_tp X) J) ++ (w_SS (k_Z M) A (a_S X))))))) (fun n_11 x9 hI_12 ih_13 => ?_) 10 (0, T) ⟨rfl, rfl⟩
        obtain ⟨i, T1⟩ := x9
        dsimp only at hI_12 ih_13 ⊢
        obtain ⟨hI, hF⟩ := hI_12
        refine q_iload K 0 dX3_windFor_37 rfl ?_
        refine q_bipush 9 K dX3_windFor_39 rfl ?_
        refine q_icmp_gt 97 K dX3_windFor_41 (by decide) (fun c_14 => ?_) (fun c_14 => ?_)
        · have c_14n : 9 < i := (nI_ltI (a := 9) (b := i) (by omega) (by omega)).mp c_14
          refine q_aload_n K 1 dX3_windFor_97 rfl ?_
          refine q_iconst 3 K dX3_windFor_98 rfl ?_
          refine q_wI (q0 := 0) (As := [.int 3]) (rest := []) K kv_X3_finding (c_X3_finding (k_l M) (k_Z M) A X T1 J 3 (by omega)) rfl rfl ml_X3_52 rfl rfl (Nat.le_of_ble_eq_true rfl) ⟨Nat.le_of_ble_eq_true rfl, Nat.le_of_ble_eq_true rfl⟩ dX3_windFor_99 (fun r_16 w2 h_15 => ?_)
          obtain ⟨e_r_16, rfl⟩ := h_15
          refine q_eqi (r_fin 3) e_r_16 ?_
          refine q_ws (ws' := w_G (k_Z M) A (a_kp X) (fd_up (a_fd X) 3) ++ (w_F (k_Z M) (A 1) (a_F X) ++ (w_F (k_Z M) (A 2) T1 ++ (w_F (k_Z M) (A 3) (a_K X) ++ (w_T (k_Z M) (A 4) (t_of (a_tp X) J) ++ (w_SS (k_Z M) A (a_S X))))))) rfl ?_
          exact Rt _ _ (r_fin 3) (w_G (k_Z M) A (a_kp X) (fd_up (a_fd X) 3) ++ (w_F (k_Z M) (A 1) (a_F X) ++ (w_F (k_Z M) (A 2) T1 ++ (w_F (k_Z M) (A 3) (a_K X) ++ (w_T (k_Z M) (A 4) (t_of (a_tp X) J) ++ (w_SS (k_Z M) A (a_S X))))))) dX3_windFor_102 rfl (⟨T1, J, by simp only [o_windFor, a_fin, if_pos c_2, if_pos c_6, if_pos c_10, if_pos c_14, nI_clamp (n := f) (by omega), nI_clamp (n := k) (by omega), (show o_find (p_windFor (a_F X) f v k) 10 0 = 10 by rw [hF, show n_11 = 0 by omega, o_find]; omega), o_none, if_neg (show ¬ 10 < 10 by omega)], by simp only [o_windFor, a_fin, if_pos c_2, if_pos c_6, if_pos c_10, if_pos c_14, nI_clamp (n := f) (by omega), nI_clamp (n := k) (by omega), (show o_find (p_windFor (a_F X) f v k) 10 0 = 10 by rw [hF, show n_11 = 0 by omega, o_find]; omega), o_none, if_neg (show ¬ 10 < 10 by omega)]; rfl⟩)
        · have c_14n : ¬ (9 < i) := fun h9 => c_14 ((nI_ltI (a := 9) (b := i) (by omega) (by omega)).mpr h9)
          refine q_aload_n K 1 dX3_windFor_44 rfl ?_
          refine q_get (.ref ((A 2) 0)) K ws_X3 0 rfl rfl 1 (by decide) fl_X3_16 rfl dX3_windFor_45 ?_
          refine q_aload_n K 1 dX3_windFor_48 rfl ?_
          refine q_get (.ref ((A 1) 0)) K ws_X3 0 rfl rfl 0 (by decide) fl_X3_12 rfl dX3_windFor_49 ?_
          refine q_cvV (q0 := 10) (As := [.ref ((A 1) 0)]) (rest := []) K kv_X0_become (c_X0_becomeR (k_l M) (k_Z M) (A 2) (A 1) T1 (a_F X)) (w_G (k_Z M) A (a_kp X) (a_fd X)) (w_F (k_Z M) (A 3) (a_K X) ++ (w_T (k_Z M) (A 4) (t_of (a_tp X) J) ++ (w_SS (k_Z M) A (a_S X)))) rfl rfl rfl ml_X3_132 rfl rfl (Nat.le_of_ble_eq_true rfl) ⟨Nat.le_of_ble_eq_true rfl, Nat.le_of_ble_eq_true rfl⟩ dX3_windFor_52 (fun w2 h_17 => ?_)
          obtain rfl := h_17
          refine q_ws (ws' := w_G (k_Z M) A (a_kp X) (a_fd X) ++ (w_F (k_Z M) (A 1) (a_F X) ++ (w_F (k_Z M) (A 2) (a_F X) ++ (w_F (k_Z M) (A 3) (a_K X) ++ (w_T (k_Z M) (A 4) (t_of (a_tp X) J) ++ (w_SS (k_Z M) A (a_S X))))))) rfl ?_
          refine q_aload_n K 1 dX3_windFor_55 rfl ?_
          refine q_get (.ref ((A 2) 0)) K ws_X3 0 rfl rfl 1 (by decide) fl_X3_16 rfl dX3_windFor_56 ?_
          refine q_iload K 0 dX3_windFor_59 rfl ?_
          refine q_put (ty := .int) (ws' := w_G (k_Z M) A (a_kp X) (a_fd X) ++ (w_F (k_Z M) (A 1) (a_F X) ++ (w_F (k_Z M) (A 2) (f_bs (a_F X), f_gs (a_F X), f_kd (a_F X), f_fd (a_F X), f_wy (a_F X), f_md (a_F X), f_ps (a_F X), f_hd (a_F X), f_wk (a_F X), nI i, f_hr (a_F X), f_zz (a_F X)) ++ (w_F (k_Z M) (A 3) (a_K X) ++ (w_T (k_Z M) (A 4) (t_of (a_tp X) J) ++ (w_SS (k_Z M) A (a_S X))))))) K ws_X0 tyX0 tyX0_ok nmX0 13 rfl rfl 5 (by decide) fl_X3_71 rfl (by decide +kernel) rfl rfl (Nat.le_of_ble_eq_true rfl) rfl dX3_windFor_61 ?_
          refine q_ws (ws' := w_G (k_Z M) A (a_kp X) (a_fd X) ++ (w_F (k_Z M) (A 1) (a_F X) ++ (w_F (k_Z M) (A 2) (f_setwd (a_F X) (nI i)) ++ (w_F (k_Z M) (A 3) (a_K X) ++ (w_T (k_Z M) (A 4) (t_of (a_tp X) J) ++ (w_SS (k_Z M) A (a_S X))))))) rfl ?_
          refine q_aload_n K 1 dX3_windFor_64 rfl ?_
          refine q_get (.ref ((A 2) 0)) K ws_X3 0 rfl rfl 1 (by decide) fl_X3_16 rfl dX3_windFor_65 ?_
          refine q_iload_n K 4 dX3_windFor_68 rfl ?_
          refine q_sipush 255 K dX3_windFor_69 rfl ?_
          refine q_cvV (q0 := 0) (As := [.int (nI k), .int 255]) (rest := []) K kv_X0_passHours (c_X0_passHours (k_l M) (k_Z M) (A 2) (f_setwd (a_F X) (nI i)) m hm hm2 k (by omega) 255) (w_G (k_Z M) A (a_kp X) (a_fd X) ++ (w_F (k_Z M) (A 1) (a_F X))) (w_F (k_Z M) (A 3) (a_K X) ++ (w_T (k_Z M) (A 4) (t_of (a_tp X) J) ++ (w_SS (k_Z M) A (a_S X)))) rfl rfl rfl ml_X3_108 rfl rfl (Nat.le_of_ble_eq_true rfl) ⟨Nat.le_of_ble_eq_true rfl, Nat.le_of_ble_eq_true rfl⟩ dX3_windFor_72 (fun w2 h_18 => ?_)
          obtain rfl := h_18
          refine q_ws (ws' := w_G (k_Z M) A (a_kp X) (a_fd X) ++ (w_F (k_Z M) (A 1) (a_F X) ++ (w_F (k_Z M) (A 2) (f_hoursC (f_gm 255) (f_setwd (a_F X) (nI i)) k) ++ (w_F (k_Z M) (A 3) (a_K X) ++ (w_T (k_Z M) (A 4) (t_of (a_tp X) J) ++ (w_SS (k_Z M) A (a_S X))))))) rfl ?_
          refine q_aload_n K 1 dX3_windFor_75 rfl ?_
          refine q_get (.ref ((A 2) 0)) K ws_X3 0 rfl rfl 1 (by decide) fl_X3_16 rfl dX3_windFor_76 ?_
          refine q_get (.ref ((A 2) 1)) K ws_X0 13 rfl rfl 0 (by decide) fl_X3_56 rfl dX3_windFor_79 ?_
          refine q_iload_n K 2 dX3_windFor_82 rfl ?_
          refine q_iald K 14 rfl (vp_in_nI (n := f) (N := 9) (by omega) (by omega)) dX3_windFor_83 ?_
          refine q_eqi ((f_bs (f_hoursC (f_gm 255) (f_setwd (a_F X) (nI i)) k)) f) (by rw [nI_clamp (n := f) (by omega)]) ?_
          refine q_iload_n K 3 dX3_windFor_84 rfl ?_
          refine q_icmp_gt 91 K dX3_windFor_85 (by decide) (fun c_20 => ?_) (fun c_20 => ?_)
          · refine q_iinc (nI (i + 1)) (lv' := [(4, .int (nI (i + 1))), (0, .ref ((A 0) 0)), (1, .int (nI f)), (2, .int v), (3, .int (nI k))]) K 0 dX3_windFor_91 rfl (kn_inc i) (by decide) rfl ?_
            refine q_goto 37 K dX3_windFor_94 (by decide) ?_
            exact ih_13 (n_11 - 1) (i + 1, f_hoursC (f_gm 255) (f_setwd (a_F X) (nI i)) k) (by omega) ⟨by show i + 1 + (n_11 - 1) = 10; omega, by rw [hF, show n_11 = (n_11 - 1) + 1 by omega, o_find, if_neg (by rw [p_windFor, decide_eq_true c_20]; decide)]; rfl⟩
          · refine q_iload K 0 dX3_windFor_88 rfl ?_
            exact Rt _ _ (nI i) (w_G (k_Z M) A (a_kp X) (a_fd X) ++ (w_F (k_Z M) (A 1) (a_F X) ++ (w_F (k_Z M) (A 2) (f_hoursC (f_gm 255) (f_setwd (a_F X) (nI i)) k) ++ (w_F (k_Z M) (A 3) (a_K X) ++ (w_T (k_Z M) (A 4) (t_of (a_tp X) J) ++ (w_SS (k_Z M) A (a_S X))))))) dX3_windFor_90 rfl (⟨f_hoursC (f_gm 255) (f_setwd (a_F X) (nI i)) k, J, by simp only [o_windFor, a_fin, if_pos c_2, if_pos c_6, if_pos c_10, if_neg c_14, if_neg c_20, nI_clamp (n := f) (by omega), nI_clamp (n := k) (by omega), (show o_find (p_windFor (a_F X) f v k) 10 0 = i by rw [hF, show n_11 = (n_11 - 1) + 1 by omega, o_find, if_pos (by rw [p_windFor, decide_eq_false c_20] <;> rfl)]), o_none, if_pos (show i < 10 by omega)], by simp only [o_windFor, a_fin, if_pos c_2, if_pos c_6, if_pos c_10, if_neg c_14, if_neg c_20, nI_clamp (n := f) (by omega), nI_clamp (n := k) (by omega), (show o_find (p_windFor (a_F X) f v k) 10 0 = i by rw [hF, show n_11 = (n_11 - 1) + 1 by omega, o_find, if_pos (by rw [p_windFor, decide_eq_false c_20] <;> rfl)]), o_none, if_pos (show i < 10 by omega)]; rfl⟩)
      · have c_10 : ¬ (inR n 0 40) := (kn_eq e_r_9).mp c_10
        refine q_aload_n K 0 dX3_windFor_28 rfl ?_
        refine q_iconst 0 K dX3_windFor_29 rfl ?_
        refine q_wI (q0 := 0) (As := [.int 0]) (rest := []) K kv_X3_finding (c_X3_finding (k_l M) (k_Z M) A X T J 0 (by omega)) rfl rfl ml_X3_52 rfl rfl (Nat.le_of_ble_eq_true rfl) ⟨Nat.le_of_ble_eq_true rfl, Nat.le_of_ble_eq_true rfl⟩ dX3_windFor_30 (fun r_22 w2 h_21 => ?_)
        obtain ⟨e_r_22, rfl⟩ := h_21
        refine q_eqi (r_fin 0) e_r_22 ?_
        refine q_ws (ws' := w_G (k_Z M) A (a_kp X) (fd_up (a_fd X) 0) ++ (w_F (k_Z M) (A 1) (a_F X) ++ (w_F (k_Z M) (A 2) T ++ (w_F (k_Z M) (A 3) (a_K X) ++ (w_T (k_Z M) (A 4) (t_of (a_tp X) J) ++ (w_SS (k_Z M) A (a_S X))))))) rfl ?_
        exact Rt _ _ (r_fin 0) (w_G (k_Z M) A (a_kp X) (fd_up (a_fd X) 0) ++ (w_F (k_Z M) (A 1) (a_F X) ++ (w_F (k_Z M) (A 2) T ++ (w_F (k_Z M) (A 3) (a_K X) ++ (w_T (k_Z M) (A 4) (t_of (a_tp X) J) ++ (w_SS (k_Z M) A (a_S X))))))) dX3_windFor_33 rfl (⟨T, J, by simp only [o_windFor, a_fin, if_pos c_2, if_pos c_6, if_neg c_10, e_r_1, e_r_5, e_r_9, nI_clamp (n := f) (by omega)], by simp only [o_windFor, a_fin, if_pos c_2, if_pos c_6, if_neg c_10, nI_clamp (n := f) (by omega)]; rfl⟩)
theorem kv_X3_windFor : k_iv yX3_windFor cX3_windFor 5 (some .int) 3 := ⟨⟨im_X3_windFor, se_X3_windFor⟩, in_X3, co_X3_windFor, by decide +kernel⟩
