theorem m1_neg : ∀ f : Fin 121, (-1 : Int32) - nI f.val < 0 := by decide +kernel
set_option maxHeartbeats 4000000 in
set_option maxRecDepth 100000 in
theorem c_X3_text (l : Launch) (Z : kz_Z) (A : Nat → Nat → Nat) (X : AS) (T : FS) (J : TJ) (m : Nat) (hm : m ≤ 8) (hm2 : f_wk (a_F X) = nI m) (hq : (a_tp X).2 ≤ 120) (hb : p_byt (a_tp X)) (D : DJ) : KI l Z yX3_text cX3_text 2 .int 6 133 [.ref ((A 0) 0)] (w_G Z A (a_kp X) (a_fd X) ++ (w_F Z (A 1) (a_F X) ++ (w_F Z (A 2) T ++ (w_F Z (A 3) (a_K X) ++ (w_T Z (A 4) (t_of (a_tp X) J) ++ (w_SS Z A (a_S X))))))) (fun r w2 => ∃ T2 J2, r = (o_text X D).1 ∧ w2 = w_C Z A (o_text X D).2 T2 J2) := by
  refine ki_of (by decide) [(0, .ref ((A 0) 0))] (Nat.le_of_ble_eq_true rfl) rfl ?_
  intro M e1 e2 K Rt
  subst e1 e2
  refine q_aload_n K 0 dX3_text_0 rfl ?_
  refine q_get (.ref ((A 2) 0)) K ws_X3 0 rfl rfl 1 (by decide) fl_X3_16 rfl dX3_text_1 ?_
  refine q_aload_n K 0 dX3_text_4 rfl ?_
  refine q_get (.ref ((A 1) 0)) K ws_X3 0 rfl rfl 0 (by decide) fl_X3_12 rfl dX3_text_5 ?_
  refine q_cvV (q0 := 10) (As := [.ref ((A 1) 0)]) (rest := []) K kv_X0_become (c_X0_becomeR (k_l M) (k_Z M) (A 2) (A 1) T (a_F X)) (w_G (k_Z M) A (a_kp X) (a_fd X)) (w_F (k_Z M) (A 3) (a_K X) ++ (w_T (k_Z M) (A 4) (t_of (a_tp X) J) ++ (w_SS (k_Z M) A (a_S X)))) rfl rfl rfl ml_X3_132 rfl rfl (Nat.le_of_ble_eq_true rfl) ⟨Nat.le_of_ble_eq_true rfl, Nat.le_of_ble_eq_true rfl⟩ dX3_text_8 (fun w2 h_1 => ?_)
  obtain rfl := h_1
  refine q_ws (ws' := w_G (k_Z M) A (a_kp X) (a_fd X) ++ (w_F (k_Z M) (A 1) (a_F X) ++ (w_F (k_Z M) (A 2) (a_F X) ++ (w_F (k_Z M) (A 3) (a_K X) ++ (w_T (k_Z M) (A 4) (t_of (a_tp X) J) ++ (w_SS (k_Z M) A (a_S X))))))) rfl ?_
  refine q_aload_n K 0 dX3_text_11 rfl ?_
  refine q_get (.ref ((A 4) 0)) K ws_X3 0 rfl rfl 4 (by decide) fl_X3_29 rfl dX3_text_12 ?_
  refine q_aload_n K 0 dX3_text_15 rfl ?_
  refine q_get (.ref ((A 2) 0)) K ws_X3 0 rfl rfl 1 (by decide) fl_X3_16 rfl dX3_text_16 ?_
  refine q_perm (ws' := w_G (k_Z M) A (a_kp X) (a_fd X) ++ (w_F (k_Z M) (A 1) (a_F X) ++ (w_F (k_Z M) (A 3) (a_K X) ++ (w_F (k_Z M) (A 2) (a_F X) ++ (w_T (k_Z M) (A 4) (t_of (a_tp X) J) ++ (w_SS (k_Z M) A (a_S X))))))) (List.Perm.append_left _ (List.Perm.append_left _ (k_sw _ _ _))) ?_
  refine q_cvI (q0 := 10) (As := [.ref ((A 2) 0)]) (rest := []) K kv_X2_tellTo (c_X2_tellTo (k_l M) (k_Z M) (A 2) (A 4) (a_tp X) J (a_F X) hq hb (d_start (a_F X) D) m hm hm2) (w_G (k_Z M) A (a_kp X) (a_fd X) ++ (w_F (k_Z M) (A 1) (a_F X) ++ (w_F (k_Z M) (A 3) (a_K X)))) (w_SS (k_Z M) A (a_S X)) rfl rfl rfl ml_X3_183 rfl rfl (Nat.le_of_ble_eq_true rfl) ⟨Nat.le_of_ble_eq_true rfl, Nat.le_of_ble_eq_true rfl⟩ dX3_text_19 (fun r_3 w2 h_2 => ?_)
  obtain ⟨kk, T9, J9, hA, hO, rfl⟩ := h_2
  have hE : i_all X D = (kk, T9) := by rw [i_all, d_sq_0]; exact hA
  refine q_ws (ws' := w_G (k_Z M) A (a_kp X) (a_fd X) ++ (w_F (k_Z M) (A 1) (a_F X) ++ (w_F (k_Z M) (A 3) (a_K X) ++ (w_F (k_Z M) (A 2) T9.2.1 ++ (w_T (k_Z M) (A 4) (t_of (a_tp X) J9) ++ (w_SS (k_Z M) A (a_S X))))))) rfl ?_
  refine q_perm (ws' := w_G (k_Z M) A (a_kp X) (a_fd X) ++ (w_F (k_Z M) (A 1) (a_F X) ++ (w_F (k_Z M) (A 2) T9.2.1 ++ (w_F (k_Z M) (A 3) (a_K X) ++ (w_T (k_Z M) (A 4) (t_of (a_tp X) J9) ++ (w_SS (k_Z M) A (a_S X))))))) (List.Perm.append_left _ (List.Perm.append_left _ (k_sw _ _ _))) ?_
  rcases hO with ⟨hg, e_r_3, hk⟩ | ⟨hg, e_r_3, f, hf, ef⟩
  · refine q_eqi (nI kk) e_r_3 ?_
    refine q_istore_n (lv' := [(1, .int (nI kk)), (0, .ref ((A 0) 0))]) K dX3_text_22 (by decide) rfl ?_
    refine q_aload_n K 1 dX3_text_23 rfl ?_
    refine q_get (.ref ((A 4) 0)) K ws_X3 0 rfl rfl 4 (by decide) fl_X3_29 rfl dX3_text_24 ?_
    refine q_iconst 0 K dX3_text_27 rfl ?_
    refine q_put (ty := .int) (ws' := w_G (k_Z M) A (a_kp X) (a_fd X) ++ (w_F (k_Z M) (A 1) (a_F X) ++ (w_F (k_Z M) (A 2) T9.2.1 ++ (w_F (k_Z M) (A 3) (a_K X) ++ (w_T (k_Z M) (A 4) (t_by (t_of (a_tp X) J9), 0, t_so (t_of (a_tp X) J9), t_pl (t_of (a_tp X) J9), t_ln (t_of (a_tp X) J9), t_nx (t_of (a_tp X) J9)) ++ (w_SS (k_Z M) A (a_S X))))))) K ws_X2 tyX2 tyX2_ok nmX2 33 rfl rfl 1 (by decide) fl_X3_177 rfl (by decide +kernel) rfl rfl (Nat.le_of_ble_eq_true rfl) rfl dX3_text_28 ?_
    refine q_ws (ws' := w_G (k_Z M) A (a_kp X) (a_fd X) ++ (w_F (k_Z M) (A 1) (a_F X) ++ (w_F (k_Z M) (A 2) T9.2.1 ++ (w_F (k_Z M) (A 3) (a_K X) ++ (w_T (k_Z M) (A 4) (t_of ((a_tp X).1, 0) J9) ++ (w_SS (k_Z M) A (a_S X))))))) rfl ?_
    refine q_iload_n K 0 dX3_text_31 rfl ?_
    refine q_if_lt 46 K dX3_text_32 (by decide) (fun c_4 => ?_) (fun c_4 => ?_)
    · have c_4n : kk < 0 := (nI_ltI (a := kk) (b := 0) (by omega) (by omega)).mp c_4
      exact absurd c_4n (Nat.not_lt_zero _)
    · have c_4n : ¬ (kk < 0) := fun h9 => c_4 ((nI_ltI (a := kk) (b := 0) (by omega) (by omega)).mpr h9)
      refine q_aload_n K 1 dX3_text_35 rfl ?_
      refine q_get (.ref ((A 1) 0)) K ws_X3 0 rfl rfl 0 (by decide) fl_X3_12 rfl dX3_text_36 ?_
      refine q_aload_n K 1 dX3_text_39 rfl ?_
      refine q_get (.ref ((A 2) 0)) K ws_X3 0 rfl rfl 1 (by decide) fl_X3_16 rfl dX3_text_40 ?_
      refine q_cvV (q0 := 0) (As := [.ref ((A 2) 0)]) (rest := []) K kv_X0_become (c_X0_become (k_l M) (k_Z M) (A 1) (A 2) (a_F X) T9.2.1) (w_G (k_Z M) A (a_kp X) (a_fd X)) (w_F (k_Z M) (A 3) (a_K X) ++ (w_T (k_Z M) (A 4) (t_of ((a_tp X).1, 0) J9) ++ (w_SS (k_Z M) A (a_S X)))) rfl rfl rfl ml_X3_132 rfl rfl (Nat.le_of_ble_eq_true rfl) ⟨Nat.le_of_ble_eq_true rfl, Nat.le_of_ble_eq_true rfl⟩ dX3_text_43 (fun w2 h_5 => ?_)
      obtain rfl := h_5
      refine q_ws (ws' := w_G (k_Z M) A (a_kp X) (a_fd X) ++ (w_F (k_Z M) (A 1) T9.2.1 ++ (w_F (k_Z M) (A 2) T9.2.1 ++ (w_F (k_Z M) (A 3) (a_K X) ++ (w_T (k_Z M) (A 4) (t_of ((a_tp X).1, 0) J9) ++ (w_SS (k_Z M) A (a_S X))))))) rfl ?_
      refine q_iload_n K 0 dX3_text_46 rfl ?_
      exact Rt _ _ (nI kk) (w_G (k_Z M) A (a_kp X) (a_fd X) ++ (w_F (k_Z M) (A 1) T9.2.1 ++ (w_F (k_Z M) (A 2) T9.2.1 ++ (w_F (k_Z M) (A 3) (a_K X) ++ (w_T (k_Z M) (A 4) (t_of ((a_tp X).1, 0) J9) ++ (w_SS (k_Z M) A (a_S X))))))) dX3_text_47 rfl (⟨T9.2.1, J9, by rw [o_text_y hE hg.1 hg.2], by rw [o_text_y hE hg.1 hg.2] <;> rfl⟩)
  · refine q_eqi (-1 - d_fr T9.2.2) e_r_3 ?_
    refine q_istore_n (lv' := [(1, .int (-1 - d_fr T9.2.2)), (0, .ref ((A 0) 0))]) K dX3_text_22 (by decide) rfl ?_
    refine q_aload_n K 1 dX3_text_23 rfl ?_
    refine q_get (.ref ((A 4) 0)) K ws_X3 0 rfl rfl 4 (by decide) fl_X3_29 rfl dX3_text_24 ?_
    refine q_iconst 0 K dX3_text_27 rfl ?_
    refine q_put (ty := .int) (ws' := w_G (k_Z M) A (a_kp X) (a_fd X) ++ (w_F (k_Z M) (A 1) (a_F X) ++ (w_F (k_Z M) (A 2) T9.2.1 ++ (w_F (k_Z M) (A 3) (a_K X) ++ (w_T (k_Z M) (A 4) (t_by (t_of (a_tp X) J9), 0, t_so (t_of (a_tp X) J9), t_pl (t_of (a_tp X) J9), t_ln (t_of (a_tp X) J9), t_nx (t_of (a_tp X) J9)) ++ (w_SS (k_Z M) A (a_S X))))))) K ws_X2 tyX2 tyX2_ok nmX2 33 rfl rfl 1 (by decide) fl_X3_177 rfl (by decide +kernel) rfl rfl (Nat.le_of_ble_eq_true rfl) rfl dX3_text_28 ?_
    refine q_ws (ws' := w_G (k_Z M) A (a_kp X) (a_fd X) ++ (w_F (k_Z M) (A 1) (a_F X) ++ (w_F (k_Z M) (A 2) T9.2.1 ++ (w_F (k_Z M) (A 3) (a_K X) ++ (w_T (k_Z M) (A 4) (t_of ((a_tp X).1, 0) J9) ++ (w_SS (k_Z M) A (a_S X))))))) rfl ?_
    refine q_iload_n K 0 dX3_text_31 rfl ?_
    refine q_if_lt 46 K dX3_text_32 (by decide) (fun c_6 => ?_) (fun c_6 => ?_)
    · refine q_iload_n K 0 dX3_text_46 rfl ?_
      exact Rt _ _ (-1 - d_fr T9.2.2) (w_G (k_Z M) A (a_kp X) (a_fd X) ++ (w_F (k_Z M) (A 1) (a_F X) ++ (w_F (k_Z M) (A 2) T9.2.1 ++ (w_F (k_Z M) (A 3) (a_K X) ++ (w_T (k_Z M) (A 4) (t_of ((a_tp X).1, 0) J9) ++ (w_SS (k_Z M) A (a_S X))))))) dX3_text_47 rfl (⟨T9.2.1, J9, by rw [o_text_n hE hg], by rw [o_text_n hE hg] <;> rfl⟩)
    · exact absurd (show (-1 : Int32) - d_fr T9.2.2 < 0 by rw [ef]; exact m1_neg ⟨f, by omega⟩) c_6
theorem kv_X3_text : k_iv yX3_text cX3_text 2 (some .int) 0 := ⟨⟨im_X3_text, se_X3_text⟩, in_X3, co_X3_text, by decide +kernel⟩
