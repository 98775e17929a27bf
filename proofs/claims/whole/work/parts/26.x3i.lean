set_option maxHeartbeats 4000000 in
set_option maxRecDepth 100000 in
theorem c_X3_wrongSheet (l : Launch) (Z : kz_Z) (A : Nat → Nat → Nat) (X : AS) (T : FS) (J : TJ) (s : Int32) : KI l Z yX3_wrongSheet cX3_wrongSheet 2 .int 2 42 [.ref ((A 0) 0), .int s] (w_G Z A (a_kp X) (a_fd X) ++ (w_F Z (A 1) (a_F X) ++ (w_F Z (A 2) T ++ (w_F Z (A 3) (a_K X) ++ (w_T Z (A 4) (t_of (a_tp X) J) ++ (w_SS Z A (a_S X))))))) (fun r w2 => (¬ inR s 0 3 ∧ r = 0 ∧ w2 = w_C Z A X T J) ∨ (inR s 0 3 ∧ a_miss X s ∧ r = 5 ∧ w2 = w_C Z A X T J) ∨ (inR s 0 3 ∧ ¬ a_miss X s ∧ r = -1 ∧ w2 = w_C Z A X T J)) := by
  refine ki_of (by decide) [(0, .ref ((A 0) 0)), (1, .int s)] (Nat.le_of_ble_eq_true rfl) rfl ?_
  intro M e1 e2 K Rt
  subst e1 e2
  refine q_iload_n K 1 dX3_wrongSheet_0 rfl ?_
  refine q_cp (rest := []) K ks_X3_isSheet (c_X3_isSheet (k_l M) (k_Z M) s) ml_X3_197 rfl rfl (Nat.le_of_ble_eq_true rfl) ⟨Nat.le_of_ble_eq_true rfl, Nat.le_of_ble_eq_true rfl⟩ dX3_wrongSheet_1 (fun r_1 e_r_1 => ?_)
  refine q_if_ne 9 K dX3_wrongSheet_4 (by decide) (fun c_2 => ?_) (fun c_2 => ?_)
  · have c_2 : inR s 0 3 := (kn_ne e_r_1).mp c_2
    obtain ⟨k, h_k, e_k⟩ := kn_rng (n := 3) c_2 rfl
    subst e_k
    refine q_aload_n K 0 dX3_wrongSheet_9 rfl ?_
    refine q_get (.ref ((A 0) 1)) K ws_X3 0 rfl rfl 5 (by decide) fl_X3_35 rfl dX3_wrongSheet_10 ?_
    refine q_iload_n K 1 dX3_wrongSheet_13 rfl ?_
    refine q_aldo (y := (A (5 + k)) 0) K 1 rfl (vp_in_nI (n := k) (N := 4) (by omega) (by omega)) (by rw [nI_clamp (n := k) (by omega)]) dX3_wrongSheet_14 ?_
    refine q_perm (ws' := w_G (k_Z M) A (a_kp X) (a_fd X) ++ (w_F (k_Z M) (A 1) (a_F X) ++ (w_F (k_Z M) (A 2) T ++ (w_F (k_Z M) (A 3) (a_K X) ++ (w_T (k_Z M) (A 4) (t_of (a_tp X) J) ++ (w_S (k_Z M) (A (5 + k)) ((a_S X) k) ++ (w_SR (k_Z M) A (a_S X) k))))))) (List.Perm.append_left _ (List.Perm.append_left _ (List.Perm.append_left _ (List.Perm.append_left _ (List.Perm.append_left _ (k_foc (by omega))))))) ?_
    refine q_cvI (q0 := 0) (As := []) (rest := []) K kv_X1_isMissing (c_X1_isMissing (k_l M) (k_Z M) (A (5 + k)) ((a_S X) k)) (w_G (k_Z M) A (a_kp X) (a_fd X) ++ (w_F (k_Z M) (A 1) (a_F X) ++ (w_F (k_Z M) (A 2) T ++ (w_F (k_Z M) (A 3) (a_K X) ++ (w_T (k_Z M) (A 4) (t_of (a_tp X) J)))))) (w_SR (k_Z M) A (a_S X) k) rfl rfl rfl ml_X3_206 rfl rfl (Nat.le_of_ble_eq_true rfl) ⟨Nat.le_of_ble_eq_true rfl, Nat.le_of_ble_eq_true rfl⟩ dX3_wrongSheet_15 (fun r_4 w2 h_3 => ?_)
    obtain ⟨e_r_4, rfl⟩ := h_3
    refine q_ws (ws' := w_G (k_Z M) A (a_kp X) (a_fd X) ++ (w_F (k_Z M) (A 1) (a_F X) ++ (w_F (k_Z M) (A 2) T ++ (w_F (k_Z M) (A 3) (a_K X) ++ (w_T (k_Z M) (A 4) (t_of (a_tp X) J) ++ (w_S (k_Z M) (A (5 + k)) ((a_S X) k) ++ (w_SR (k_Z M) A (a_S X) k))))))) rfl ?_
    refine q_if_eq 25 K dX3_wrongSheet_18 (by decide) (fun c_5 => ?_) (fun c_5 => ?_)
    · have c_5 : ¬ (s_bt ((a_S X) k) = 0) := (kn_eq e_r_4).mp c_5
      refine q_iconst (-1) K dX3_wrongSheet_25 rfl ?_
      refine q_perm (ws' := w_G (k_Z M) A (a_kp X) (a_fd X) ++ (w_F (k_Z M) (A 1) (a_F X) ++ (w_F (k_Z M) (A 2) T ++ (w_F (k_Z M) (A 3) (a_K X) ++ (w_T (k_Z M) (A 4) (t_of (a_tp X) J) ++ (w_SS (k_Z M) A (a_S X))))))) (List.Perm.append_left _ (List.Perm.append_left _ (List.Perm.append_left _ (List.Perm.append_left _ (List.Perm.append_left _ (k_foc (by omega)).symm))))) ?_
      exact Rt _ _ (-1) (w_G (k_Z M) A (a_kp X) (a_fd X) ++ (w_F (k_Z M) (A 1) (a_F X) ++ (w_F (k_Z M) (A 2) T ++ (w_F (k_Z M) (A 3) (a_K X) ++ (w_T (k_Z M) (A 4) (t_of (a_tp X) J) ++ (w_SS (k_Z M) A (a_S X))))))) dX3_wrongSheet_26 rfl (Or.inr (Or.inr ⟨c_2, by rw [a_miss, nI_clamp (by omega)]; exact c_5, rfl, rfl⟩))
    · have c_5 : s_bt ((a_S X) k) = 0 := (kn_ne e_r_4).mp c_5
      refine q_iconst 5 K dX3_wrongSheet_21 rfl ?_
      refine q_goto 26 K dX3_wrongSheet_22 (by decide) ?_
      refine q_perm (ws' := w_G (k_Z M) A (a_kp X) (a_fd X) ++ (w_F (k_Z M) (A 1) (a_F X) ++ (w_F (k_Z M) (A 2) T ++ (w_F (k_Z M) (A 3) (a_K X) ++ (w_T (k_Z M) (A 4) (t_of (a_tp X) J) ++ (w_SS (k_Z M) A (a_S X))))))) (List.Perm.append_left _ (List.Perm.append_left _ (List.Perm.append_left _ (List.Perm.append_left _ (List.Perm.append_left _ (k_foc (by omega)).symm))))) ?_
      exact Rt _ _ 5 (w_G (k_Z M) A (a_kp X) (a_fd X) ++ (w_F (k_Z M) (A 1) (a_F X) ++ (w_F (k_Z M) (A 2) T ++ (w_F (k_Z M) (A 3) (a_K X) ++ (w_T (k_Z M) (A 4) (t_of (a_tp X) J) ++ (w_SS (k_Z M) A (a_S X))))))) dX3_wrongSheet_26 rfl (Or.inr (Or.inl ⟨c_2, by rw [a_miss, nI_clamp (by omega)]; exact c_5, rfl, rfl⟩))
  · have c_2 : ¬ (inR s 0 3) := (kn_eq e_r_1).mp c_2
    refine q_iconst 0 K dX3_wrongSheet_7 rfl ?_
    exact Rt _ _ 0 (w_G (k_Z M) A (a_kp X) (a_fd X) ++ (w_F (k_Z M) (A 1) (a_F X) ++ (w_F (k_Z M) (A 2) T ++ (w_F (k_Z M) (A 3) (a_K X) ++ (w_T (k_Z M) (A 4) (t_of (a_tp X) J) ++ (w_SS (k_Z M) A (a_S X))))))) dX3_wrongSheet_8 rfl (Or.inl ⟨c_2, rfl, rfl⟩)
theorem kv_X3_wrongSheet : k_iv yX3_wrongSheet cX3_wrongSheet 2 (some .int) 1 := ⟨⟨im_X3_wrongSheet, se_X3_wrongSheet⟩, in_X3, co_X3_wrongSheet, by decide +kernel⟩
set_option maxHeartbeats 4000000 in
set_option maxRecDepth 100000 in
theorem c_X3_sheet (l : Launch) (Z : kz_Z) (A : Nat → Nat → Nat) (X : AS) (T : FS) (J : TJ) (m : Nat) (hm : m ≤ 8) (hm2 : f_wk (a_F X) = nI m) (hsh : a_shok X) (s bits n : Int32) : KI l Z yX3_sheet cX3_sheet 4 .int 2 42 [.ref ((A 0) 0), .int s, .int bits, .int n] (w_G Z A (a_kp X) (a_fd X) ++ (w_F Z (A 1) (a_F X) ++ (w_F Z (A 2) T ++ (w_F Z (A 3) (a_K X) ++ (w_T Z (A 4) (t_of (a_tp X) J) ++ (w_SS Z A (a_S X))))))) (fun r w2 => ∃ T2 J2, r = (o_sheet X s bits n).1 ∧ w2 = w_C Z A (o_sheet X s bits n).2 T2 J2) := by
  refine ki_of (by decide) [(0, .ref ((A 0) 0)), (1, .int s), (2, .int bits), (3, .int n)] (Nat.le_of_ble_eq_true rfl) rfl ?_
  intro M e1 e2 K Rt
  subst e1 e2
  refine q_iload_n K 1 dX3_sheet_0 rfl ?_
  refine q_cp (rest := []) K ks_X3_isSheet (c_X3_isSheet (k_l M) (k_Z M) s) ml_X3_197 rfl rfl (Nat.le_of_ble_eq_true rfl) ⟨Nat.le_of_ble_eq_true rfl, Nat.le_of_ble_eq_true rfl⟩ dX3_sheet_1 (fun r_1 e_r_1 => ?_)
  refine q_if_eq 29 K dX3_sheet_4 (by decide) (fun c_2 => ?_) (fun c_2 => ?_)
  · have c_2 : ¬ (inR s 0 3) := (kn_eq e_r_1).mp c_2
    refine q_aload_n K 0 dX3_sheet_29 rfl ?_
    refine q_iconst 0 K dX3_sheet_30 rfl ?_
    refine q_wI (q0 := 0) (As := [.int 0]) (rest := []) K kv_X3_finding (c_X3_finding (k_l M) (k_Z M) A X T J 0 (by omega)) rfl rfl ml_X3_52 rfl rfl (Nat.le_of_ble_eq_true rfl) ⟨Nat.le_of_ble_eq_true rfl, Nat.le_of_ble_eq_true rfl⟩ dX3_sheet_31 (fun r_4 w2 h_3 => ?_)
    obtain ⟨e_r_4, rfl⟩ := h_3
    refine q_eqi (r_fin 0) e_r_4 ?_
    refine q_ws (ws' := w_G (k_Z M) A (a_kp X) (fd_up (a_fd X) 0) ++ (w_F (k_Z M) (A 1) (a_F X) ++ (w_F (k_Z M) (A 2) T ++ (w_F (k_Z M) (A 3) (a_K X) ++ (w_T (k_Z M) (A 4) (t_of (a_tp X) J) ++ (w_SS (k_Z M) A (a_S X))))))) rfl ?_
    exact Rt _ _ (r_fin 0) (w_G (k_Z M) A (a_kp X) (fd_up (a_fd X) 0) ++ (w_F (k_Z M) (A 1) (a_F X) ++ (w_F (k_Z M) (A 2) T ++ (w_F (k_Z M) (A 3) (a_K X) ++ (w_T (k_Z M) (A 4) (t_of (a_tp X) J) ++ (w_SS (k_Z M) A (a_S X))))))) dX3_sheet_34 rfl (⟨T, J, by simp only [o_sheet, o_with, a_fin, if_neg c_2] <;> rfl, by simp only [o_sheet, o_with, a_fin, if_neg c_2] <;> rfl⟩)
  · have c_2 : inR s 0 3 := (kn_ne e_r_1).mp c_2
    obtain ⟨y, h_y, e_y⟩ := kn_rng (n := 3) c_2 rfl
    subst e_y
    refine q_iload_n K 2 dX3_sheet_7 rfl ?_
    refine q_if_eq 35 K dX3_sheet_8 (by decide) (fun c_5 => ?_) (fun c_5 => ?_)
    · refine q_iload_n K 3 dX3_sheet_35 rfl ?_
      refine q_if_ge 46 K dX3_sheet_36 (by decide) (fun c_6 => ?_) (fun c_6 => ?_)
      · refine q_iload_n K 3 dX3_sheet_46 rfl ?_
        refine q_bipush 40 K dX3_sheet_47 rfl ?_
        refine q_icmp_le 58 K dX3_sheet_49 (by decide) (fun c_7 => ?_) (fun c_7 => ?_)
        · refine q_aload_n K 0 dX3_sheet_58 rfl ?_
          refine q_get (.ref ((A 0) 1)) K ws_X3 0 rfl rfl 5 (by decide) fl_X3_35 rfl dX3_sheet_59 ?_
          refine q_iload_n K 1 dX3_sheet_62 rfl ?_
          refine q_aldo (y := (A (5 + y)) 0) K 1 rfl (vp_in_nI (n := y) (N := 4) (by omega) (by omega)) (by rw [nI_clamp (n := y) (by omega)]) dX3_sheet_63 ?_
          refine q_perm (ws' := w_G (k_Z M) A (a_kp X) (a_fd X) ++ (w_F (k_Z M) (A 1) (a_F X) ++ (w_F (k_Z M) (A 2) T ++ (w_F (k_Z M) (A 3) (a_K X) ++ (w_T (k_Z M) (A 4) (t_of (a_tp X) J) ++ (w_S (k_Z M) (A (5 + y)) ((a_S X) y) ++ (w_SR (k_Z M) A (a_S X) y))))))) (List.Perm.append_left _ (List.Perm.append_left _ (List.Perm.append_left _ (List.Perm.append_left _ (List.Perm.append_left _ (k_foc (by omega))))))) ?_
          refine q_iload_n K 2 dX3_sheet_64 rfl ?_
          refine q_iload_n K 2 dX3_sheet_65 rfl ?_
          refine q_cuti (fun v9 : Int32 => v9 = (if bits = 0 then 0 else n)) 74 (st := [.int bits, .ref ((A (5 + y)) 0)]) (fun v_8 e_v_8 => ?_) (fun j_v_8 => ?_)
          · refine q_eqi (if bits = 0 then 0 else n) e_v_8 ?_
            refine q_cvV (q0 := 0) (As := [.int bits, .int (if bits = 0 then 0 else n)]) (rest := []) K kv_X1_clear (c_X1_clear (k_l M) (k_Z M) (A (5 + y)) ((a_S X) y) bits (if bits = 0 then 0 else n)) (w_G (k_Z M) A (a_kp X) (a_fd X) ++ (w_F (k_Z M) (A 1) (a_F X) ++ (w_F (k_Z M) (A 2) T ++ (w_F (k_Z M) (A 3) (a_K X) ++ (w_T (k_Z M) (A 4) (t_of (a_tp X) J)))))) (w_SR (k_Z M) A (a_S X) y) rfl rfl rfl ml_X3_200 rfl rfl (Nat.le_of_ble_eq_true rfl) ⟨Nat.le_of_ble_eq_true rfl, Nat.le_of_ble_eq_true rfl⟩ dX3_sheet_74 (fun w2 h_10 => ?_)
            obtain rfl := h_10
            refine q_ws (ws' := w_G (k_Z M) A (a_kp X) (a_fd X) ++ (w_F (k_Z M) (A 1) (a_F X) ++ (w_F (k_Z M) (A 2) T ++ (w_F (k_Z M) (A 3) (a_K X) ++ (w_T (k_Z M) (A 4) (t_of (a_tp X) J) ++ (w_S (k_Z M) (A (5 + y)) (s_clr ((a_S X) y) 40, bits, if bits = 0 then 0 else n) ++ (w_SR (k_Z M) A (a_S X) y))))))) rfl ?_
            refine q_aload_n K 0 dX3_sheet_77 rfl ?_
            refine q_get (.ref ((A 0) 1)) K ws_X3 0 rfl rfl 5 (by decide) fl_X3_35 rfl dX3_sheet_78 ?_
            refine q_iload_n K 1 dX3_sheet_81 rfl ?_
            refine q_aldo (y := (A (5 + y)) 0) K 1 rfl (vp_in_nI (n := y) (N := 4) (by omega) (by omega)) (by rw [nI_clamp (n := y) (by omega)]) dX3_sheet_82 ?_
            refine q_get (.int (s_sz (s_clr ((a_S X) y) 40, bits, if bits = 0 then 0 else n))) K ws_X1 39 rfl rfl 2 (by decide) fl_X3_203 rfl dX3_sheet_83 ?_
            refine q_perm (ws' := w_G (k_Z M) A (a_kp X) (a_fd X) ++ (w_F (k_Z M) (A 1) (a_F X) ++ (w_F (k_Z M) (A 2) T ++ (w_F (k_Z M) (A 3) (a_K X) ++ (w_T (k_Z M) (A 4) (t_of (a_tp X) J) ++ (w_SS (k_Z M) A (k_upS (a_S X) y (s_clr ((a_S X) y) 40, bits, if bits = 0 then 0 else n)))))))) (List.Perm.append_left _ (List.Perm.append_left _ (List.Perm.append_left _ (List.Perm.append_left _ (List.Perm.append_left _ (k_unf (by omega) _)))))) ?_
            exact Rt _ _ (s_sz (s_clr ((a_S X) y) 40, bits, if bits = 0 then 0 else n)) (w_G (k_Z M) A (a_kp X) (a_fd X) ++ (w_F (k_Z M) (A 1) (a_F X) ++ (w_F (k_Z M) (A 2) T ++ (w_F (k_Z M) (A 3) (a_K X) ++ (w_T (k_Z M) (A 4) (t_of (a_tp X) J) ++ (w_SS (k_Z M) A (k_upS (a_S X) y (s_clr ((a_S X) y) 40, bits, if bits = 0 then 0 else n)))))))) dX3_sheet_86 rfl (⟨T, J, by simp only [o_sheet, a_fin, if_pos c_2, if_pos (show isBits bits from Or.inl c_5), if_pos c_6, if_pos c_7, nI_clamp (n := y) (by omega)] <;> rfl, by simp only [o_sheet, a_fin, if_pos c_2, if_pos (show isBits bits from Or.inl c_5), if_pos c_6, if_pos c_7, nI_clamp (n := y) (by omega)] <;> rfl⟩)
          · refine q_if_ne 73 K dX3_sheet_66 (by decide) (fun c_9 => ?_) (fun c_9 => ?_)
            · refine q_iload_n K 3 dX3_sheet_73 rfl ?_
              exact j_v_8 _ (if_neg c_9).symm
            · refine q_iconst 0 K dX3_sheet_69 rfl ?_
              refine q_goto 74 K dX3_sheet_70 (by decide) ?_
              exact j_v_8 _ (if_pos c_9).symm
        · refine q_aload_n K 0 dX3_sheet_52 rfl ?_
          refine q_iconst 0 K dX3_sheet_53 rfl ?_
          refine q_wI (q0 := 0) (As := [.int 0]) (rest := []) K kv_X3_finding (c_X3_finding (k_l M) (k_Z M) A X T J 0 (by omega)) rfl rfl ml_X3_52 rfl rfl (Nat.le_of_ble_eq_true rfl) ⟨Nat.le_of_ble_eq_true rfl, Nat.le_of_ble_eq_true rfl⟩ dX3_sheet_54 (fun r_13 w2 h_12 => ?_)
          obtain ⟨e_r_13, rfl⟩ := h_12
          refine q_eqi (r_fin 0) e_r_13 ?_
          refine q_ws (ws' := w_G (k_Z M) A (a_kp X) (fd_up (a_fd X) 0) ++ (w_F (k_Z M) (A 1) (a_F X) ++ (w_F (k_Z M) (A 2) T ++ (w_F (k_Z M) (A 3) (a_K X) ++ (w_T (k_Z M) (A 4) (t_of (a_tp X) J) ++ (w_SS (k_Z M) A (a_S X))))))) rfl ?_
          exact Rt _ _ (r_fin 0) (w_G (k_Z M) A (a_kp X) (fd_up (a_fd X) 0) ++ (w_F (k_Z M) (A 1) (a_F X) ++ (w_F (k_Z M) (A 2) T ++ (w_F (k_Z M) (A 3) (a_K X) ++ (w_T (k_Z M) (A 4) (t_of (a_tp X) J) ++ (w_SS (k_Z M) A (a_S X))))))) dX3_sheet_57 rfl (⟨T, J, by simp only [o_sheet, a_fin, if_pos c_2, if_pos (show isBits bits from Or.inl c_5), if_pos c_6, if_neg c_7, nI_clamp (n := y) (by omega)] <;> rfl, by simp only [o_sheet, a_fin, if_pos c_2, if_pos (show isBits bits from Or.inl c_5), if_pos c_6, if_neg c_7, nI_clamp (n := y) (by omega)] <;> rfl⟩)
      · refine q_aload_n K 0 dX3_sheet_39 rfl ?_
        refine q_bipush 6 K dX3_sheet_40 rfl ?_
        refine q_wI (q0 := 0) (As := [.int 6]) (rest := []) K kv_X3_finding (c_X3_finding (k_l M) (k_Z M) A X T J 6 (by omega)) rfl rfl ml_X3_52 rfl rfl (Nat.le_of_ble_eq_true rfl) ⟨Nat.le_of_ble_eq_true rfl, Nat.le_of_ble_eq_true rfl⟩ dX3_sheet_42 (fun r_15 w2 h_14 => ?_)
        obtain ⟨e_r_15, rfl⟩ := h_14
        refine q_eqi (r_fin 6) e_r_15 ?_
        refine q_ws (ws' := w_G (k_Z M) A (a_kp X) (fd_up (a_fd X) 6) ++ (w_F (k_Z M) (A 1) (a_F X) ++ (w_F (k_Z M) (A 2) T ++ (w_F (k_Z M) (A 3) (a_K X) ++ (w_T (k_Z M) (A 4) (t_of (a_tp X) J) ++ (w_SS (k_Z M) A (a_S X))))))) rfl ?_
        exact Rt _ _ (r_fin 6) (w_G (k_Z M) A (a_kp X) (fd_up (a_fd X) 6) ++ (w_F (k_Z M) (A 1) (a_F X) ++ (w_F (k_Z M) (A 2) T ++ (w_F (k_Z M) (A 3) (a_K X) ++ (w_T (k_Z M) (A 4) (t_of (a_tp X) J) ++ (w_SS (k_Z M) A (a_S X))))))) dX3_sheet_45 rfl (⟨T, J, by simp only [o_sheet, a_fin, if_pos c_2, if_pos (show isBits bits from Or.inl c_5), if_neg c_6, nI_clamp (n := y) (by omega)] <;> rfl, by simp only [o_sheet, a_fin, if_pos c_2, if_pos (show isBits bits from Or.inl c_5), if_neg c_6, nI_clamp (n := y) (by omega)] <;> rfl⟩)
    · refine q_iload_n K 2 dX3_sheet_11 rfl ?_
      refine q_bipush 8 K dX3_sheet_12 rfl ?_
      refine q_icmp_eq 35 K dX3_sheet_14 (by decide) (fun c_16 => ?_) (fun c_16 => ?_)
      · refine q_iload_n K 3 dX3_sheet_35 rfl ?_
        refine q_if_ge 46 K dX3_sheet_36 (by decide) (fun c_17 => ?_) (fun c_17 => ?_)
        · refine q_iload_n K 3 dX3_sheet_46 rfl ?_
          refine q_bipush 40 K dX3_sheet_47 rfl ?_
          refine q_icmp_le 58 K dX3_sheet_49 (by decide) (fun c_18 => ?_) (fun c_18 => ?_)
          · refine q_aload_n K 0 dX3_sheet_58 rfl ?_
            refine q_get (.ref ((A 0) 1)) K ws_X3 0 rfl rfl 5 (by decide) fl_X3_35 rfl dX3_sheet_59 ?_
            refine q_iload_n K 1 dX3_sheet_62 rfl ?_
            refine q_aldo (y := (A (5 + y)) 0) K 1 rfl (vp_in_nI (n := y) (N := 4) (by omega) (by omega)) (by rw [nI_clamp (n := y) (by omega)]) dX3_sheet_63 ?_
            refine q_perm (ws' := w_G (k_Z M) A (a_kp X) (a_fd X) ++ (w_F (k_Z M) (A 1) (a_F X) ++ (w_F (k_Z M) (A 2) T ++ (w_F (k_Z M) (A 3) (a_K X) ++ (w_T (k_Z M) (A 4) (t_of (a_tp X) J) ++ (w_S (k_Z M) (A (5 + y)) ((a_S X) y) ++ (w_SR (k_Z M) A (a_S X) y))))))) (List.Perm.append_left _ (List.Perm.append_left _ (List.Perm.append_left _ (List.Perm.append_left _ (List.Perm.append_left _ (k_foc (by omega))))))) ?_
            refine q_iload_n K 2 dX3_sheet_64 rfl ?_
            refine q_iload_n K 2 dX3_sheet_65 rfl ?_
            refine q_cuti (fun v9 : Int32 => v9 = (if bits = 0 then 0 else n)) 74 (st := [.int bits, .ref ((A (5 + y)) 0)]) (fun v_19 e_v_19 => ?_) (fun j_v_19 => ?_)
            · refine q_eqi (if bits = 0 then 0 else n) e_v_19 ?_
              refine q_cvV (q0 := 0) (As := [.int bits, .int (if bits = 0 then 0 else n)]) (rest := []) K kv_X1_clear (c_X1_clear (k_l M) (k_Z M) (A (5 + y)) ((a_S X) y) bits (if bits = 0 then 0 else n)) (w_G (k_Z M) A (a_kp X) (a_fd X) ++ (w_F (k_Z M) (A 1) (a_F X) ++ (w_F (k_Z M) (A 2) T ++ (w_F (k_Z M) (A 3) (a_K X) ++ (w_T (k_Z M) (A 4) (t_of (a_tp X) J)))))) (w_SR (k_Z M) A (a_S X) y) rfl rfl rfl ml_X3_200 rfl rfl (Nat.le_of_ble_eq_true rfl) ⟨Nat.le_of_ble_eq_true rfl, Nat.le_of_ble_eq_true rfl⟩ dX3_sheet_74 (fun w2 h_21 => ?_)
              obtain rfl := h_21
              refine q_ws (ws' := w_G (k_Z M) A (a_kp X) (a_fd X) ++ (w_F (k_Z M) (A 1) (a_F X) ++ (w_F (k_Z M) (A 2) T ++ (w_F (k_Z M) (A 3) (a_K X) ++ (w_T (k_Z M) (A 4) (t_of (a_tp X) J) ++ (w_S (k_Z M) (A (5 + y)) (s_clr ((a_S X) y) 40, bits, if bits = 0 then 0 else n) ++ (w_SR (k_Z M) A (a_S X) y))))))) rfl ?_
              refine q_aload_n K 0 dX3_sheet_77 rfl ?_
              refine q_get (.ref ((A 0) 1)) K ws_X3 0 rfl rfl 5 (by decide) fl_X3_35 rfl dX3_sheet_78 ?_
              refine q_iload_n K 1 dX3_sheet_81 rfl ?_
              refine q_aldo (y := (A (5 + y)) 0) K 1 rfl (vp_in_nI (n := y) (N := 4) (by omega) (by omega)) (by rw [nI_clamp (n := y) (by omega)]) dX3_sheet_82 ?_
              refine q_get (.int (s_sz (s_clr ((a_S X) y) 40, bits, if bits = 0 then 0 else n))) K ws_X1 39 rfl rfl 2 (by decide) fl_X3_203 rfl dX3_sheet_83 ?_
              refine q_perm (ws' := w_G (k_Z M) A (a_kp X) (a_fd X) ++ (w_F (k_Z M) (A 1) (a_F X) ++ (w_F (k_Z M) (A 2) T ++ (w_F (k_Z M) (A 3) (a_K X) ++ (w_T (k_Z M) (A 4) (t_of (a_tp X) J) ++ (w_SS (k_Z M) A (k_upS (a_S X) y (s_clr ((a_S X) y) 40, bits, if bits = 0 then 0 else n)))))))) (List.Perm.append_left _ (List.Perm.append_left _ (List.Perm.append_left _ (List.Perm.append_left _ (List.Perm.append_left _ (k_unf (by omega) _)))))) ?_
              exact Rt _ _ (s_sz (s_clr ((a_S X) y) 40, bits, if bits = 0 then 0 else n)) (w_G (k_Z M) A (a_kp X) (a_fd X) ++ (w_F (k_Z M) (A 1) (a_F X) ++ (w_F (k_Z M) (A 2) T ++ (w_F (k_Z M) (A 3) (a_K X) ++ (w_T (k_Z M) (A 4) (t_of (a_tp X) J) ++ (w_SS (k_Z M) A (k_upS (a_S X) y (s_clr ((a_S X) y) 40, bits, if bits = 0 then 0 else n)))))))) dX3_sheet_86 rfl (⟨T, J, by simp only [o_sheet, a_fin, if_pos c_2, if_pos (show isBits bits from Or.inr (Or.inl c_16)), if_pos c_17, if_pos c_18, nI_clamp (n := y) (by omega)] <;> rfl, by simp only [o_sheet, a_fin, if_pos c_2, if_pos (show isBits bits from Or.inr (Or.inl c_16)), if_pos c_17, if_pos c_18, nI_clamp (n := y) (by omega)] <;> rfl⟩)
            · refine q_if_ne 73 K dX3_sheet_66 (by decide) (fun c_20 => ?_) (fun c_20 => ?_)
              · refine q_iload_n K 3 dX3_sheet_73 rfl ?_
                exact j_v_19 _ (if_neg c_20).symm
              · refine q_iconst 0 K dX3_sheet_69 rfl ?_
                refine q_goto 74 K dX3_sheet_70 (by decide) ?_
                exact j_v_19 _ (if_pos c_20).symm
          · refine q_aload_n K 0 dX3_sheet_52 rfl ?_
            refine q_iconst 0 K dX3_sheet_53 rfl ?_
            refine q_wI (q0 := 0) (As := [.int 0]) (rest := []) K kv_X3_finding (c_X3_finding (k_l M) (k_Z M) A X T J 0 (by omega)) rfl rfl ml_X3_52 rfl rfl (Nat.le_of_ble_eq_true rfl) ⟨Nat.le_of_ble_eq_true rfl, Nat.le_of_ble_eq_true rfl⟩ dX3_sheet_54 (fun r_24 w2 h_23 => ?_)
            obtain ⟨e_r_24, rfl⟩ := h_23
            refine q_eqi (r_fin 0) e_r_24 ?_
            refine q_ws (ws' := w_G (k_Z M) A (a_kp X) (fd_up (a_fd X) 0) ++ (w_F (k_Z M) (A 1) (a_F X) ++ (w_F (k_Z M) (A 2) T ++ (w_F (k_Z M) (A 3) (a_K X) ++ (w_T (k_Z M) (A 4) (t_of (a_tp X) J) ++ (w_SS (k_Z M) A (a_S X))))))) rfl ?_
            exact Rt _ _ (r_fin 0) (w_G (k_Z M) A (a_kp X) (fd_up (a_fd X) 0) ++ (w_F (k_Z M) (A 1) (a_F X) ++ (w_F (k_Z M) (A 2) T ++ (w_F (k_Z M) (A 3) (a_K X) ++ (w_T (k_Z M) (A 4) (t_of (a_tp X) J) ++ (w_SS (k_Z M) A (a_S X))))))) dX3_sheet_57 rfl (⟨T, J, by simp only [o_sheet, a_fin, if_pos c_2, if_pos (show isBits bits from Or.inr (Or.inl c_16)), if_pos c_17, if_neg c_18, nI_clamp (n := y) (by omega)] <;> rfl, by simp only [o_sheet, a_fin, if_pos c_2, if_pos (show isBits bits from Or.inr (Or.inl c_16)), if_pos c_17, if_neg c_18, nI_clamp (n := y) (by omega)] <;> rfl⟩)
        · refine q_aload_n K 0 dX3_sheet_39 rfl ?_
          refine q_bipush 6 K dX3_sheet_40 rfl ?_
          refine q_wI (q0 := 0) (As := [.int 6]) (rest := []) K kv_X3_finding (c_X3_finding (k_l M) (k_Z M) A X T J 6 (by omega)) rfl rfl ml_X3_52 rfl rfl (Nat.le_of_ble_eq_true rfl) ⟨Nat.le_of_ble_eq_true rfl, Nat.le_of_ble_eq_true rfl⟩ dX3_sheet_42 (fun r_26 w2 h_25 => ?_)
          obtain ⟨e_r_26, rfl⟩ := h_25
          refine q_eqi (r_fin 6) e_r_26 ?_
          refine q_ws (ws' := w_G (k_Z M) A (a_kp X) (fd_up (a_fd X) 6) ++ (w_F (k_Z M) (A 1) (a_F X) ++ (w_F (k_Z M) (A 2) T ++ (w_F (k_Z M) (A 3) (a_K X) ++ (w_T (k_Z M) (A 4) (t_of (a_tp X) J) ++ (w_SS (k_Z M) A (a_S X))))))) rfl ?_
          exact Rt _ _ (r_fin 6) (w_G (k_Z M) A (a_kp X) (fd_up (a_fd X) 6) ++ (w_F (k_Z M) (A 1) (a_F X) ++ (w_F (k_Z M) (A 2) T ++ (w_F (k_Z M) (A 3) (a_K X) ++ (w_T (k_Z M) (A 4) (t_of (a_tp X) J) ++ (w_SS (k_Z M) A (a_S X))))))) dX3_sheet_45 rfl (⟨T, J, by simp only [o_sheet, a_fin, if_pos c_2, if_pos (show isBits bits from Or.inr (Or.inl c_16)), if_neg c_17, nI_clamp (n := y) (by omega)] <;> rfl, by simp only [o_sheet, a_fin, if_pos c_2, if_pos (show isBits bits from Or.inr (Or.inl c_16)), if_neg c_17, nI_clamp (n := y) (by omega)] <;> rfl⟩)
      · refine q_iload_n K 2 dX3_sheet_17 rfl ?_
        refine q_bipush 16 K dX3_sheet_18 rfl ?_
        refine q_icmp_eq 35 K dX3_sheet_20 (by decide) (fun c_27 => ?_) (fun c_27 => ?_)
        · refine q_iload_n K 3 dX3_sheet_35 rfl ?_
          refine q_if_ge 46 K dX3_sheet_36 (by decide) (fun c_28 => ?_) (fun c_28 => ?_)
          · refine q_iload_n K 3 dX3_sheet_46 rfl ?_
            refine q_bipush 40 K dX3_sheet_47 rfl ?_
            refine q_icmp_le 58 K dX3_sheet_49 (by decide) (fun c_29 => ?_) (fun c_29 => ?_)
            · refine q_aload_n K 0 dX3_sheet_58 rfl ?_
              refine q_get (.ref ((A 0) 1)) K ws_X3 0 rfl rfl 5 (by decide) fl_X3_35 rfl dX3_sheet_59 ?_
              refine q_iload_n K 1 dX3_sheet_62 rfl ?_
              refine q_aldo (y := (A (5 + y)) 0) K 1 rfl (vp_in_nI (n := y) (N := 4) (by omega) (by omega)) (by rw [nI_clamp (n := y) (by omega)]) dX3_sheet_63 ?_
              refine q_perm (ws' := w_G (k_Z M) A (a_kp X) (a_fd X) ++ (w_F (k_Z M) (A 1) (a_F X) ++ (w_F (k_Z M) (A 2) T ++ (w_F (k_Z M) (A 3) (a_K X) ++ (w_T (k_Z M) (A 4) (t_of (a_tp X) J) ++ (w_S (k_Z M) (A (5 + y)) ((a_S X) y) ++ (w_SR (k_Z M) A (a_S X) y))))))) (List.Perm.append_left _ (List.Perm.append_left _ (List.Perm.append_left _ (List.Perm.append_left _ (List.Perm.append_left _ (k_foc (by omega))))))) ?_
              refine q_iload_n K 2 dX3_sheet_64 rfl ?_
              refine q_iload_n K 2 dX3_sheet_65 rfl ?_
              refine q_cuti (fun v9 : Int32 => v9 = (if bits = 0 then 0 else n)) 74 (st := [.int bits, .ref ((A (5 + y)) 0)]) (fun v_30 e_v_30 => ?_) (fun j_v_30 => ?_)
              · refine q_eqi (if bits = 0 then 0 else n) e_v_30 ?_
                refine q_cvV (q0 := 0) (As := [.int bits, .int (if bits = 0 then 0 else n)]) (rest := []) K kv_X1_clear (c_X1_clear (k_l M) (k_Z M) (A (5 + y)) ((a_S X) y) bits (if bits = 0 then 0 else n)) (w_G (k_Z M) A (a_kp X) (a_fd X) ++ (w_F (k_Z M) (A 1) (a_F X) ++ (w_F (k_Z M) (A 2) T ++ (w_F (k_Z M) (A 3) (a_K X) ++ (w_T (k_Z M) (A 4) (t_of (a_tp X) J)))))) (w_SR (k_Z M) A (a_S X) y) rfl rfl rfl ml_X3_200 rfl rfl (Nat.le_of_ble_eq_true rfl) ⟨Nat.le_of_ble_eq_true rfl, Nat.le_of_ble_eq_true rfl⟩ dX3_sheet_74 (fun w2 h_32 => ?_)
                obtain rfl := h_32
                refine q_ws (ws' := w_G (k_Z M) A (a_kp X) (a_fd X) ++ (w_F (k_Z M) (A 1) (a_F X) ++ (w_F (k_Z M) (A 2) T ++ (w_F (k_Z M) (A 3) (a_K X) ++ (w_T (k_Z M) (A 4) (t_of (a_tp X) J) ++ (w_S (k_Z M) (A (5 + y)) (s_clr ((a_S X) y) 40, bits, if bits = 0 then 0 else n) ++ (w_SR (k_Z M) A (a_S X) y))))))) rfl ?_
                refine q_aload_n K 0 dX3_sheet_77 rfl ?_
                refine q_get (.ref ((A 0) 1)) K ws_X3 0 rfl rfl 5 (by decide) fl_X3_35 rfl dX3_sheet_78 ?_
                refine q_iload_n K 1 dX3_sheet_81 rfl ?_
                refine q_aldo (y := (A (5 + y)) 0) K 1 rfl (vp_in_nI (n := y) (N := 4) (by omega) (by omega)) (by rw [nI_clamp (n := y) (by omega)]) dX3_sheet_82 ?_
                refine q_get (.int (s_sz (s_clr ((a_S X) y) 40, bits, if bits = 0 then 0 else n))) K ws_X1 39 rfl rfl 2 (by decide) fl_X3_203 rfl dX3_sheet_83 ?_
                refine q_perm (ws' := w_G (k_Z M) A (a_kp X) (a_fd X) ++ (w_F (k_Z M) (A 1) (a_F X) ++ (w_F (k_Z M) (A 2) T ++ (w_F (k_Z M) (A 3) (a_K X) ++ (w_T (k_Z M) (A 4) (t_of (a_tp X) J) ++ (w_SS (k_Z M) A (k_upS (a_S X) y (s_clr ((a_S X) y) 40, bits, if bits = 0 then 0 else n)))))))) (List.Perm.append_left _ (List.Perm.append_left _ (List.Perm.append_left _ (List.Perm.append_left _ (List.Perm.append_left _ (k_unf (by omega) _)))))) ?_
                exact Rt _ _ (s_sz (s_clr ((a_S X) y) 40, bits, if bits = 0 then 0 else n)) (w_G (k_Z M) A (a_kp X) (a_fd X) ++ (w_F (k_Z M) (A 1) (a_F X) ++ (w_F (k_Z M) (A 2) T ++ (w_F (k_Z M) (A 3) (a_K X) ++ (w_T (k_Z M) (A 4) (t_of (a_tp X) J) ++ (w_SS (k_Z M) A (k_upS (a_S X) y (s_clr ((a_S X) y) 40, bits, if bits = 0 then 0 else n)))))))) dX3_sheet_86 rfl (⟨T, J, by simp only [o_sheet, a_fin, if_pos c_2, if_pos (show isBits bits from Or.inr (Or.inr (Or.inl c_27))), if_pos c_28, if_pos c_29, nI_clamp (n := y) (by omega)] <;> rfl, by simp only [o_sheet, a_fin, if_pos c_2, if_pos (show isBits bits from Or.inr (Or.inr (Or.inl c_27))), if_pos c_28, if_pos c_29, nI_clamp (n := y) (by omega)] <;> rfl⟩)
              · refine q_if_ne 73 K dX3_sheet_66 (by decide) (fun c_31 => ?_) (fun c_31 => ?_)
                · refine q_iload_n K 3 dX3_sheet_73 rfl ?_
                  exact j_v_30 _ (if_neg c_31).symm
                · refine q_iconst 0 K dX3_sheet_69 rfl ?_
                  refine q_goto 74 K dX3_sheet_70 (by decide) ?_
                  exact j_v_30 _ (if_pos c_31).symm
            · refine q_aload_n K 0 dX3_sheet_52 rfl ?_
              refine q_iconst 0 K dX3_sheet_53 rfl ?_
              refine q_wI (q0 := 0) (As := [.int 0]) (rest := []) K kv_X3_finding (c_X3_finding (k_l M) (k_Z M) A X T J 0 (by omega)) rfl rfl ml_X3_52 rfl rfl (Nat.le_of_ble_eq_true rfl) ⟨Nat.le_of_ble_eq_true rfl, Nat.le_of_ble_eq_true rfl⟩ dX3_sheet_54 (fun r_35 w2 h_34 => ?_)
              obtain ⟨e_r_35, rfl⟩ := h_34
              refine q_eqi (r_fin 0) e_r_35 ?_
              refine q_ws (ws' := w_G (k_Z M) A (a_kp X) (fd_up (a_fd X) 0) ++ (w_F (k_Z M) (A 1) (a_F X) ++ (w_F (k_Z M) (A 2) T ++ (w_F (k_Z M) (A 3) (a_K X) ++ (w_T (k_Z M) (A 4) (t_of (a_tp X) J) ++ (w_SS (k_Z M) A (a_S X))))))) rfl ?_
              exact Rt _ _ (r_fin 0) (w_G (k_Z M) A (a_kp X) (fd_up (a_fd X) 0) ++ (w_F (k_Z M) (A 1) (a_F X) ++ (w_F (k_Z M) (A 2) T ++ (w_F (k_Z M) (A 3) (a_K X) ++ (w_T (k_Z M) (A 4) (t_of (a_tp X) J) ++ (w_SS (k_Z M) A (a_S X))))))) dX3_sheet_57 rfl (⟨T, J, by simp only [o_sheet, a_fin, if_pos c_2, if_pos (show isBits bits from Or.inr (Or.inr (Or.inl c_27))), if_pos c_28, if_neg c_29, nI_clamp (n := y) (by omega)] <;> rfl, by simp only [o_sheet, a_fin, if_pos c_2, if_pos (show isBits bits from Or.inr (Or.inr (Or.inl c_27))), if_pos c_28, if_neg c_29, nI_clamp (n := y) (by omega)] <;> rfl⟩)
          · refine q_aload_n K 0 dX3_sheet_39 rfl ?_
            refine q_bipush 6 K dX3_sheet_40 rfl ?_
            refine q_wI (q0 := 0) (As := [.int 6]) (rest := []) K kv_X3_finding (c_X3_finding (k_l M) (k_Z M) A X T J 6 (by omega)) rfl rfl ml_X3_52 rfl rfl (Nat.le_of_ble_eq_true rfl) ⟨Nat.le_of_ble_eq_true rfl, Nat.le_of_ble_eq_true rfl⟩ dX3_sheet_42 (fun r_37 w2 h_36 => ?_)
            obtain ⟨e_r_37, rfl⟩ := h_36
            refine q_eqi (r_fin 6) e_r_37 ?_
            refine q_ws (ws' := w_G (k_Z M) A (a_kp X) (fd_up (a_fd X) 6) ++ (w_F (k_Z M) (A 1) (a_F X) ++ (w_F (k_Z M) (A 2) T ++ (w_F (k_Z M) (A 3) (a_K X) ++ (w_T (k_Z M) (A 4) (t_of (a_tp X) J) ++ (w_SS (k_Z M) A (a_S X))))))) rfl ?_
            exact Rt _ _ (r_fin 6) (w_G (k_Z M) A (a_kp X) (fd_up (a_fd X) 6) ++ (w_F (k_Z M) (A 1) (a_F X) ++ (w_F (k_Z M) (A 2) T ++ (w_F (k_Z M) (A 3) (a_K X) ++ (w_T (k_Z M) (A 4) (t_of (a_tp X) J) ++ (w_SS (k_Z M) A (a_S X))))))) dX3_sheet_45 rfl (⟨T, J, by simp only [o_sheet, a_fin, if_pos c_2, if_pos (show isBits bits from Or.inr (Or.inr (Or.inl c_27))), if_neg c_28, nI_clamp (n := y) (by omega)] <;> rfl, by simp only [o_sheet, a_fin, if_pos c_2, if_pos (show isBits bits from Or.inr (Or.inr (Or.inl c_27))), if_neg c_28, nI_clamp (n := y) (by omega)] <;> rfl⟩)
        · refine q_iload_n K 2 dX3_sheet_23 rfl ?_
          refine q_bipush 32 K dX3_sheet_24 rfl ?_
          refine q_icmp_eq 35 K dX3_sheet_26 (by decide) (fun c_38 => ?_) (fun c_38 => ?_)
          · refine q_iload_n K 3 dX3_sheet_35 rfl ?_
            refine q_if_ge 46 K dX3_sheet_36 (by decide) (fun c_39 => ?_) (fun c_39 => ?_)
            · refine q_iload_n K 3 dX3_sheet_46 rfl ?_
              refine q_bipush 40 K dX3_sheet_47 rfl ?_
              refine q_icmp_le 58 K dX3_sheet_49 (by decide) (fun c_40 => ?_) (fun c_40 => ?_)
              · refine q_aload_n K 0 dX3_sheet_58 rfl ?_
                refine q_get (.ref ((A 0) 1)) K ws_X3 0 rfl rfl 5 (by decide) fl_X3_35 rfl dX3_sheet_59 ?_
                refine q_iload_n K 1 dX3_sheet_62 rfl ?_
                refine q_aldo (y := (A (5 + y)) 0) K 1 rfl (vp_in_nI (n := y) (N := 4) (by omega) (by omega)) (by rw [nI_clamp (n := y) (by omega)]) dX3_sheet_63 ?_
                refine q_perm (ws' := w_G (k_Z M) A (a_kp X) (a_fd X) ++ (w_F (k_Z M) (A 1) (a_F X) ++ (w_F (k_Z M) (A 2) T ++ (w_F (k_Z M) (A 3) (a_K X) ++ (w_T (k_Z M) (A 4) (t_of (a_tp X) J) ++ (w_S (k_Z M) (A (5 + y)) ((a_S X) y) ++ (w_SR (k_Z M) A (a_S X) y))))))) (List.Perm.append_left _ (List.Perm.append_left _ (List.Perm.append_left _ (List.Perm.append_left _ (List.Perm.append_left _ (k_foc (by omega))))))) ?_
                refine q_iload_n K 2 dX3_sheet_64 rfl ?_
                refine q_iload_n K 2 dX3_sheet_65 rfl ?_
                refine q_cuti (fun v9 : Int32 => v9 = (if bits = 0 then 0 else n)) 74 (st := [.int bits, .ref ((A (5 + y)) 0)]) (fun v_41 e_v_41 => ?_) (fun j_v_41 => ?_)
                · refine q_eqi (if bits = 0 then 0 else n) e_v_41 ?_
                  refine q_cvV (q0 := 0) (As := [.int bits, .int (if bits = 0 then 0 else n)]) (rest := []) K kv_X1_clear (c_X1_clear (k_l M) (k_Z M) (A (5 + y)) ((a_S X) y) bits (if bits = 0 then 0 else n)) (w_G (k_Z M) A (a_kp X) (a_fd X) ++ (w_F (k_Z M) (A 1) (a_F X) ++ (w_F (k_Z M) (A 2) T ++ (w_F (k_Z M) (A 3) (a_K X) ++ (w_T (k_Z M) (A 4) (t_of (a_tp X) J)))))) (w_SR (k_Z M) A (a_S X) y) rfl rfl rfl ml_X3_200 rfl rfl (Nat.le_of_ble_eq_true rfl) ⟨Nat.le_of_ble_eq_true rfl, Nat.le_of_ble_eq_true rfl⟩ dX3_sheet_74 (fun w2 h_43 => ?_)
                  obtain rfl := h_43
                  refine q_ws (ws' := w_G (k_Z M) A (a_kp X) (a_fd X) ++ (w_F (k_Z M) (A 1) (a_F X) ++ (w_F (k_Z M) (A 2) T ++ (w_F (k_Z M) (A 3) (a_K X) ++ (w_T (k_Z M) (A 4) (t_of (a_tp X) J) ++ (w_S (k_Z M) (A (5 + y)) (s_clr ((a_S X) y) 40, bits, if bits = 0 then 0 else n) ++ (w_SR (k_Z M) A (a_S X) y))))))) rfl ?_
                  refine q_aload_n K 0 dX3_sheet_77 rfl ?_
                  refine q_get (.ref ((A 0) 1)) K ws_X3 0 rfl rfl 5 (by decide) fl_X3_35 rfl dX3_sheet_78 ?_
                  refine q_iload_n K 1 dX3_sheet_81 rfl ?_
                  refine q_aldo (y := (A (5 + y)) 0) K 1 rfl (vp_in_nI (n := y) (N := 4) (by omega) (by omega)) (by rw [nI_clamp (n := y) (by omega)]) dX3_sheet_82 ?_
                  refine q_get (.int (s_sz (s_clr ((a_S X) y) 40, bits, if bits = 0 then 0 else n))) K ws_X1 39 rfl rfl 2 (by decide) fl_X3_203 rfl dX3_sheet_83 ?_
                  refine q_perm (ws' := w_G (k_Z M) A (a_kp X) (a_fd X) ++ (w_F (k_Z M) (A 1) (a_F X) ++ (w_F (k_Z M) (A 2) T ++ (w_F (k_Z M) (A 3) (a_K X) ++ (w_T (k_Z M) (A 4) (t_of (a_tp X) J) ++ (w_SS (k_Z M) A (k_upS (a_S X) y (s_clr ((a_S X) y) 40, bits, if bits = 0 then 0 else n)))))))) (List.Perm.append_left _ (List.Perm.append_left _ (List.Perm.append_left _ (List.Perm.append_left _ (List.Perm.append_left _ (k_unf (by omega) _)))))) ?_
                  exact Rt _ _ (s_sz (s_clr ((a_S X) y) 40, bits, if bits = 0 then 0 else n)) (w_G (k_Z M) A (a_kp X) (a_fd X) ++ (w_F (k_Z M) (A 1) (a_F X) ++ (w_F (k_Z M) (A 2) T ++ (w_F (k_Z M) (A 3) (a_K X) ++ (w_T (k_Z M) (A 4) (t_of (a_tp X) J) ++ (w_SS (k_Z M) A (k_upS (a_S X) y (s_clr ((a_S X) y) 40, bits, if bits = 0 then 0 else n)))))))) dX3_sheet_86 rfl (⟨T, J, by simp only [o_sheet, a_fin, if_pos c_2, if_pos (show isBits bits from Or.inr (Or.inr (Or.inr c_38))), if_pos c_39, if_pos c_40, nI_clamp (n := y) (by omega)] <;> rfl, by simp only [o_sheet, a_fin, if_pos c_2, if_pos (show isBits bits from Or.inr (Or.inr (Or.inr c_38))), if_pos c_39, if_pos c_40, nI_clamp (n := y) (by omega)] <;> rfl⟩)
                · refine q_if_ne 73 K dX3_sheet_66 (by decide) (fun c_42 => ?_) (fun c_42 => ?_)
                  · refine q_iload_n K 3 dX3_sheet_73 rfl ?_
                    exact j_v_41 _ (if_neg c_42).symm
                  · refine q_iconst 0 K dX3_sheet_69 rfl ?_
                    refine q_goto 74 K dX3_sheet_70 (by decide) ?_
                    exact j_v_41 _ (if_pos c_42).symm
              · refine q_aload_n K 0 dX3_sheet_52 rfl ?_
                refine q_iconst 0 K dX3_sheet_53 rfl ?_
                refine q_wI (q0 := 0) (As := [.int 0]) (rest := []) K kv_X3_finding (c_X3_finding (k_l M) (k_Z M) A X T J 0 (by omega)) rfl rfl ml_X3_52 rfl rfl (Nat.le_of_ble_eq_true rfl) ⟨Nat.le_of_ble_eq_true rfl, Nat.le_of_ble_eq_true rfl⟩ dX3_sheet_54 (fun r_46 w2 h_45 => ?_)
                obtain ⟨e_r_46, rfl⟩ := h_45
                refine q_eqi (r_fin 0) e_r_46 ?_
                refine q_ws (ws' := w_G (k_Z M) A (a_kp X) (fd_up (a_fd X) 0) ++ (w_F (k_Z M) (A 1) (a_F X) ++ (w_F (k_Z M) (A 2) T ++ (w_F (k_Z M) (A 3) (a_K X) ++ (w_T (k_Z M) (A 4) (t_of (a_tp X) J) ++ (w_SS (k_Z M) A (a_S X))))))) rfl ?_
                exact Rt _ _ (r_fin 0) (w_G (k_Z M) A (a_kp X) (fd_up (a_fd X) 0) ++ (w_F (k_Z M) (A 1) (a_F X) ++ (w_F (k_Z M) (A 2) T ++ (w_F (k_Z M) (A 3) (a_K X) ++ (w_T (k_Z M) (A 4) (t_of (a_tp X) J) ++ (w_SS (k_Z M) A (a_S X))))))) dX3_sheet_57 rfl (⟨T, J, by simp only [o_sheet, a_fin, if_pos c_2, if_pos (show isBits bits from Or.inr (Or.inr (Or.inr c_38))), if_pos c_39, if_neg c_40, nI_clamp (n := y) (by omega)] <;> rfl, by simp only [o_sheet, a_fin, if_pos c_2, if_pos (show isBits bits from Or.inr (Or.inr (Or.inr c_38))), if_pos c_39, if_neg c_40, nI_clamp (n := y) (by omega)] <;> rfl⟩)
            · refine q_aload_n K 0 dX3_sheet_39 rfl ?_
              refine q_bipush 6 K dX3_sheet_40 rfl ?_
              refine q_wI (q0 := 0) (As := [.int 6]) (rest := []) K kv_X3_finding (c_X3_finding (k_l M) (k_Z M) A X T J 6 (by omega)) rfl rfl ml_X3_52 rfl rfl (Nat.le_of_ble_eq_true rfl) ⟨Nat.le_of_ble_eq_true rfl, Nat.le_of_ble_eq_true rfl⟩ dX3_sheet_42 (fun r_48 w2 h_47 => ?_)
              obtain ⟨e_r_48, rfl⟩ := h_47
              refine q_eqi (r_fin 6) e_r_48 ?_
              refine q_ws (ws' := w_G (k_Z M) A (a_kp X) (fd_up (a_fd X) 6) ++ (w_F (k_Z M) (A 1) (a_F X) ++ (w_F (k_Z M) (A 2) T ++ (w_F (k_Z M) (A 3) (a_K X) ++ (w_T (k_Z M) (A 4) (t_of (a_tp X) J) ++ (w_SS (k_Z M) A (a_S X))))))) rfl ?_
              exact Rt _ _ (r_fin 6) (w_G (k_Z M) A (a_kp X) (fd_up (a_fd X) 6) ++ (w_F (k_Z M) (A 1) (a_F X) ++ (w_F (k_Z M) (A 2) T ++ (w_F (k_Z M) (A 3) (a_K X) ++ (w_T (k_Z M) (A 4) (t_of (a_tp X) J) ++ (w_SS (k_Z M) A (a_S X))))))) dX3_sheet_45 rfl (⟨T, J, by simp only [o_sheet, a_fin, if_pos c_2, if_pos (show isBits bits from Or.inr (Or.inr (Or.inr c_38))), if_neg c_39, nI_clamp (n := y) (by omega)] <;> rfl, by simp only [o_sheet, a_fin, if_pos c_2, if_pos (show isBits bits from Or.inr (Or.inr (Or.inr c_38))), if_neg c_39, nI_clamp (n := y) (by omega)] <;> rfl⟩)
          · refine q_aload_n K 0 dX3_sheet_29 rfl ?_
            refine q_iconst 0 K dX3_sheet_30 rfl ?_
            refine q_wI (q0 := 0) (As := [.int 0]) (rest := []) K kv_X3_finding (c_X3_finding (k_l M) (k_Z M) A X T J 0 (by omega)) rfl rfl ml_X3_52 rfl rfl (Nat.le_of_ble_eq_true rfl) ⟨Nat.le_of_ble_eq_true rfl, Nat.le_of_ble_eq_true rfl⟩ dX3_sheet_31 (fun r_50 w2 h_49 => ?_)
            obtain ⟨e_r_50, rfl⟩ := h_49
            refine q_eqi (r_fin 0) e_r_50 ?_
            refine q_ws (ws' := w_G (k_Z M) A (a_kp X) (fd_up (a_fd X) 0) ++ (w_F (k_Z M) (A 1) (a_F X) ++ (w_F (k_Z M) (A 2) T ++ (w_F (k_Z M) (A 3) (a_K X) ++ (w_T (k_Z M) (A 4) (t_of (a_tp X) J) ++ (w_SS (k_Z M) A (a_S X))))))) rfl ?_
            exact Rt _ _ (r_fin 0) (w_G (k_Z M) A (a_kp X) (fd_up (a_fd X) 0) ++ (w_F (k_Z M) (A 1) (a_F X) ++ (w_F (k_Z M) (A 2) T ++ (w_F (k_Z M) (A 3) (a_K X) ++ (w_T (k_Z M) (A 4) (t_of (a_tp X) J) ++ (w_SS (k_Z M) A (a_S X))))))) dX3_sheet_34 rfl (⟨T, J, by simp only [o_sheet, a_fin, if_pos c_2, if_neg (show ¬ isBits bits from (fun h9 => h9.elim c_5 (fun h9 => h9.elim c_16 (fun h9 => h9.elim c_27 c_38)))), nI_clamp (n := y) (by omega)] <;> rfl, by simp only [o_sheet, a_fin, if_pos c_2, if_neg (show ¬ isBits bits from (fun h9 => h9.elim c_5 (fun h9 => h9.elim c_16 (fun h9 => h9.elim c_27 c_38)))), nI_clamp (n := y) (by omega)] <;> rfl⟩)
theorem kv_X3_sheet : k_iv yX3_sheet cX3_sheet 4 (some .int) 3 := ⟨⟨im_X3_sheet, se_X3_sheet⟩, in_X3, co_X3_sheet, by decide +kernel⟩
set_option maxHeartbeats 4000000 in
set_option maxRecDepth 100000 in
theorem c_X3_write (l : Launch) (Z : kz_Z) (A : Nat → Nat → Nat) (X : AS) (T : FS) (J : TJ) (m : Nat) (hm : m ≤ 8) (hm2 : f_wk (a_F X) = nI m) (hsh : a_shok X) (s i v : Int32) : KI l Z yX3_write cX3_write 5 .int 3 63 [.ref ((A 0) 0), .int s, .int i, .int v] (w_G Z A (a_kp X) (a_fd X) ++ (w_F Z (A 1) (a_F X) ++ (w_F Z (A 2) T ++ (w_F Z (A 3) (a_K X) ++ (w_T Z (A 4) (t_of (a_tp X) J) ++ (w_SS Z A (a_S X))))))) (fun r w2 => ∃ T2 J2, r = (o_write X s i v).1 ∧ w2 = w_C Z A (o_write X s i v).2 T2 J2) := by
  refine ki_of (by decide) [(0, .ref ((A 0) 0)), (1, .int s), (2, .int i), (3, .int v)] (Nat.le_of_ble_eq_true rfl) rfl ?_
  intro M e1 e2 K Rt
  subst e1 e2
  refine q_aload_n K 0 dX3_write_0 rfl ?_
  refine q_iload_n K 1 dX3_write_1 rfl ?_
  refine q_wI (q0 := 0) (As := [.int s]) (rest := []) K kv_X3_wrongSheet (c_X3_wrongSheet (k_l M) (k_Z M) A X T J s) rfl rfl ml_X3_153 rfl rfl (Nat.le_of_ble_eq_true rfl) ⟨Nat.le_of_ble_eq_true rfl, Nat.le_of_ble_eq_true rfl⟩ dX3_write_2 (fun r_2 w2 h_1 => ?_)
  rcases h_1 with ⟨c_3, e_r_2, rfl⟩ | ⟨c_3, c_4, e_r_2, rfl⟩ | ⟨c_3, c_4, e_r_2, rfl⟩
  · refine q_ws (ws' := w_G (k_Z M) A (a_kp X) (a_fd X) ++ (w_F (k_Z M) (A 1) (a_F X) ++ (w_F (k_Z M) (A 2) T ++ (w_F (k_Z M) (A 3) (a_K X) ++ (w_T (k_Z M) (A 4) (t_of (a_tp X) J) ++ (w_SS (k_Z M) A (a_S X))))))) rfl ?_
    refine q_eqi 0 e_r_2 ?_
    refine q_istore (lv' := [(4, .int 0), (0, .ref ((A 0) 0)), (1, .int s), (2, .int i), (3, .int v)]) K dX3_write_5 (by decide) rfl ?_
    refine q_iload K 0 dX3_write_7 rfl ?_
    refine q_iconst (-1) K dX3_write_9 rfl ?_
    refine q_icmp_eq 20 K dX3_write_10 (by decide) (fun c_0 => absurd c_0 (by decide)) (fun c_0 => ?_)
    refine q_aload_n K 1 dX3_write_13 rfl ?_
    refine q_iload K 0 dX3_write_14 rfl ?_
    refine q_wI (q0 := 0) (As := [.int 0]) (rest := []) K kv_X3_finding (c_X3_finding (k_l M) (k_Z M) A X T J 0 (by omega)) rfl rfl ml_X3_52 rfl rfl (Nat.le_of_ble_eq_true rfl) ⟨Nat.le_of_ble_eq_true rfl, Nat.le_of_ble_eq_true rfl⟩ dX3_write_16 (fun r_6 w2 h_5 => ?_)
    obtain ⟨e_r_6, rfl⟩ := h_5
    refine q_eqi (r_fin 0) e_r_6 ?_
    refine q_ws (ws' := w_G (k_Z M) A (a_kp X) (fd_up (a_fd X) 0) ++ (w_F (k_Z M) (A 1) (a_F X) ++ (w_F (k_Z M) (A 2) T ++ (w_F (k_Z M) (A 3) (a_K X) ++ (w_T (k_Z M) (A 4) (t_of (a_tp X) J) ++ (w_SS (k_Z M) A (a_S X))))))) rfl ?_
    exact Rt _ _ (r_fin 0) (w_G (k_Z M) A (a_kp X) (fd_up (a_fd X) 0) ++ (w_F (k_Z M) (A 1) (a_F X) ++ (w_F (k_Z M) (A 2) T ++ (w_F (k_Z M) (A 3) (a_K X) ++ (w_T (k_Z M) (A 4) (t_of (a_tp X) J) ++ (w_SS (k_Z M) A (a_S X))))))) dX3_write_19 rfl (⟨T, J, by simp only [o_write, o_writes, o_with, a_fin, if_neg c_3] <;> rfl, by simp only [o_write, o_writes, o_with, a_fin, if_neg c_3] <;> rfl⟩)
  · refine q_ws (ws' := w_G (k_Z M) A (a_kp X) (a_fd X) ++ (w_F (k_Z M) (A 1) (a_F X) ++ (w_F (k_Z M) (A 2) T ++ (w_F (k_Z M) (A 3) (a_K X) ++ (w_T (k_Z M) (A 4) (t_of (a_tp X) J) ++ (w_SS (k_Z M) A (a_S X))))))) rfl ?_
    refine q_eqi 5 e_r_2 ?_
    refine q_istore (lv' := [(4, .int 5), (0, .ref ((A 0) 0)), (1, .int s), (2, .int i), (3, .int v)]) K dX3_write_5 (by decide) rfl ?_
    refine q_iload K 0 dX3_write_7 rfl ?_
    refine q_iconst (-1) K dX3_write_9 rfl ?_
    refine q_icmp_eq 20 K dX3_write_10 (by decide) (fun c_0 => absurd c_0 (by decide)) (fun c_0 => ?_)
    refine q_aload_n K 1 dX3_write_13 rfl ?_
    refine q_iload K 0 dX3_write_14 rfl ?_
    refine q_wI (q0 := 0) (As := [.int 5]) (rest := []) K kv_X3_finding (c_X3_finding (k_l M) (k_Z M) A X T J 5 (by omega)) rfl rfl ml_X3_52 rfl rfl (Nat.le_of_ble_eq_true rfl) ⟨Nat.le_of_ble_eq_true rfl, Nat.le_of_ble_eq_true rfl⟩ dX3_write_16 (fun r_8 w2 h_7 => ?_)
    obtain ⟨e_r_8, rfl⟩ := h_7
    refine q_eqi (r_fin 5) e_r_8 ?_
    refine q_ws (ws' := w_G (k_Z M) A (a_kp X) (fd_up (a_fd X) 5) ++ (w_F (k_Z M) (A 1) (a_F X) ++ (w_F (k_Z M) (A 2) T ++ (w_F (k_Z M) (A 3) (a_K X) ++ (w_T (k_Z M) (A 4) (t_of (a_tp X) J) ++ (w_SS (k_Z M) A (a_S X))))))) rfl ?_
    exact Rt _ _ (r_fin 5) (w_G (k_Z M) A (a_kp X) (fd_up (a_fd X) 5) ++ (w_F (k_Z M) (A 1) (a_F X) ++ (w_F (k_Z M) (A 2) T ++ (w_F (k_Z M) (A 3) (a_K X) ++ (w_T (k_Z M) (A 4) (t_of (a_tp X) J) ++ (w_SS (k_Z M) A (a_S X))))))) dX3_write_19 rfl (⟨T, J, by simp only [o_write, o_writes, o_with, a_fin, if_pos c_3, if_pos c_4] <;> rfl, by simp only [o_write, o_writes, o_with, a_fin, if_pos c_3, if_pos c_4] <;> rfl⟩)
  · refine q_ws (ws' := w_G (k_Z M) A (a_kp X) (a_fd X) ++ (w_F (k_Z M) (A 1) (a_F X) ++ (w_F (k_Z M) (A 2) T ++ (w_F (k_Z M) (A 3) (a_K X) ++ (w_T (k_Z M) (A 4) (t_of (a_tp X) J) ++ (w_SS (k_Z M) A (a_S X))))))) rfl ?_
    refine q_eqi (-1) e_r_2 ?_
    obtain ⟨y, h_y, e_y⟩ := kn_rng (n := 3) c_3 rfl
    subst e_y
    obtain ⟨z, hz, ez⟩ := hsh y (by omega)
    refine q_istore (lv' := [(4, .int (-1)), (0, .ref ((A 0) 0)), (1, .int (nI y)), (2, .int i), (3, .int v)]) K dX3_write_5 (by decide) rfl ?_
    refine q_iload K 0 dX3_write_7 rfl ?_
    refine q_iconst (-1) K dX3_write_9 rfl ?_
    refine q_icmp_eq 20 K dX3_write_10 (by decide) (fun c_0 => ?_) (fun c_0 => absurd c_0 (by decide))
    refine q_iload_n K 3 dX3_write_20 rfl ?_
    refine q_iconst 0 K dX3_write_21 rfl ?_
    refine q_aload_n K 1 dX3_write_22 rfl ?_
    refine q_get (.ref ((A 0) 1)) K ws_X3 0 rfl rfl 5 (by decide) fl_X3_35 rfl dX3_write_23 ?_
    refine q_iload_n K 2 dX3_write_26 rfl ?_
    refine q_aldo (y := (A (5 + y)) 0) K 1 rfl (vp_in_nI (n := y) (N := 4) (by omega) (by omega)) (by rw [nI_clamp (n := y) (by omega)]) dX3_write_27 ?_
    refine q_perm (ws' := w_G (k_Z M) A (a_kp X) (a_fd X) ++ (w_F (k_Z M) (A 1) (a_F X) ++ (w_F (k_Z M) (A 2) T ++ (w_F (k_Z M) (A 3) (a_K X) ++ (w_T (k_Z M) (A 4) (t_of (a_tp X) J) ++ (w_S (k_Z M) (A (5 + y)) ((a_S X) y) ++ (w_SR (k_Z M) A (a_S X) y))))))) (List.Perm.append_left _ (List.Perm.append_left _ (List.Perm.append_left _ (List.Perm.append_left _ (List.Perm.append_left _ (k_foc (by omega))))))) ?_
    refine q_get (.int (s_sz ((a_S X) y))) K ws_X1 39 rfl rfl 2 (by decide) fl_X3_203 rfl dX3_write_28 ?_
    refine q_eqi (nI z) ez ?_
    refine q_iconst 1 K dX3_write_31 rfl ?_
    refine q_isub K dX3_write_32 ?_
    refine q_cp (rest := []) K ks_X3_isIn (c_X3_isIn (k_l M) (k_Z M) i 0 ((nI z) - 1)) ml_X3_48 rfl rfl (Nat.le_of_ble_eq_true rfl) ⟨Nat.le_of_ble_eq_true rfl, Nat.le_of_ble_eq_true rfl⟩ dX3_write_33 (fun r_9 e_r_9 => ?_)
    refine q_if_ne 45 K dX3_write_36 (by decide) (fun c_10 => ?_) (fun c_10 => ?_)
    · have c_10 : inR i 0 ((nI z) - 1) := (kn_ne e_r_9).mp c_10
      obtain ⟨i9, h_i9, e_i9⟩ := kn_wr (by omega) c_10
      subst e_i9
      refine q_aload_n K 1 dX3_write_45 rfl ?_
      refine q_get (.ref ((A 0) 1)) K ws_X3 0 rfl rfl 5 (by decide) fl_X3_35 rfl dX3_write_46 ?_
      refine q_iload_n K 2 dX3_write_49 rfl ?_
      refine q_aldo (y := (A (5 + y)) 0) K 1 rfl (vp_in_nI (n := y) (N := 4) (by omega) (by omega)) (by rw [nI_clamp (n := y) (by omega)]) dX3_write_50 ?_
      refine q_iload_n K 3 dX3_write_51 rfl ?_
      refine q_iload_n K 4 dX3_write_52 rfl ?_
      refine q_cvV (q0 := 0) (As := [.int (nI i9), .int v]) (rest := []) K kv_X1_put (c_X1_put (k_l M) (k_Z M) (A (5 + y)) ((a_S X) y) i9 (by omega) v) (w_G (k_Z M) A (a_kp X) (a_fd X) ++ (w_F (k_Z M) (A 1) (a_F X) ++ (w_F (k_Z M) (A 2) T ++ (w_F (k_Z M) (A 3) (a_K X) ++ (w_T (k_Z M) (A 4) (t_of (a_tp X) J)))))) (w_SR (k_Z M) A (a_S X) y) rfl rfl rfl ml_X3_204 rfl rfl (Nat.le_of_ble_eq_true rfl) ⟨Nat.le_of_ble_eq_true rfl, Nat.le_of_ble_eq_true rfl⟩ dX3_write_53 (fun w2 h_11 => ?_)
      obtain rfl := h_11
      refine q_ws (ws' := w_G (k_Z M) A (a_kp X) (a_fd X) ++ (w_F (k_Z M) (A 1) (a_F X) ++ (w_F (k_Z M) (A 2) T ++ (w_F (k_Z M) (A 3) (a_K X) ++ (w_T (k_Z M) (A 4) (t_of (a_tp X) J) ++ (w_S (k_Z M) (A (5 + y)) (upd (s_nm ((a_S X) y)) i9 (s_cut (s_bt ((a_S X) y)) v), s_bt ((a_S X) y), s_sz ((a_S X) y)) ++ (w_SR (k_Z M) A (a_S X) y))))))) rfl ?_
      refine q_iconst 1 K dX3_write_56 rfl ?_
      refine q_perm (ws' := w_G (k_Z M) A (a_kp X) (a_fd X) ++ (w_F (k_Z M) (A 1) (a_F X) ++ (w_F (k_Z M) (A 2) T ++ (w_F (k_Z M) (A 3) (a_K X) ++ (w_T (k_Z M) (A 4) (t_of (a_tp X) J) ++ (w_SS (k_Z M) A (k_upS (a_S X) y (upd (s_nm ((a_S X) y)) i9 (s_cut (s_bt ((a_S X) y)) v), s_bt ((a_S X) y), s_sz ((a_S X) y))))))))) (List.Perm.append_left _ (List.Perm.append_left _ (List.Perm.append_left _ (List.Perm.append_left _ (List.Perm.append_left _ (k_unf (by omega) _)))))) ?_
      exact Rt _ _ 1 (w_G (k_Z M) A (a_kp X) (a_fd X) ++ (w_F (k_Z M) (A 1) (a_F X) ++ (w_F (k_Z M) (A 2) T ++ (w_F (k_Z M) (A 3) (a_K X) ++ (w_T (k_Z M) (A 4) (t_of (a_tp X) J) ++ (w_SS (k_Z M) A (k_upS (a_S X) y (upd (s_nm ((a_S X) y)) i9 (s_cut (s_bt ((a_S X) y)) v), s_bt ((a_S X) y), s_sz ((a_S X) y))))))))) dX3_write_57 rfl (⟨T, J, by simp only [o_write, o_writes, o_with, a_fin, if_pos c_3, if_neg c_4, if_pos c_10, nI_clamp (n := y) (by omega), nI_clamp (n := i9) (by omega), ez] <;> rfl, by simp only [o_write, o_writes, o_with, a_fin, if_pos c_3, if_neg c_4, if_pos c_10, nI_clamp (n := y) (by omega), nI_clamp (n := i9) (by omega), ez] <;> rfl⟩)
    · have c_10 : ¬ (inR i 0 ((nI z) - 1)) := (kn_eq e_r_9).mp c_10
      refine q_aload_n K 1 dX3_write_39 rfl ?_
      refine q_iconst 0 K dX3_write_40 rfl ?_
      refine q_perm (ws' := w_G (k_Z M) A (a_kp X) (a_fd X) ++ (w_F (k_Z M) (A 1) (a_F X) ++ (w_F (k_Z M) (A 2) T ++ (w_F (k_Z M) (A 3) (a_K X) ++ (w_T (k_Z M) (A 4) (t_of (a_tp X) J) ++ (w_SS (k_Z M) A (a_S X))))))) (List.Perm.append_left _ (List.Perm.append_left _ (List.Perm.append_left _ (List.Perm.append_left _ (List.Perm.append_left _ (k_foc (by omega)).symm))))) ?_
      refine q_wI (q0 := 0) (As := [.int 0]) (rest := []) K kv_X3_finding (c_X3_finding (k_l M) (k_Z M) A X T J 0 (by omega)) rfl rfl ml_X3_52 rfl rfl (Nat.le_of_ble_eq_true rfl) ⟨Nat.le_of_ble_eq_true rfl, Nat.le_of_ble_eq_true rfl⟩ dX3_write_41 (fun r_14 w2 h_13 => ?_)
      obtain ⟨e_r_14, rfl⟩ := h_13
      refine q_eqi (r_fin 0) e_r_14 ?_
      refine q_ws (ws' := w_G (k_Z M) A (a_kp X) (fd_up (a_fd X) 0) ++ (w_F (k_Z M) (A 1) (a_F X) ++ (w_F (k_Z M) (A 2) T ++ (w_F (k_Z M) (A 3) (a_K X) ++ (w_T (k_Z M) (A 4) (t_of (a_tp X) J) ++ (w_SS (k_Z M) A (a_S X))))))) rfl ?_
      exact Rt _ _ (r_fin 0) (w_G (k_Z M) A (a_kp X) (fd_up (a_fd X) 0) ++ (w_F (k_Z M) (A 1) (a_F X) ++ (w_F (k_Z M) (A 2) T ++ (w_F (k_Z M) (A 3) (a_K X) ++ (w_T (k_Z M) (A 4) (t_of (a_tp X) J) ++ (w_SS (k_Z M) A (a_S X))))))) dX3_write_44 rfl (⟨T, J, by simp only [o_write, o_writes, o_with, a_fin, if_pos c_3, if_neg c_4, if_neg c_10, nI_clamp (n := y) (by omega), ez] <;> rfl, by simp only [o_write, o_writes, o_with, a_fin, if_pos c_3, if_neg c_4, if_neg c_10, nI_clamp (n := y) (by omega), ez] <;> rfl⟩)
theorem kv_X3_write : k_iv yX3_write cX3_write 5 (some .int) 3 := ⟨⟨im_X3_write, se_X3_write⟩, in_X3, co_X3_write, by decide +kernel⟩
set_option maxHeartbeats 4000000 in
set_option maxRecDepth 100000 in
theorem c_X3_load (l : Launch) (Z : kz_Z) (A : Nat → Nat → Nat) (X : AS) (T : FS) (J : TJ) (m : Nat) (hm : m ≤ 8) (hm2 : f_wk (a_F X) = nI m) (hsh : a_shok X) (s : Int32) : KI l Z yX3_load cX3_load 6 .int 3 63 [.ref ((A 0) 0), .int s] (w_G Z A (a_kp X) (a_fd X) ++ (w_F Z (A 1) (a_F X) ++ (w_F Z (A 2) T ++ (w_F Z (A 3) (a_K X) ++ (w_T Z (A 4) (t_of (a_tp X) J) ++ (w_SS Z A (a_S X))))))) (fun r w2 => ∃ T2 J2, r = (o_load X s).1 ∧ w2 = w_C Z A (o_load X s).2 T2 J2) := by
  refine ki_of (by decide) [(0, .ref ((A 0) 0)), (1, .int s)] (Nat.le_of_ble_eq_true rfl) rfl ?_
  intro M e1 e2 K Rt
  subst e1 e2
  refine q_aload_n K 0 dX3_load_0 rfl ?_
  refine q_iload_n K 1 dX3_load_1 rfl ?_
  refine q_wI (q0 := 0) (As := [.int s]) (rest := []) K kv_X3_wrongSheet (c_X3_wrongSheet (k_l M) (k_Z M) A X T J s) rfl rfl ml_X3_153 rfl rfl (Nat.le_of_ble_eq_true rfl) ⟨Nat.le_of_ble_eq_true rfl, Nat.le_of_ble_eq_true rfl⟩ dX3_load_2 (fun r_2 w2 h_1 => ?_)
  rcases h_1 with ⟨c_3, e_r_2, rfl⟩ | ⟨c_3, c_4, e_r_2, rfl⟩ | ⟨c_3, c_4, e_r_2, rfl⟩
  · refine q_ws (ws' := w_G (k_Z M) A (a_kp X) (a_fd X) ++ (w_F (k_Z M) (A 1) (a_F X) ++ (w_F (k_Z M) (A 2) T ++ (w_F (k_Z M) (A 3) (a_K X) ++ (w_T (k_Z M) (A 4) (t_of (a_tp X) J) ++ (w_SS (k_Z M) A (a_S X))))))) rfl ?_
    refine q_eqi 0 e_r_2 ?_
    refine q_istore_n (lv' := [(2, .int 0), (0, .ref ((A 0) 0)), (1, .int s)]) K dX3_load_5 (by decide) rfl ?_
    refine q_iload_n K 0 dX3_load_6 rfl ?_
    refine q_iconst (-1) K dX3_load_7 rfl ?_
    refine q_icmp_eq 17 K dX3_load_8 (by decide) (fun c_0 => absurd c_0 (by decide)) (fun c_0 => ?_)
    refine q_aload_n K 1 dX3_load_11 rfl ?_
    refine q_iload_n K 0 dX3_load_12 rfl ?_
    refine q_wI (q0 := 0) (As := [.int 0]) (rest := []) K kv_X3_finding (c_X3_finding (k_l M) (k_Z M) A X T J 0 (by omega)) rfl rfl ml_X3_52 rfl rfl (Nat.le_of_ble_eq_true rfl) ⟨Nat.le_of_ble_eq_true rfl, Nat.le_of_ble_eq_true rfl⟩ dX3_load_13 (fun r_6 w2 h_5 => ?_)
    obtain ⟨e_r_6, rfl⟩ := h_5
    refine q_eqi (r_fin 0) e_r_6 ?_
    refine q_ws (ws' := w_G (k_Z M) A (a_kp X) (fd_up (a_fd X) 0) ++ (w_F (k_Z M) (A 1) (a_F X) ++ (w_F (k_Z M) (A 2) T ++ (w_F (k_Z M) (A 3) (a_K X) ++ (w_T (k_Z M) (A 4) (t_of (a_tp X) J) ++ (w_SS (k_Z M) A (a_S X))))))) rfl ?_
    exact Rt _ _ (r_fin 0) (w_G (k_Z M) A (a_kp X) (fd_up (a_fd X) 0) ++ (w_F (k_Z M) (A 1) (a_F X) ++ (w_F (k_Z M) (A 2) T ++ (w_F (k_Z M) (A 3) (a_K X) ++ (w_T (k_Z M) (A 4) (t_of (a_tp X) J) ++ (w_SS (k_Z M) A (a_S X))))))) dX3_load_16 rfl (⟨T, J, by simp only [o_load, o_loads, o_with, a_fin, if_neg c_3] <;> rfl, by simp only [o_load, o_loads, o_with, a_fin, if_neg c_3] <;> rfl⟩)
  · refine q_ws (ws' := w_G (k_Z M) A (a_kp X) (a_fd X) ++ (w_F (k_Z M) (A 1) (a_F X) ++ (w_F (k_Z M) (A 2) T ++ (w_F (k_Z M) (A 3) (a_K X) ++ (w_T (k_Z M) (A 4) (t_of (a_tp X) J) ++ (w_SS (k_Z M) A (a_S X))))))) rfl ?_
    refine q_eqi 5 e_r_2 ?_
    refine q_istore_n (lv' := [(2, .int 5), (0, .ref ((A 0) 0)), (1, .int s)]) K dX3_load_5 (by decide) rfl ?_
    refine q_iload_n K 0 dX3_load_6 rfl ?_
    refine q_iconst (-1) K dX3_load_7 rfl ?_
    refine q_icmp_eq 17 K dX3_load_8 (by decide) (fun c_0 => absurd c_0 (by decide)) (fun c_0 => ?_)
    refine q_aload_n K 1 dX3_load_11 rfl ?_
    refine q_iload_n K 0 dX3_load_12 rfl ?_
    refine q_wI (q0 := 0) (As := [.int 5]) (rest := []) K kv_X3_finding (c_X3_finding (k_l M) (k_Z M) A X T J 5 (by omega)) rfl rfl ml_X3_52 rfl rfl (Nat.le_of_ble_eq_true rfl) ⟨Nat.le_of_ble_eq_true rfl, Nat.le_of_ble_eq_true rfl⟩ dX3_load_13 (fun r_8 w2 h_7 => ?_)
    obtain ⟨e_r_8, rfl⟩ := h_7
    refine q_eqi (r_fin 5) e_r_8 ?_
    refine q_ws (ws' := w_G (k_Z M) A (a_kp X) (fd_up (a_fd X) 5) ++ (w_F (k_Z M) (A 1) (a_F X) ++ (w_F (k_Z M) (A 2) T ++ (w_F (k_Z M) (A 3) (a_K X) ++ (w_T (k_Z M) (A 4) (t_of (a_tp X) J) ++ (w_SS (k_Z M) A (a_S X))))))) rfl ?_
    exact Rt _ _ (r_fin 5) (w_G (k_Z M) A (a_kp X) (fd_up (a_fd X) 5) ++ (w_F (k_Z M) (A 1) (a_F X) ++ (w_F (k_Z M) (A 2) T ++ (w_F (k_Z M) (A 3) (a_K X) ++ (w_T (k_Z M) (A 4) (t_of (a_tp X) J) ++ (w_SS (k_Z M) A (a_S X))))))) dX3_load_16 rfl (⟨T, J, by simp only [o_load, o_loads, o_with, a_fin, if_pos c_3, if_pos c_4] <;> rfl, by simp only [o_load, o_loads, o_with, a_fin, if_pos c_3, if_pos c_4] <;> rfl⟩)
  · refine q_ws (ws' := w_G (k_Z M) A (a_kp X) (a_fd X) ++ (w_F (k_Z M) (A 1) (a_F X) ++ (w_F (k_Z M) (A 2) T ++ (w_F (k_Z M) (A 3) (a_K X) ++ (w_T (k_Z M) (A 4) (t_of (a_tp X) J) ++ (w_SS (k_Z M) A (a_S X))))))) rfl ?_
    refine q_eqi (-1) e_r_2 ?_
    obtain ⟨y, h_y, e_y⟩ := kn_rng (n := 3) c_3 rfl
    subst e_y
    obtain ⟨z, hz, ez⟩ := hsh y (by omega)
    refine q_istore_n (lv' := [(2, .int (-1)), (0, .ref ((A 0) 0)), (1, .int (nI y))]) K dX3_load_5 (by decide) rfl ?_
    refine q_iload_n K 0 dX3_load_6 rfl ?_
    refine q_iconst (-1) K dX3_load_7 rfl ?_
    refine q_icmp_eq 17 K dX3_load_8 (by decide) (fun c_0 => ?_) (fun c_0 => absurd c_0 (by decide))
    refine q_aload_n K 1 dX3_load_17 rfl ?_
    refine q_get (.ref ((A 0) 1)) K ws_X3 0 rfl rfl 5 (by decide) fl_X3_35 rfl dX3_load_18 ?_
    refine q_iload_n K 2 dX3_load_21 rfl ?_
    refine q_aldo (y := (A (5 + y)) 0) K 1 rfl (vp_in_nI (n := y) (N := 4) (by omega) (by omega)) (by rw [nI_clamp (n := y) (by omega)]) dX3_load_22 ?_
    refine q_perm (ws' := w_G (k_Z M) A (a_kp X) (a_fd X) ++ (w_F (k_Z M) (A 1) (a_F X) ++ (w_F (k_Z M) (A 2) T ++ (w_F (k_Z M) (A 3) (a_K X) ++ (w_T (k_Z M) (A 4) (t_of (a_tp X) J) ++ (w_S (k_Z M) (A (5 + y)) ((a_S X) y) ++ (w_SR (k_Z M) A (a_S X) y))))))) (List.Perm.append_left _ (List.Perm.append_left _ (List.Perm.append_left _ (List.Perm.append_left _ (List.Perm.append_left _ (k_foc (by omega))))))) ?_
    refine q_get (.int (s_sz ((a_S X) y))) K ws_X1 39 rfl rfl 2 (by decide) fl_X3_203 rfl dX3_load_23 ?_
    refine q_eqi (nI z) ez ?_
    refine q_bipush 9 K dX3_load_26 rfl ?_
    refine q_mmin K ml_X3_225 (Nat.le_of_ble_eq_true rfl) (Nat.le_of_ble_eq_true rfl) dX3_load_28 ?_
    refine q_eqi (nI (min z 9)) (kn_mn (a := z) (b := 9) (by omega) (by omega)) ?_
    refine q_istore_n (lv' := [(3, .int (nI (min z 9))), (2, .int (-1)), (0, .ref ((A 0) 0)), (1, .int (nI y))]) K dX3_load_31 (by decide) rfl ?_
    refine q_iconst 0 K dX3_load_32 rfl ?_
    refine q_istore (lv' := [(4, .int 0), (3, .int (nI (min z 9))), (2, .int (-1)), (0, .ref ((A 0) 0)), (1, .int (nI y))]) K dX3_load_33 (by decide) rfl ?_
    refine q_perm (ws' := w_G (k_Z M) A (a_kp X) (a_fd X) ++ (w_F (k_Z M) (A 1) (a_F X) ++ (w_F (k_Z M) (A 2) T ++ (w_F (k_Z M) (A 3) (a_K X) ++ (w_T (k_Z M) (A 4) (t_of (a_tp X) J) ++ (w_SS (k_Z M) A (a_S X))))))) (List.Perm.append_left _ (List.Perm.append_left _ (List.Perm.append_left _ (List.Perm.append_left _ (List.Perm.append_left _ (k_foc (by omega)).symm))))) ?_
    refine q_lv [0, 1, 2, 3, 4] rfl ?_
    refine q_loop (α := Nat) (fun n9 i => (i + n9 = min z 9) ∧ o_find (p_load (s_nm (a_S X y))) (min z 9) 0 = o_find (p_load (s_nm (a_S X y))) n9 i) 35 (fun i => [(4, .int (nI i)), (3, .int (nI (min z 9))), (2, .int (-1)), (0, .ref ((A 0) 0)), (1, .int (nI y))]) (fun i => w_G (k_Z M) A (a_kp X) (a_fd X) ++ (w_F (k_Z M) (A 1) (f_loads (a_F X) (s_nm (a_S X y)) i, f_gs (a_F X), f_kd (a_F X), f_fd (a_F X), f_wy (a_F X), f_md (a_F X), f_ps (a_F X), f_hd (a_F X), f_wk (a_F X), f_wd (a_F X), f_hr (a_F X), f_zz (a_F X)) ++ (w_F (k_Z M) (A 2) T ++ (w_F (k_Z M) (A 3) (a_K X) ++ (w_T (k_Z M) (A 4) (t_of (a_tp X) J) ++ (w_SS (k_Z M) A (a_S X))))))) (fun n_9 i hI_10 ih_11 => ?_) (min z 9) 0 ⟨by omega, rfl⟩
    obtain ⟨hI, hF⟩ := hI_10
    refine q_iload K 0 dX3_load_35 rfl ?_
    refine q_iload_n K 1 dX3_load_37 rfl ?_
    refine q_icmp_ge 88 K dX3_load_38 (by decide) (fun c_12 => ?_) (fun c_12 => ?_)
    · have c_12n : min z 9 ≤ i := (nI_leI (a := min z 9) (b := i) (by omega) (by omega)).mp c_12
      refine q_iload_n K 1 dX3_load_88 rfl ?_
      exact Rt _ _ (nI (min z 9)) (w_G (k_Z M) A (a_kp X) (a_fd X) ++ (w_F (k_Z M) (A 1) (f_loads (a_F X) (s_nm (a_S X y)) i, f_gs (a_F X), f_kd (a_F X), f_fd (a_F X), f_wy (a_F X), f_md (a_F X), f_ps (a_F X), f_hd (a_F X), f_wk (a_F X), f_wd (a_F X), f_hr (a_F X), f_zz (a_F X)) ++ (w_F (k_Z M) (A 2) T ++ (w_F (k_Z M) (A 3) (a_K X) ++ (w_T (k_Z M) (A 4) (t_of (a_tp X) J) ++ (w_SS (k_Z M) A (a_S X))))))) dX3_load_89 rfl (⟨T, J, by simp only [o_load, o_loads, o_with, if_pos c_3, if_neg c_4, nI_clamp (n := y) (by omega), a_szz hz ez, (show o_find (p_load (s_nm (a_S X y))) (min z 9) 0 = i by rw [hF, show n_9 = 0 by omega, o_find])]; rw [show min z 9 = i by omega], by simp only [o_load, o_loads, o_with, if_pos c_3, if_neg c_4, nI_clamp (n := y) (by omega), a_szz hz ez, (show o_find (p_load (s_nm (a_S X y))) (min z 9) 0 = i by rw [hF, show n_9 = 0 by omega, o_find])]; rfl⟩)
    · have c_12n : ¬ (min z 9 ≤ i) := fun h9 => c_12 ((nI_leI (a := min z 9) (b := i) (by omega) (by omega)).mpr h9)
      refine q_aload_n K 3 dX3_load_41 rfl ?_
      refine q_get (.ref ((A 0) 1)) K ws_X3 0 rfl rfl 5 (by decide) fl_X3_35 rfl dX3_load_42 ?_
      refine q_iload_n K 4 dX3_load_45 rfl ?_
      refine q_aldo (y := (A (5 + y)) 0) K 1 rfl (vp_in_nI (n := y) (N := 4) (by omega) (by omega)) (by rw [nI_clamp (n := y) (by omega)]) dX3_load_46 ?_
      refine q_perm (ws' := w_G (k_Z M) A (a_kp X) (a_fd X) ++ (w_F (k_Z M) (A 1) (f_loads (a_F X) (s_nm (a_S X y)) i, f_gs (a_F X), f_kd (a_F X), f_fd (a_F X), f_wy (a_F X), f_md (a_F X), f_ps (a_F X), f_hd (a_F X), f_wk (a_F X), f_wd (a_F X), f_hr (a_F X), f_zz (a_F X)) ++ (w_F (k_Z M) (A 2) T ++ (w_F (k_Z M) (A 3) (a_K X) ++ (w_T (k_Z M) (A 4) (t_of (a_tp X) J) ++ (w_S (k_Z M) (A (5 + y)) ((a_S X) y) ++ (w_SR (k_Z M) A (a_S X) y))))))) (List.Perm.append_left _ (List.Perm.append_left _ (List.Perm.append_left _ (List.Perm.append_left _ (List.Perm.append_left _ (k_foc (by omega))))))) ?_
      refine q_get (.ref ((A (5 + y)) 1)) K ws_X1 39 rfl rfl 0 (by decide) fl_X3_216 rfl dX3_load_47 ?_
      refine q_iload K 0 dX3_load_50 rfl ?_
      refine q_iald K 40 rfl (vp_in_nI (n := i) (N := 40) (by omega) (by omega)) dX3_load_52 ?_
      refine q_eqi ((s_nm ((a_S X) y)) i) (by rw [nI_clamp (n := i) (by omega)]) ?_
      refine q_istore (lv' := [(5, .int ((s_nm ((a_S X) y)) i)), (4, .int (nI i)), (3, .int (nI (min z 9))), (2, .int (-1)), (0, .ref ((A 0) 0)), (1, .int (nI y))]) K dX3_load_53 (by decide) rfl ?_
      refine q_iload K 0 dX3_load_55 rfl ?_
      refine q_iconst 0 K dX3_load_57 rfl ?_
      refine q_sipush 9999 K dX3_load_58 rfl ?_
      refine q_cp (rest := []) K ks_X3_isIn (c_X3_isIn (k_l M) (k_Z M) ((s_nm ((a_S X) y)) i) 0 9999) ml_X3_48 rfl rfl (Nat.le_of_ble_eq_true rfl) ⟨Nat.le_of_ble_eq_true rfl, Nat.le_of_ble_eq_true rfl⟩ dX3_load_61 (fun r_13 e_r_13 => ?_)
      refine q_if_ne 70 K dX3_load_64 (by decide) (fun c_14 => ?_) (fun c_14 => ?_)
      · have c_14 : inR ((s_nm ((a_S X) y)) i) 0 9999 := (kn_ne e_r_13).mp c_14
        refine q_aload_n K 4 dX3_load_70 rfl ?_
        refine q_get (.ref ((A 1) 0)) K ws_X3 0 rfl rfl 0 (by decide) fl_X3_12 rfl dX3_load_71 ?_
        refine q_get (.ref ((A 1) 1)) K ws_X0 3 rfl rfl 0 (by decide) fl_X3_56 rfl dX3_load_74 ?_
        refine q_iload K 1 dX3_load_77 rfl ?_
        refine q_iload K 0 dX3_load_79 rfl ?_
        refine q_iast (ws' := w_G (k_Z M) A (a_kp X) (a_fd X) ++ (w_F (k_Z M) (A 1) (upd (f_loads (a_F X) (s_nm (a_S X y)) i) i ((s_nm ((a_S X) y)) i), f_gs (a_F X), f_kd (a_F X), f_fd (a_F X), f_wy (a_F X), f_md (a_F X), f_ps (a_F X), f_hd (a_F X), f_wk (a_F X), f_wd (a_F X), f_hr (a_F X), f_zz (a_F X)) ++ (w_F (k_Z M) (A 2) T ++ (w_F (k_Z M) (A 3) (a_K X) ++ (w_T (k_Z M) (A 4) (t_of (a_tp X) J) ++ (w_S (k_Z M) (A (5 + y)) ((a_S X) y) ++ (w_SR (k_Z M) A (a_S X) y))))))) K 4 rfl (vp_in_nI (n := i) (N := 9) (by omega) (by omega)) (by rw [nI_clamp (n := i) (by omega)] <;> rfl) dX3_load_81 ?_
        refine q_iinc (nI (i + 1)) (lv' := [(4, .int (nI (i + 1))), (5, .int ((s_nm ((a_S X) y)) i)), (3, .int (nI (min z 9))), (2, .int (-1)), (0, .ref ((A 0) 0)), (1, .int (nI y))]) K 1 dX3_load_82 rfl (kn_inc i) (by decide) rfl ?_
        refine q_goto 35 K dX3_load_85 (by decide) ?_
        refine q_perm (ws' := w_G (k_Z M) A (a_kp X) (a_fd X) ++ (w_F (k_Z M) (A 1) (upd (f_loads (a_F X) (s_nm (a_S X y)) i) i ((s_nm ((a_S X) y)) i), f_gs (a_F X), f_kd (a_F X), f_fd (a_F X), f_wy (a_F X), f_md (a_F X), f_ps (a_F X), f_hd (a_F X), f_wk (a_F X), f_wd (a_F X), f_hr (a_F X), f_zz (a_F X)) ++ (w_F (k_Z M) (A 2) T ++ (w_F (k_Z M) (A 3) (a_K X) ++ (w_T (k_Z M) (A 4) (t_of (a_tp X) J) ++ (w_SS (k_Z M) A (a_S X))))))) (List.Perm.append_left _ (List.Perm.append_left _ (List.Perm.append_left _ (List.Perm.append_left _ (List.Perm.append_left _ (k_foc (by omega)).symm))))) ?_
        refine q_lv [0, 2, 3, 4, 5] rfl ?_
        exact ih_11 (n_9 - 1) (i + 1) (by omega) ⟨by omega, by rw [hF, show n_9 = (n_9 - 1) + 1 by omega, o_find, if_neg (by rw [p_load, decide_eq_true c_14]; decide)]; rfl⟩
      · have c_14 : ¬ (inR ((s_nm ((a_S X) y)) i) 0 9999) := (kn_eq e_r_13).mp c_14
        refine q_iload K 1 dX3_load_67 rfl ?_
        refine q_perm (ws' := w_G (k_Z M) A (a_kp X) (a_fd X) ++ (w_F (k_Z M) (A 1) (f_loads (a_F X) (s_nm (a_S X y)) i, f_gs (a_F X), f_kd (a_F X), f_fd (a_F X), f_wy (a_F X), f_md (a_F X), f_ps (a_F X), f_hd (a_F X), f_wk (a_F X), f_wd (a_F X), f_hr (a_F X), f_zz (a_F X)) ++ (w_F (k_Z M) (A 2) T ++ (w_F (k_Z M) (A 3) (a_K X) ++ (w_T (k_Z M) (A 4) (t_of (a_tp X) J) ++ (w_SS (k_Z M) A (a_S X))))))) (List.Perm.append_left _ (List.Perm.append_left _ (List.Perm.append_left _ (List.Perm.append_left _ (List.Perm.append_left _ (k_foc (by omega)).symm))))) ?_
        exact Rt _ _ (nI i) (w_G (k_Z M) A (a_kp X) (a_fd X) ++ (w_F (k_Z M) (A 1) (f_loads (a_F X) (s_nm (a_S X y)) i, f_gs (a_F X), f_kd (a_F X), f_fd (a_F X), f_wy (a_F X), f_md (a_F X), f_ps (a_F X), f_hd (a_F X), f_wk (a_F X), f_wd (a_F X), f_hr (a_F X), f_zz (a_F X)) ++ (w_F (k_Z M) (A 2) T ++ (w_F (k_Z M) (A 3) (a_K X) ++ (w_T (k_Z M) (A 4) (t_of (a_tp X) J) ++ (w_SS (k_Z M) A (a_S X))))))) dX3_load_69 rfl (⟨T, J, by simp only [o_load, o_loads, o_with, if_pos c_3, if_neg c_4, nI_clamp (n := y) (by omega), a_szz hz ez, (show o_find (p_load (s_nm (a_S X y))) (min z 9) 0 = i by rw [hF, show n_9 = (n_9 - 1) + 1 by omega, o_find, if_pos (by rw [p_load, decide_eq_false c_14]; rfl)])], by simp only [o_load, o_loads, o_with, if_pos c_3, if_neg c_4, nI_clamp (n := y) (by omega), a_szz hz ez, (show o_find (p_load (s_nm (a_S X y))) (min z 9) 0 = i by rw [hF, show n_9 = (n_9 - 1) + 1 by omega, o_find, if_pos (by rw [p_load, decide_eq_false c_14]; rfl)])]; rfl⟩)
theorem kv_X3_load : k_iv yX3_load cX3_load 6 (some .int) 1 := ⟨⟨im_X3_load, se_X3_load⟩, in_X3, co_X3_load, by decide +kernel⟩
set_option maxHeartbeats 4000000 in
set_option maxRecDepth 100000 in
theorem c_X3_judge (l : Launch) (Z : kz_Z) (A : Nat → Nat → Nat) (X : AS) (T : FS) (J : TJ) (m : Nat) (hm : m ≤ 8) (hm2 : f_wk (a_F X) = nI m) (hsh : a_shok X) (s : Int32) : KI l Z yX3_judge cX3_judge 4 .int 3 63 [.ref ((A 0) 0), .int s] (w_G Z A (a_kp X) (a_fd X) ++ (w_F Z (A 1) (a_F X) ++ (w_F Z (A 2) T ++ (w_F Z (A 3) (a_K X) ++ (w_T Z (A 4) (t_of (a_tp X) J) ++ (w_SS Z A (a_S X))))))) (fun r w2 => ∃ T2 J2, r = (o_judge X s).1 ∧ w2 = w_C Z A (o_judge X s).2 T2 J2) := by
  refine ki_of (by decide) [(0, .ref ((A 0) 0)), (1, .int s)] (Nat.le_of_ble_eq_true rfl) rfl ?_
  intro M e1 e2 K Rt
  subst e1 e2
  refine q_aload_n K 0 dX3_judge_0 rfl ?_
  refine q_iload_n K 1 dX3_judge_1 rfl ?_
  refine q_wI (q0 := 0) (As := [.int s]) (rest := []) K kv_X3_wrongSheet (c_X3_wrongSheet (k_l M) (k_Z M) A X T J s) rfl rfl ml_X3_153 rfl rfl (Nat.le_of_ble_eq_true rfl) ⟨Nat.le_of_ble_eq_true rfl, Nat.le_of_ble_eq_true rfl⟩ dX3_judge_2 (fun r_2 w2 h_1 => ?_)
  rcases h_1 with ⟨c_3, e_r_2, rfl⟩ | ⟨c_3, c_4, e_r_2, rfl⟩ | ⟨c_3, c_4, e_r_2, rfl⟩
  · refine q_ws (ws' := w_G (k_Z M) A (a_kp X) (a_fd X) ++ (w_F (k_Z M) (A 1) (a_F X) ++ (w_F (k_Z M) (A 2) T ++ (w_F (k_Z M) (A 3) (a_K X) ++ (w_T (k_Z M) (A 4) (t_of (a_tp X) J) ++ (w_SS (k_Z M) A (a_S X))))))) rfl ?_
    refine q_eqi 0 e_r_2 ?_
    refine q_istore_n (lv' := [(2, .int 0), (0, .ref ((A 0) 0)), (1, .int s)]) K dX3_judge_5 (by decide) rfl ?_
    refine q_iload_n K 0 dX3_judge_6 rfl ?_
    refine q_iconst (-1) K dX3_judge_7 rfl ?_
    refine q_icmp_eq 17 K dX3_judge_8 (by decide) (fun c_0 => absurd c_0 (by decide)) (fun c_0 => ?_)
    refine q_aload_n K 1 dX3_judge_11 rfl ?_
    refine q_iload_n K 0 dX3_judge_12 rfl ?_
    refine q_wI (q0 := 0) (As := [.int 0]) (rest := []) K kv_X3_finding (c_X3_finding (k_l M) (k_Z M) A X T J 0 (by omega)) rfl rfl ml_X3_52 rfl rfl (Nat.le_of_ble_eq_true rfl) ⟨Nat.le_of_ble_eq_true rfl, Nat.le_of_ble_eq_true rfl⟩ dX3_judge_13 (fun r_6 w2 h_5 => ?_)
    obtain ⟨e_r_6, rfl⟩ := h_5
    refine q_eqi (r_fin 0) e_r_6 ?_
    refine q_ws (ws' := w_G (k_Z M) A (a_kp X) (fd_up (a_fd X) 0) ++ (w_F (k_Z M) (A 1) (a_F X) ++ (w_F (k_Z M) (A 2) T ++ (w_F (k_Z M) (A 3) (a_K X) ++ (w_T (k_Z M) (A 4) (t_of (a_tp X) J) ++ (w_SS (k_Z M) A (a_S X))))))) rfl ?_
    exact Rt _ _ (r_fin 0) (w_G (k_Z M) A (a_kp X) (fd_up (a_fd X) 0) ++ (w_F (k_Z M) (A 1) (a_F X) ++ (w_F (k_Z M) (A 2) T ++ (w_F (k_Z M) (A 3) (a_K X) ++ (w_T (k_Z M) (A 4) (t_of (a_tp X) J) ++ (w_SS (k_Z M) A (a_S X))))))) dX3_judge_16 rfl (⟨T, J, by simp only [o_judge, o_judges, o_with, a_fin, if_neg c_3] <;> rfl, by simp only [o_judge, o_judges, o_with, a_fin, if_neg c_3] <;> rfl⟩)
  · refine q_ws (ws' := w_G (k_Z M) A (a_kp X) (a_fd X) ++ (w_F (k_Z M) (A 1) (a_F X) ++ (w_F (k_Z M) (A 2) T ++ (w_F (k_Z M) (A 3) (a_K X) ++ (w_T (k_Z M) (A 4) (t_of (a_tp X) J) ++ (w_SS (k_Z M) A (a_S X))))))) rfl ?_
    refine q_eqi 5 e_r_2 ?_
    refine q_istore_n (lv' := [(2, .int 5), (0, .ref ((A 0) 0)), (1, .int s)]) K dX3_judge_5 (by decide) rfl ?_
    refine q_iload_n K 0 dX3_judge_6 rfl ?_
    refine q_iconst (-1) K dX3_judge_7 rfl ?_
    refine q_icmp_eq 17 K dX3_judge_8 (by decide) (fun c_0 => absurd c_0 (by decide)) (fun c_0 => ?_)
    refine q_aload_n K 1 dX3_judge_11 rfl ?_
    refine q_iload_n K 0 dX3_judge_12 rfl ?_
    refine q_wI (q0 := 0) (As := [.int 5]) (rest := []) K kv_X3_finding (c_X3_finding (k_l M) (k_Z M) A X T J 5 (by omega)) rfl rfl ml_X3_52 rfl rfl (Nat.le_of_ble_eq_true rfl) ⟨Nat.le_of_ble_eq_true rfl, Nat.le_of_ble_eq_true rfl⟩ dX3_judge_13 (fun r_8 w2 h_7 => ?_)
    obtain ⟨e_r_8, rfl⟩ := h_7
    refine q_eqi (r_fin 5) e_r_8 ?_
    refine q_ws (ws' := w_G (k_Z M) A (a_kp X) (fd_up (a_fd X) 5) ++ (w_F (k_Z M) (A 1) (a_F X) ++ (w_F (k_Z M) (A 2) T ++ (w_F (k_Z M) (A 3) (a_K X) ++ (w_T (k_Z M) (A 4) (t_of (a_tp X) J) ++ (w_SS (k_Z M) A (a_S X))))))) rfl ?_
    exact Rt _ _ (r_fin 5) (w_G (k_Z M) A (a_kp X) (fd_up (a_fd X) 5) ++ (w_F (k_Z M) (A 1) (a_F X) ++ (w_F (k_Z M) (A 2) T ++ (w_F (k_Z M) (A 3) (a_K X) ++ (w_T (k_Z M) (A 4) (t_of (a_tp X) J) ++ (w_SS (k_Z M) A (a_S X))))))) dX3_judge_16 rfl (⟨T, J, by simp only [o_judge, o_judges, o_with, a_fin, if_pos c_3, if_pos c_4] <;> rfl, by simp only [o_judge, o_judges, o_with, a_fin, if_pos c_3, if_pos c_4] <;> rfl⟩)
  · refine q_ws (ws' := w_G (k_Z M) A (a_kp X) (a_fd X) ++ (w_F (k_Z M) (A 1) (a_F X) ++ (w_F (k_Z M) (A 2) T ++ (w_F (k_Z M) (A 3) (a_K X) ++ (w_T (k_Z M) (A 4) (t_of (a_tp X) J) ++ (w_SS (k_Z M) A (a_S X))))))) rfl ?_
    refine q_eqi (-1) e_r_2 ?_
    obtain ⟨y, h_y, e_y⟩ := kn_rng (n := 3) c_3 rfl
    subst e_y
    obtain ⟨z, hz, ez⟩ := hsh y (by omega)
    refine q_istore_n (lv' := [(2, .int (-1)), (0, .ref ((A 0) 0)), (1, .int (nI y))]) K dX3_judge_5 (by decide) rfl ?_
    refine q_iload_n K 0 dX3_judge_6 rfl ?_
    refine q_iconst (-1) K dX3_judge_7 rfl ?_
    refine q_icmp_eq 17 K dX3_judge_8 (by decide) (fun c_0 => ?_) (fun c_0 => absurd c_0 (by decide))
    refine q_iconst 0 K dX3_judge_17 rfl ?_
    refine q_istore_n (lv' := [(3, .int 0), (2, .int (-1)), (0, .ref ((A 0) 0)), (1, .int (nI y))]) K dX3_judge_18 (by decide) rfl ?_
    refine q_loop (α := Nat) (fun n9 i => (i + n9 = z) ∧ o_find (p_judge (a_F X) (s_nm (a_S X y))) z 0 = o_find (p_judge (a_F X) (s_nm (a_S X y))) n9 i) 19 (fun i => [(3, .int (nI i)), (2, .int (-1)), (0, .ref ((A 0) 0)), (1, .int (nI y))]) (fun i => w_G (k_Z M) A (a_kp X) (a_fd X) ++ (w_F (k_Z M) (A 1) (a_F X) ++ (w_F (k_Z M) (A 2) T ++ (w_F (k_Z M) (A 3) (a_K X) ++ (w_T (k_Z M) (A 4) (t_of (a_tp X) J) ++ (w_SS (k_Z M) A (a_S X))))))) (fun n_9 i hI_10 ih_11 => ?_) z 0 ⟨by omega, rfl⟩
    obtain ⟨hI, hF⟩ := hI_10
    refine q_iload_n K 0 dX3_judge_19 rfl ?_
    refine q_aload_n K 2 dX3_judge_20 rfl ?_
    refine q_get (.ref ((A 0) 1)) K ws_X3 0 rfl rfl 5 (by decide) fl_X3_35 rfl dX3_judge_21 ?_
    refine q_iload_n K 3 dX3_judge_24 rfl ?_
    refine q_aldo (y := (A (5 + y)) 0) K 1 rfl (vp_in_nI (n := y) (N := 4) (by omega) (by omega)) (by rw [nI_clamp (n := y) (by omega)]) dX3_judge_25 ?_
    refine q_perm (ws' := w_G (k_Z M) A (a_kp X) (a_fd X) ++ (w_F (k_Z M) (A 1) (a_F X) ++ (w_F (k_Z M) (A 2) T ++ (w_F (k_Z M) (A 3) (a_K X) ++ (w_T (k_Z M) (A 4) (t_of (a_tp X) J) ++ (w_S (k_Z M) (A (5 + y)) ((a_S X) y) ++ (w_SR (k_Z M) A (a_S X) y))))))) (List.Perm.append_left _ (List.Perm.append_left _ (List.Perm.append_left _ (List.Perm.append_left _ (List.Perm.append_left _ (k_foc (by omega))))))) ?_
    refine q_get (.int (s_sz ((a_S X) y))) K ws_X1 39 rfl rfl 2 (by decide) fl_X3_203 rfl dX3_judge_26 ?_
    refine q_eqi (nI z) ez ?_
    refine q_icmp_ge 71 K dX3_judge_29 (by decide) (fun c_12 => ?_) (fun c_12 => ?_)
    · have c_12n : z ≤ i := (nI_leI (a := z) (b := i) (by omega) (by omega)).mp c_12
      refine q_iconst 0 K dX3_judge_71 rfl ?_
      refine q_perm (ws' := w_G (k_Z M) A (a_kp X) (a_fd X) ++ (w_F (k_Z M) (A 1) (a_F X) ++ (w_F (k_Z M) (A 2) T ++ (w_F (k_Z M) (A 3) (a_K X) ++ (w_T (k_Z M) (A 4) (t_of (a_tp X) J) ++ (w_SS (k_Z M) A (a_S X))))))) (List.Perm.append_left _ (List.Perm.append_left _ (List.Perm.append_left _ (List.Perm.append_left _ (List.Perm.append_left _ (k_foc (by omega)).symm))))) ?_
      exact Rt _ _ 0 (w_G (k_Z M) A (a_kp X) (a_fd X) ++ (w_F (k_Z M) (A 1) (a_F X) ++ (w_F (k_Z M) (A 2) T ++ (w_F (k_Z M) (A 3) (a_K X) ++ (w_T (k_Z M) (A 4) (t_of (a_tp X) J) ++ (w_SS (k_Z M) A (a_S X))))))) dX3_judge_72 rfl (⟨T, J, by simp only [o_judge, o_judges, o_with, if_pos c_3, if_neg c_4, nI_clamp (n := y) (by omega), a_szz hz ez, (show o_find (p_judge (a_F X) (s_nm (a_S X y))) z 0 = z by rw [hF, show n_9 = 0 by omega, o_find]; omega), if_neg (Nat.lt_irrefl z)], by simp only [o_judge, o_judges, o_with, if_pos c_3, if_neg c_4, nI_clamp (n := y) (by omega), a_szz hz ez, (show o_find (p_judge (a_F X) (s_nm (a_S X y))) z 0 = z by rw [hF, show n_9 = 0 by omega, o_find]; omega), if_neg (Nat.lt_irrefl z)]; rfl⟩)
    · have c_12n : ¬ (z ≤ i) := fun h9 => c_12 ((nI_leI (a := z) (b := i) (by omega) (by omega)).mpr h9)
      refine q_iload_n K 0 dX3_judge_32 rfl ?_
      refine q_bipush 8 K dX3_judge_33 rfl ?_
      refine q_icmp_ge 61 K dX3_judge_35 (by decide) (fun c_13 => ?_) (fun c_13 => ?_)
      · have c_13n : 8 ≤ i := (nI_leI (a := 8) (b := i) (by omega) (by omega)).mp c_13
        refine q_iconst 1 K dX3_judge_61 rfl ?_
        refine q_iload_n K 0 dX3_judge_62 rfl ?_
        refine q_iadd K dX3_judge_63 ?_
        refine q_eqi (nI (1 + i)) (kn_add 1 i) ?_
        refine q_perm (ws' := w_G (k_Z M) A (a_kp X) (a_fd X) ++ (w_F (k_Z M) (A 1) (a_F X) ++ (w_F (k_Z M) (A 2) T ++ (w_F (k_Z M) (A 3) (a_K X) ++ (w_T (k_Z M) (A 4) (t_of (a_tp X) J) ++ (w_SS (k_Z M) A (a_S X))))))) (List.Perm.append_left _ (List.Perm.append_left _ (List.Perm.append_left _ (List.Perm.append_left _ (List.Perm.append_left _ (k_foc (by omega)).symm))))) ?_
        exact Rt _ _ (nI (1 + i)) (w_G (k_Z M) A (a_kp X) (a_fd X) ++ (w_F (k_Z M) (A 1) (a_F X) ++ (w_F (k_Z M) (A 2) T ++ (w_F (k_Z M) (A 3) (a_K X) ++ (w_T (k_Z M) (A 4) (t_of (a_tp X) J) ++ (w_SS (k_Z M) A (a_S X))))))) dX3_judge_64 rfl (⟨T, J, by simp only [o_judge, o_judges, o_with, if_pos c_3, if_neg c_4, nI_clamp (n := y) (by omega), a_szz hz ez, (show o_find (p_judge (a_F X) (s_nm (a_S X y))) z 0 = i by rw [hF, show n_9 = (n_9 - 1) + 1 by omega, o_find, if_pos (by rw [p_judge, decide_eq_true c_13n]; rfl)]), if_pos (show i < z by omega)], by simp only [o_judge, o_judges, o_with, if_pos c_3, if_neg c_4, nI_clamp (n := y) (by omega), a_szz hz ez, (show o_find (p_judge (a_F X) (s_nm (a_S X y))) z 0 = i by rw [hF, show n_9 = (n_9 - 1) + 1 by omega, o_find, if_pos (by rw [p_judge, decide_eq_true c_13n]; rfl)]), if_pos (show i < z by omega)]; rfl⟩)
      · have c_13n : ¬ (8 ≤ i) := fun h9 => c_13 ((nI_leI (a := 8) (b := i) (by omega) (by omega)).mpr h9)
        refine q_aload_n K 2 dX3_judge_38 rfl ?_
        refine q_get (.ref ((A 0) 1)) K ws_X3 0 rfl rfl 5 (by decide) fl_X3_35 rfl dX3_judge_39 ?_
        refine q_iload_n K 3 dX3_judge_42 rfl ?_
        refine q_aldo (y := (A (5 + y)) 0) K 1 rfl (vp_in_nI (n := y) (N := 4) (by omega) (by omega)) (by rw [nI_clamp (n := y) (by omega)]) dX3_judge_43 ?_
        refine q_get (.ref ((A (5 + y)) 1)) K ws_X1 39 rfl rfl 0 (by decide) fl_X3_216 rfl dX3_judge_44 ?_
        refine q_iload_n K 0 dX3_judge_47 rfl ?_
        refine q_iald K 40 rfl (vp_in_nI (n := i) (N := 40) (by omega) (by omega)) dX3_judge_48 ?_
        refine q_eqi ((s_nm ((a_S X) y)) i) (by rw [nI_clamp (n := i) (by omega)]) ?_
        refine q_aload_n K 2 dX3_judge_49 rfl ?_
        refine q_get (.ref ((A 1) 0)) K ws_X3 0 rfl rfl 0 (by decide) fl_X3_12 rfl dX3_judge_50 ?_
        refine q_get (.ref ((A 1) 2)) K ws_X0 3 rfl rfl 1 (by decide) fl_X3_68 rfl dX3_judge_53 ?_
        refine q_iload_n K 0 dX3_judge_56 rfl ?_
        refine q_iald K 5 rfl (vp_in_nI (n := i) (N := 8) (by omega) (by omega)) dX3_judge_57 ?_
        refine q_eqi ((f_gs (a_F X)) i) (by rw [nI_clamp (n := i) (by omega)]) ?_
        refine q_icmp_eq 65 K dX3_judge_58 (by decide) (fun c_14 => ?_) (fun c_14 => ?_)
        · refine q_iinc (nI (i + 1)) (lv' := [(3, .int (nI (i + 1))), (2, .int (-1)), (0, .ref ((A 0) 0)), (1, .int (nI y))]) K 0 dX3_judge_65 rfl (kn_inc i) (by decide) rfl ?_
          refine q_goto 19 K dX3_judge_68 (by decide) ?_
          refine q_perm (ws' := w_G (k_Z M) A (a_kp X) (a_fd X) ++ (w_F (k_Z M) (A 1) (a_F X) ++ (w_F (k_Z M) (A 2) T ++ (w_F (k_Z M) (A 3) (a_K X) ++ (w_T (k_Z M) (A 4) (t_of (a_tp X) J) ++ (w_SS (k_Z M) A (a_S X))))))) (List.Perm.append_left _ (List.Perm.append_left _ (List.Perm.append_left _ (List.Perm.append_left _ (List.Perm.append_left _ (k_foc (by omega)).symm))))) ?_
          exact ih_11 (n_9 - 1) (i + 1) (by omega) ⟨by omega, by rw [hF, show n_9 = (n_9 - 1) + 1 by omega, o_find, if_neg (by rw [p_judge, decide_eq_true c_14, decide_eq_false c_13n]; decide)]; rfl⟩
        · refine q_iconst 1 K dX3_judge_61 rfl ?_
          refine q_iload_n K 0 dX3_judge_62 rfl ?_
          refine q_iadd K dX3_judge_63 ?_
          refine q_eqi (nI (1 + i)) (kn_add 1 i) ?_
          refine q_perm (ws' := w_G (k_Z M) A (a_kp X) (a_fd X) ++ (w_F (k_Z M) (A 1) (a_F X) ++ (w_F (k_Z M) (A 2) T ++ (w_F (k_Z M) (A 3) (a_K X) ++ (w_T (k_Z M) (A 4) (t_of (a_tp X) J) ++ (w_SS (k_Z M) A (a_S X))))))) (List.Perm.append_left _ (List.Perm.append_left _ (List.Perm.append_left _ (List.Perm.append_left _ (List.Perm.append_left _ (k_foc (by omega)).symm))))) ?_
          exact Rt _ _ (nI (1 + i)) (w_G (k_Z M) A (a_kp X) (a_fd X) ++ (w_F (k_Z M) (A 1) (a_F X) ++ (w_F (k_Z M) (A 2) T ++ (w_F (k_Z M) (A 3) (a_K X) ++ (w_T (k_Z M) (A 4) (t_of (a_tp X) J) ++ (w_SS (k_Z M) A (a_S X))))))) dX3_judge_64 rfl (⟨T, J, by simp only [o_judge, o_judges, o_with, if_pos c_3, if_neg c_4, nI_clamp (n := y) (by omega), a_szz hz ez, (show o_find (p_judge (a_F X) (s_nm (a_S X y))) z 0 = i by rw [hF, show n_9 = (n_9 - 1) + 1 by omega, o_find, if_pos (by rw [p_judge, decide_eq_false c_14, decide_eq_false c_13n]; rfl)]), if_pos (show i < z by omega)], by simp only [o_judge, o_judges, o_with, if_pos c_3, if_neg c_4, nI_clamp (n := y) (by omega), a_szz hz ez, (show o_find (p_judge (a_F X) (s_nm (a_S X y))) z 0 = i by rw [hF, show n_9 = (n_9 - 1) + 1 by omega, o_find, if_pos (by rw [p_judge, decide_eq_false c_14, decide_eq_false c_13n]; rfl)]), if_pos (show i < z by omega)]; rfl⟩)
theorem kv_X3_judge : k_iv yX3_judge cX3_judge 4 (some .int) 1 := ⟨⟨im_X3_judge, se_X3_judge⟩, in_X3, co_X3_judge, by decide +kernel⟩
