set_option maxHeartbeats 4000000 in
set_option maxRecDepth 100000 in
theorem c_X4_copy (l : Launch) (Z : kz_Z) (B : Nat → Nat) (X : AS) (D : DJ) (m : Nat) (hm : m ≤ 8) (hm2 : f_wk (a_F X) = nI m) (hok : f_ok (a_F X)) (hsh : a_shok X) (hbt : a_btok X) (s f t u n : Int32) : KI l Z yX4_copy cX4_copy 10 .int 1 21 [.ref (B 0), .int s, .int f, .int t, .int u, .int n] (w_M Z B X D) (fun r w2 => ∃ D2, r = (o_copy X s f t u n).1 ∧ w2 = w_M Z B (o_copy X s f t u n).2 D2) := by
  refine ki_of (by decide) [(0, .ref (B 0)), (1, .int s), (2, .int f), (3, .int t), (4, .int u), (5, .int n)] (Nat.le_of_ble_eq_true rfl) rfl ?_
  intro M e1 e2 K Rt
  subst e1 e2
  refine q_iload_n K 1 dX4_copy_0 rfl ?_
  refine q_cp (rest := []) K ks_X4_isSheet (c_X4_isSheet (k_l M) (k_Z M) s) ml_X4_274 rfl rfl (Nat.le_of_ble_eq_true rfl) ⟨Nat.le_of_ble_eq_true rfl, Nat.le_of_ble_eq_true rfl⟩ dX4_copy_1 (fun r_1 e_r_1 => ?_)
  refine q_if_eq 14 K dX4_copy_4 (by decide) (fun c_2 => ?_) (fun c_2 => ?_)
  · have c_2 : ¬ (inR s 0 3) := (kn_eq e_r_1).mp c_2
    refine q_aload_n K 0 dX4_copy_14 rfl ?_
    refine q_ldc K dX4_copy_15 ct_X4_40 ?_
    refine q_eqi (r_fin 0) (by decide) ?_
    refine q_wI (q0 := 0) (As := [.int (r_fin 0)]) (rest := []) K kv_X4_finds (c_X4_finds (k_l M) (k_Z M) B X D 0 (by omega)) rfl rfl ml_X4_48 rfl rfl (Nat.le_of_ble_eq_true rfl) ⟨Nat.le_of_ble_eq_true rfl, Nat.le_of_ble_eq_true rfl⟩ dX4_copy_17 (fun r_4 w2 h_3 => ?_)
    obtain ⟨e_r_4, rfl⟩ := h_3
    refine q_eqi (r_fin 0) e_r_4 ?_
    refine q_ws (ws' := w_M (k_Z M) B (a_F X, a_K X, a_kp X, fd_up (a_fd X) 0, a_tp X, a_S X) D) rfl ?_
    exact Rt _ _ (r_fin 0) (w_M (k_Z M) B (a_F X, a_K X, a_kp X, fd_up (a_fd X) 0, a_tp X, a_S X) D) dX4_copy_20 rfl (⟨D, by simp only [o_copy, a_fin, if_neg c_2, e_r_1] <;> rfl, by simp only [o_copy, a_fin, if_neg c_2] <;> rfl⟩)
  · have c_2 : inR s 0 3 := (kn_ne e_r_1).mp c_2
    obtain ⟨y, h_y, e_y⟩ := kn_rng (n := 3) c_2 rfl
    subst e_y
    obtain ⟨zy, hzy, ezy⟩ := hsh y (by omega)
    refine q_iload_n K 3 dX4_copy_7 rfl ?_
    refine q_cp (rest := []) K ks_X4_isSheet (c_X4_isSheet (k_l M) (k_Z M) t) ml_X4_274 rfl rfl (Nat.le_of_ble_eq_true rfl) ⟨Nat.le_of_ble_eq_true rfl, Nat.le_of_ble_eq_true rfl⟩ dX4_copy_8 (fun r_5 e_r_5 => ?_)
    refine q_if_ne 21 K dX4_copy_11 (by decide) (fun c_6 => ?_) (fun c_6 => ?_)
    · have c_6 : inR t 0 3 := (kn_ne e_r_5).mp c_6
      obtain ⟨x, h_x, e_x⟩ := kn_rng (n := 3) c_6 rfl
      subst e_x
      obtain ⟨zx, hzx, ezx⟩ := hsh x (by omega)
      refine q_aload_n K 0 dX4_copy_21 rfl ?_
      refine q_get (.ref (B 7)) K ws_X4 0 rfl rfl 8 (by decide) fl_X4_28 rfl dX4_copy_22 ?_
      refine q_iload_n K 1 dX4_copy_25 rfl ?_
      refine q_iald K 7 rfl (vp_in_nI (n := y) (N := 4) (by omega) (by omega)) dX4_copy_26 ?_
      refine q_eqi ((m_bt (a_S X)) y) (by rw [nI_clamp (n := y) (by omega)]) ?_
      by_cases hmy : s_bt (a_S X y) = 0
      · refine q_eqi (-1) (if_pos hmy) ?_
        refine q_if_lt 39 K dX4_copy_27 (by decide) (fun c_0 => ?_) (fun c_0 => absurd c_0 (by decide))
        refine q_aload_n K 0 dX4_copy_39 rfl ?_
        refine q_ldcw K dX4_copy_40 ct_X4_269 ?_
        refine q_eqi (r_fin 5) (by decide) ?_
        refine q_wI (q0 := 0) (As := [.int (r_fin 5)]) (rest := []) K kv_X4_finds (c_X4_finds (k_l M) (k_Z M) B X D 5 (by omega)) rfl rfl ml_X4_48 rfl rfl (Nat.le_of_ble_eq_true rfl) ⟨Nat.le_of_ble_eq_true rfl, Nat.le_of_ble_eq_true rfl⟩ dX4_copy_43 (fun r_8 w2 h_7 => ?_)
        obtain ⟨e_r_8, rfl⟩ := h_7
        refine q_eqi (r_fin 5) e_r_8 ?_
        refine q_ws (ws' := w_M (k_Z M) B (a_F X, a_K X, a_kp X, fd_up (a_fd X) 5, a_tp X, a_S X) D) rfl ?_
        exact Rt _ _ (r_fin 5) (w_M (k_Z M) B (a_F X, a_K X, a_kp X, fd_up (a_fd X) 5, a_tp X, a_S X) D) dX4_copy_46 rfl (⟨D, by simp only [o_copy, o_copys, a_fin, if_pos c_2, if_pos c_6, if_pos hmy, nI_clamp (n := y) (by omega), nI_clamp (n := x) (by omega)] <;> rfl, by simp only [o_copy, o_copys, a_fin, if_pos c_2, if_pos c_6, if_pos hmy, nI_clamp (n := y) (by omega), nI_clamp (n := x) (by omega)] <;> rfl⟩)
      · refine q_eqi (s_bt (a_S X y)) (if_neg hmy) ?_
        refine q_if_lt 39 K dX4_copy_27 (by decide) (fun c_9 => ?_) (fun c_9 => ?_)
        · exact absurd c_9 (Int32.not_lt.mpr (bt_ge (hbt y (by omega))))
        · refine q_aload_n K 0 dX4_copy_30 rfl ?_
          refine q_get (.ref (B 7)) K ws_X4 0 rfl rfl 8 (by decide) fl_X4_28 rfl dX4_copy_31 ?_
          refine q_iload_n K 3 dX4_copy_34 rfl ?_
          refine q_iald K 7 rfl (vp_in_nI (n := x) (N := 4) (by omega) (by omega)) dX4_copy_35 ?_
          refine q_eqi ((m_bt (a_S X)) x) (by rw [nI_clamp (n := x) (by omega)]) ?_
          by_cases hmx : s_bt (a_S X x) = 0
          · refine q_eqi (-1) (if_pos hmx) ?_
            refine q_if_ge 47 K dX4_copy_36 (by decide) (fun c_0 => absurd c_0 (by decide)) (fun c_0 => ?_)
            refine q_aload_n K 0 dX4_copy_39 rfl ?_
            refine q_ldcw K dX4_copy_40 ct_X4_269 ?_
            refine q_eqi (r_fin 5) (by decide) ?_
            refine q_wI (q0 := 0) (As := [.int (r_fin 5)]) (rest := []) K kv_X4_finds (c_X4_finds (k_l M) (k_Z M) B X D 5 (by omega)) rfl rfl ml_X4_48 rfl rfl (Nat.le_of_ble_eq_true rfl) ⟨Nat.le_of_ble_eq_true rfl, Nat.le_of_ble_eq_true rfl⟩ dX4_copy_43 (fun r_11 w2 h_10 => ?_)
            obtain ⟨e_r_11, rfl⟩ := h_10
            refine q_eqi (r_fin 5) e_r_11 ?_
            refine q_ws (ws' := w_M (k_Z M) B (a_F X, a_K X, a_kp X, fd_up (a_fd X) 5, a_tp X, a_S X) D) rfl ?_
            exact Rt _ _ (r_fin 5) (w_M (k_Z M) B (a_F X, a_K X, a_kp X, fd_up (a_fd X) 5, a_tp X, a_S X) D) dX4_copy_46 rfl (⟨D, by simp only [o_copy, o_copys, a_fin, if_pos c_2, if_pos c_6, if_neg hmy, if_neg c_9, if_pos hmx, nI_clamp (n := y) (by omega), nI_clamp (n := x) (by omega)] <;> rfl, by simp only [o_copy, o_copys, a_fin, if_pos c_2, if_pos c_6, if_neg hmy, if_neg c_9, if_pos hmx, nI_clamp (n := y) (by omega), nI_clamp (n := x) (by omega)] <;> rfl⟩)
          · refine q_eqi (s_bt (a_S X x)) (if_neg hmx) ?_
            refine q_if_ge 47 K dX4_copy_36 (by decide) (fun c_12 => ?_) (fun c_12 => ?_)
            · refine q_aload_n K 0 dX4_copy_47 rfl ?_
              refine q_get (.ref (B 7)) K ws_X4 0 rfl rfl 8 (by decide) fl_X4_28 rfl dX4_copy_48 ?_
              refine q_iload_n K 1 dX4_copy_51 rfl ?_
              refine q_iald K 7 rfl (vp_in_nI (n := y) (N := 4) (by omega) (by omega)) dX4_copy_52 ?_
              refine q_eqi ((m_bt (a_S X)) y) (by rw [nI_clamp (n := y) (by omega)]) ?_
              refine q_eqi (s_bt (a_S X y)) (if_neg hmy) ?_
              refine q_aload_n K 0 dX4_copy_53 rfl ?_
              refine q_get (.ref (B 7)) K ws_X4 0 rfl rfl 8 (by decide) fl_X4_28 rfl dX4_copy_54 ?_
              refine q_iload_n K 3 dX4_copy_57 rfl ?_
              refine q_iald K 7 rfl (vp_in_nI (n := x) (N := 4) (by omega) (by omega)) dX4_copy_58 ?_
              refine q_eqi ((m_bt (a_S X)) x) (by rw [nI_clamp (n := x) (by omega)]) ?_
              refine q_eqi (s_bt (a_S X x)) (if_neg hmx) ?_
              refine q_icmp_eq 70 K dX4_copy_59 (by decide) (fun c_13 => ?_) (fun c_13 => ?_)
              · refine q_iload_n K 2 dX4_copy_70 rfl ?_
                refine q_if_lt 111 K dX4_copy_71 (by decide) (fun c_14 => ?_) (fun c_14 => ?_)
                · refine q_aload_n K 0 dX4_copy_111 rfl ?_
                  refine q_ldc K dX4_copy_112 ct_X4_40 ?_
                  refine q_eqi (r_fin 0) (by decide) ?_
                  refine q_wI (q0 := 0) (As := [.int (r_fin 0)]) (rest := []) K kv_X4_finds (c_X4_finds (k_l M) (k_Z M) B X D 0 (by omega)) rfl rfl ml_X4_48 rfl rfl (Nat.le_of_ble_eq_true rfl) ⟨Nat.le_of_ble_eq_true rfl, Nat.le_of_ble_eq_true rfl⟩ dX4_copy_114 (fun r_16 w2 h_15 => ?_)
                  obtain ⟨e_r_16, rfl⟩ := h_15
                  refine q_eqi (r_fin 0) e_r_16 ?_
                  refine q_ws (ws' := w_M (k_Z M) B (a_F X, a_K X, a_kp X, fd_up (a_fd X) 0, a_tp X, a_S X) D) rfl ?_
                  exact Rt _ _ (r_fin 0) (w_M (k_Z M) B (a_F X, a_K X, a_kp X, fd_up (a_fd X) 0, a_tp X, a_S X) D) dX4_copy_117 rfl (⟨D, by simp only [o_copy, if_pos c_2, if_pos c_6, nI_clamp (n := y) (by omega), nI_clamp (n := x) (by omega), o_copys_no hmy hmx c_13 (fun h9 => h9.1.1 c_14)] <;> rfl, by simp only [o_copy, if_pos c_2, if_pos c_6, nI_clamp (n := y) (by omega), nI_clamp (n := x) (by omega), o_copys_no hmy hmx c_13 (fun h9 => h9.1.1 c_14)] <;> rfl⟩)
                · refine q_iload K 4 dX4_copy_74 rfl ?_
                  refine q_if_lt 111 K dX4_copy_76 (by decide) (fun c_17 => ?_) (fun c_17 => ?_)
                  · refine q_aload_n K 0 dX4_copy_111 rfl ?_
                    refine q_ldc K dX4_copy_112 ct_X4_40 ?_
                    refine q_eqi (r_fin 0) (by decide) ?_
                    refine q_wI (q0 := 0) (As := [.int (r_fin 0)]) (rest := []) K kv_X4_finds (c_X4_finds (k_l M) (k_Z M) B X D 0 (by omega)) rfl rfl ml_X4_48 rfl rfl (Nat.le_of_ble_eq_true rfl) ⟨Nat.le_of_ble_eq_true rfl, Nat.le_of_ble_eq_true rfl⟩ dX4_copy_114 (fun r_19 w2 h_18 => ?_)
                    obtain ⟨e_r_19, rfl⟩ := h_18
                    refine q_eqi (r_fin 0) e_r_19 ?_
                    refine q_ws (ws' := w_M (k_Z M) B (a_F X, a_K X, a_kp X, fd_up (a_fd X) 0, a_tp X, a_S X) D) rfl ?_
                    exact Rt _ _ (r_fin 0) (w_M (k_Z M) B (a_F X, a_K X, a_kp X, fd_up (a_fd X) 0, a_tp X, a_S X) D) dX4_copy_117 rfl (⟨D, by simp only [o_copy, if_pos c_2, if_pos c_6, nI_clamp (n := y) (by omega), nI_clamp (n := x) (by omega), o_copys_no hmy hmx c_13 (fun h9 => h9.2.1 c_17)] <;> rfl, by simp only [o_copy, if_pos c_2, if_pos c_6, nI_clamp (n := y) (by omega), nI_clamp (n := x) (by omega), o_copys_no hmy hmx c_13 (fun h9 => h9.2.1 c_17)] <;> rfl⟩)
                  · refine q_iload K 5 dX4_copy_79 rfl ?_
                    refine q_if_lt 111 K dX4_copy_81 (by decide) (fun c_20 => ?_) (fun c_20 => ?_)
                    · refine q_aload_n K 0 dX4_copy_111 rfl ?_
                      refine q_ldc K dX4_copy_112 ct_X4_40 ?_
                      refine q_eqi (r_fin 0) (by decide) ?_
                      refine q_wI (q0 := 0) (As := [.int (r_fin 0)]) (rest := []) K kv_X4_finds (c_X4_finds (k_l M) (k_Z M) B X D 0 (by omega)) rfl rfl ml_X4_48 rfl rfl (Nat.le_of_ble_eq_true rfl) ⟨Nat.le_of_ble_eq_true rfl, Nat.le_of_ble_eq_true rfl⟩ dX4_copy_114 (fun r_22 w2 h_21 => ?_)
                      obtain ⟨e_r_22, rfl⟩ := h_21
                      refine q_eqi (r_fin 0) e_r_22 ?_
                      refine q_ws (ws' := w_M (k_Z M) B (a_F X, a_K X, a_kp X, fd_up (a_fd X) 0, a_tp X, a_S X) D) rfl ?_
                      exact Rt _ _ (r_fin 0) (w_M (k_Z M) B (a_F X, a_K X, a_kp X, fd_up (a_fd X) 0, a_tp X, a_S X) D) dX4_copy_117 rfl (⟨D, by simp only [o_copy, if_pos c_2, if_pos c_6, nI_clamp (n := y) (by omega), nI_clamp (n := x) (by omega), o_copys_no hmy hmx c_13 (fun h9 => h9.1.2.1 c_20)] <;> rfl, by simp only [o_copy, if_pos c_2, if_pos c_6, nI_clamp (n := y) (by omega), nI_clamp (n := x) (by omega), o_copys_no hmy hmx c_13 (fun h9 => h9.1.2.1 c_20)] <;> rfl⟩)
                    · obtain ⟨a, h_a, e_a⟩ := nI_of c_14
                      subst e_a
                      obtain ⟨b, h_b, e_b⟩ := nI_of c_17
                      subst e_b
                      obtain ⟨k, h_k, e_k⟩ := nI_of c_20
                      subst e_k
                      refine q_iload K 5 dX4_copy_84 rfl ?_
                      refine q_aload_n K 0 dX4_copy_86 rfl ?_
                      refine q_get (.ref (B 8)) K ws_X4 0 rfl rfl 9 (by decide) fl_X4_31 rfl dX4_copy_87 ?_
                      refine q_iload_n K 1 dX4_copy_90 rfl ?_
                      refine q_iald K 8 rfl (vp_in_nI (n := y) (N := 4) (by omega) (by omega)) dX4_copy_91 ?_
                      refine q_eqi ((m_sz (a_S X)) y) (by rw [nI_clamp (n := y) (by omega)]) ?_
                      refine q_eqi (nI zy) ezy ?_
                      refine q_iload_n K 2 dX4_copy_92 rfl ?_
                      refine q_isub K dX4_copy_93 ?_
                      refine q_icmp_gt 111 K dX4_copy_94 (by decide) (fun c_23 => ?_) (fun c_23 => ?_)
                      · refine q_aload_n K 0 dX4_copy_111 rfl ?_
                        refine q_ldc K dX4_copy_112 ct_X4_40 ?_
                        refine q_eqi (r_fin 0) (by decide) ?_
                        refine q_wI (q0 := 0) (As := [.int (r_fin 0)]) (rest := []) K kv_X4_finds (c_X4_finds (k_l M) (k_Z M) B X D 0 (by omega)) rfl rfl ml_X4_48 rfl rfl (Nat.le_of_ble_eq_true rfl) ⟨Nat.le_of_ble_eq_true rfl, Nat.le_of_ble_eq_true rfl⟩ dX4_copy_114 (fun r_25 w2 h_24 => ?_)
                        obtain ⟨e_r_25, rfl⟩ := h_24
                        refine q_eqi (r_fin 0) e_r_25 ?_
                        refine q_ws (ws' := w_M (k_Z M) B (a_F X, a_K X, a_kp X, fd_up (a_fd X) 0, a_tp X, a_S X) D) rfl ?_
                        exact Rt _ _ (r_fin 0) (w_M (k_Z M) B (a_F X, a_K X, a_kp X, fd_up (a_fd X) 0, a_tp X, a_S X) D) dX4_copy_117 rfl (⟨D, by simp only [o_copy, if_pos c_2, if_pos c_6, nI_clamp (n := y) (by omega), nI_clamp (n := x) (by omega), nI_clamp (n := a) (by omega), nI_clamp (n := b) (by omega), nI_clamp (n := k) (by omega), o_copys_no (f := nI a) (t := nI b) (n := nI k) hmy hmx c_13 (fun h9 => absurd ((s_has_iff hzy c_14 c_20).mp (by rw [← ezy]; exact h9.1)) (Int32.not_le.mpr c_23))] <;> rfl, by simp only [o_copy, if_pos c_2, if_pos c_6, nI_clamp (n := y) (by omega), nI_clamp (n := x) (by omega), nI_clamp (n := a) (by omega), nI_clamp (n := b) (by omega), nI_clamp (n := k) (by omega), o_copys_no (f := nI a) (t := nI b) (n := nI k) hmy hmx c_13 (fun h9 => absurd ((s_has_iff hzy c_14 c_20).mp (by rw [← ezy]; exact h9.1)) (Int32.not_le.mpr c_23))] <;> rfl⟩)
                      · refine q_iload K 5 dX4_copy_97 rfl ?_
                        refine q_aload_n K 0 dX4_copy_99 rfl ?_
                        refine q_get (.ref (B 8)) K ws_X4 0 rfl rfl 9 (by decide) fl_X4_31 rfl dX4_copy_100 ?_
                        refine q_iload_n K 3 dX4_copy_103 rfl ?_
                        refine q_iald K 8 rfl (vp_in_nI (n := x) (N := 4) (by omega) (by omega)) dX4_copy_104 ?_
                        refine q_eqi ((m_sz (a_S X)) x) (by rw [nI_clamp (n := x) (by omega)]) ?_
                        refine q_eqi (nI zx) ezx ?_
                        refine q_iload K 4 dX4_copy_105 rfl ?_
                        refine q_isub K dX4_copy_107 ?_
                        refine q_icmp_le 118 K dX4_copy_108 (by decide) (fun c_26 => ?_) (fun c_26 => ?_)
                        · have hA : s_has (nI zy) (nI a) (nI k) := (s_has_iff hzy c_14 c_20).mpr (Int32.not_lt.mp c_23)
                          have hB : s_has (nI zx) (nI b) (nI k) := (s_has_iff hzx c_17 c_20).mpr c_26
                          have hsA := s_has_nat hzy hA
                          have hsB := s_has_nat hzx hB
                          rw [nI_clamp (n := a) (by omega), nI_clamp (n := k) (by omega)] at hsA
                          rw [nI_clamp (n := b) (by omega), nI_clamp (n := k) (by omega)] at hsB
                          refine q_bipush 40 K dX4_copy_118 rfl ?_
                          refine q_iload_n K 1 dX4_copy_120 rfl ?_
                          refine q_imul K dX4_copy_121 ?_
                          refine q_eqi (nI (40 * y)) (pk_mul 40 y) ?_
                          refine q_iload_n K 2 dX4_copy_122 rfl ?_
                          refine q_iadd K dX4_copy_123 ?_
                          refine q_eqi (nI ((40 * y) + a)) (kn_add (40 * y) a) ?_
                          refine q_istore (lv' := [(6, .int (nI ((40 * y) + a))), (0, .ref (B 0)), (1, .int (nI y)), (2, .int (nI a)), (3, .int (nI x)), (4, .int (nI b)), (5, .int (nI k))]) K dX4_copy_124 (by decide) rfl ?_
                          refine q_bipush 40 K dX4_copy_126 rfl ?_
                          refine q_iload_n K 4 dX4_copy_128 rfl ?_
                          refine q_imul K dX4_copy_129 ?_
                          refine q_eqi (nI (40 * x)) (pk_mul 40 x) ?_
                          refine q_iload K 5 dX4_copy_130 rfl ?_
                          refine q_iadd K dX4_copy_132 ?_
                          refine q_eqi (nI ((40 * x) + b)) (kn_add (40 * x) b) ?_
                          refine q_istore (lv' := [(7, .int (nI ((40 * x) + b))), (6, .int (nI ((40 * y) + a))), (0, .ref (B 0)), (1, .int (nI y)), (2, .int (nI a)), (3, .int (nI x)), (4, .int (nI b)), (5, .int (nI k))]) K dX4_copy_133 (by decide) rfl ?_
                          refine q_iconst 0 K dX4_copy_135 rfl ?_
                          refine q_ws (ws' := (w_M (k_Z M) B X D).set 9 (B 9, .inl ((k_Z M).2.1 0, 160, .inl (m_cp (m_nm (a_S X)) ((40 * y) + a) ((40 * x) + b) k 0)))) rfl ?_
                          refine q_istore (lv' := [(8, .int 0), (7, .int (nI ((40 * x) + b))), (6, .int (nI ((40 * y) + a))), (0, .ref (B 0)), (1, .int (nI y)), (2, .int (nI a)), (3, .int (nI x)), (4, .int (nI b)), (5, .int (nI k))]) K dX4_copy_136 (by decide) rfl ?_
                          refine q_lv [0, 1, 2, 3, 4, 5, 6, 7, 8] rfl ?_
                          refine q_loop (α := Nat) (fun n9 i => i + n9 = k) 138 (fun i => [(8, .int (nI i)), (7, .int (nI ((40 * x) + b))), (6, .int (nI ((40 * y) + a))), (0, .ref (B 0)), (1, .int (nI y)), (2, .int (nI a)), (3, .int (nI x)), (4, .int (nI b)), (5, .int (nI k))]) (fun i => (w_M (k_Z M) B X D).set 9 (B 9, .inl ((k_Z M).2.1 0, 160, .inl (m_cp (m_nm (a_S X)) ((40 * y) + a) ((40 * x) + b) k i)))) (fun n_27 i hI_28 ih_29 => ?_) k 0 (by omega)
                          refine q_iload K 0 dX4_copy_138 rfl ?_
                          refine q_iload K 8 dX4_copy_140 rfl ?_
                          refine q_icmp_ge 192 K dX4_copy_142 (by decide) (fun c_30 => ?_) (fun c_30 => ?_)
                          · have c_30n : k ≤ i := (nI_leI (a := k) (b := i) (by omega) (by omega)).mp c_30
                            refine q_ws (ws' := w_M (k_Z M) B (a_F X, a_K X, a_kp X, a_fd X, a_tp X, k_upS (a_S X) x (va_cpy (s_nm (a_S X y)) (s_nm (a_S X x)) a b k, s_bt (a_S X x), s_sz (a_S X x))) D) (wM_nm (by rw [show i = k by omega]; exact m_cp_cpy (a_S X) (by omega) (by omega) _ _)) ?_
                            refine q_iload K 8 dX4_copy_192 rfl ?_
                            exact Rt _ _ (nI k) (w_M (k_Z M) B (a_F X, a_K X, a_kp X, a_fd X, a_tp X, k_upS (a_S X) x (va_cpy (s_nm (a_S X y)) (s_nm (a_S X x)) a b k, s_bt (a_S X x), s_sz (a_S X x))) D) dX4_copy_194 rfl (⟨D, by simp only [o_copy, if_pos c_2, if_pos c_6, nI_clamp (n := y) (by omega), nI_clamp (n := x) (by omega), nI_clamp (n := a) (by omega), nI_clamp (n := b) (by omega), nI_clamp (n := k) (by omega), o_copys_yes hmy hmx c_13 (by rw [ezy]; exact hA) (by rw [ezx]; exact hB), o_copyd] <;> rfl, by simp only [o_copy, if_pos c_2, if_pos c_6, nI_clamp (n := y) (by omega), nI_clamp (n := x) (by omega), nI_clamp (n := a) (by omega), nI_clamp (n := b) (by omega), nI_clamp (n := k) (by omega), o_copys_yes hmy hmx c_13 (by rw [ezy]; exact hA) (by rw [ezx]; exact hB), o_copyd] <;> rfl⟩)
                          · have c_30n : ¬ (k ≤ i) := fun h9 => c_30 ((nI_leI (a := k) (b := i) (by omega) (by omega)).mpr h9)
                            refine q_iload K 2 dX4_copy_145 rfl ?_
                            refine q_iload K 1 dX4_copy_147 rfl ?_
                            refine q_icmp_ge 162 K dX4_copy_149 (by decide) (fun c_31 => ?_) (fun c_31 => ?_)
                            · have c_31n : (40 * x) + b ≤ (40 * y) + a := (nI_leI (a := (40 * x) + b) (b := (40 * y) + a) (by omega) (by omega)).mp c_31
                              refine q_iload K 0 dX4_copy_162 rfl ?_
                              have hmi : m_cpi ((40 * y) + a) ((40 * x) + b) k i < k := m_cpi_lt (by omega)
                              refine q_eqi (nI (m_cpi ((40 * y) + a) ((40 * x) + b) k i)) (by rw [m_cpi, if_neg (by omega)]) ?_
                              refine q_istore (lv' := [(9, .int (nI (m_cpi ((40 * y) + a) ((40 * x) + b) k i))), (8, .int (nI i)), (7, .int (nI ((40 * x) + b))), (6, .int (nI ((40 * y) + a))), (0, .ref (B 0)), (1, .int (nI y)), (2, .int (nI a)), (3, .int (nI x)), (4, .int (nI b)), (5, .int (nI k))]) K dX4_copy_164 (by decide) rfl ?_
                              refine q_aload_n K 4 dX4_copy_166 rfl ?_
                              refine q_get (.ref (B 9)) K ws_X4 0 rfl rfl 10 (by decide) fl_X4_34 rfl dX4_copy_167 ?_
                              refine q_iload K 2 dX4_copy_170 rfl ?_
                              refine q_iload K 0 dX4_copy_172 rfl ?_
                              refine q_iadd K dX4_copy_174 ?_
                              refine q_eqi (nI (((40 * x) + b) + (m_cpi ((40 * y) + a) ((40 * x) + b) k i))) (kn_add ((40 * x) + b) (m_cpi ((40 * y) + a) ((40 * x) + b) k i)) ?_
                              refine q_aload_n K 4 dX4_copy_175 rfl ?_
                              refine q_get (.ref (B 9)) K ws_X4 0 rfl rfl 10 (by decide) fl_X4_34 rfl dX4_copy_176 ?_
                              refine q_iload K 3 dX4_copy_179 rfl ?_
                              refine q_iload K 0 dX4_copy_181 rfl ?_
                              refine q_iadd K dX4_copy_183 ?_
                              refine q_eqi (nI (((40 * y) + a) + (m_cpi ((40 * y) + a) ((40 * x) + b) k i))) (kn_add ((40 * y) + a) (m_cpi ((40 * y) + a) ((40 * x) + b) k i)) ?_
                              refine q_iald K 9 rfl (vp_in_nI (n := ((40 * y) + a) + (m_cpi ((40 * y) + a) ((40 * x) + b) k i)) (N := 160) (by omega) (by omega)) dX4_copy_184 ?_
                              refine q_eqi ((m_cp (m_nm (a_S X)) ((40 * y) + a) ((40 * x) + b) k i) (((40 * y) + a) + (m_cpi ((40 * y) + a) ((40 * x) + b) k i))) (by rw [nI_clamp (n := ((40 * y) + a) + (m_cpi ((40 * y) + a) ((40 * x) + b) k i)) (by omega)]) ?_
                              refine q_iast (ws' := (w_M (k_Z M) B X D).set 9 (B 9, .inl ((k_Z M).2.1 0, 160, .inl (upd (m_cp (m_nm (a_S X)) ((40 * y) + a) ((40 * x) + b) k i) (((40 * x) + b) + (m_cpi ((40 * y) + a) ((40 * x) + b) k i)) ((m_cp (m_nm (a_S X)) ((40 * y) + a) ((40 * x) + b) k i) (((40 * y) + a) + (m_cpi ((40 * y) + a) ((40 * x) + b) k i))))))) K 9 rfl (vp_in_nI (n := ((40 * x) + b) + (m_cpi ((40 * y) + a) ((40 * x) + b) k i)) (N := 160) (by omega) (by omega)) (by rw [nI_clamp (n := ((40 * x) + b) + (m_cpi ((40 * y) + a) ((40 * x) + b) k i)) (by omega)] <;> rfl) dX4_copy_185 ?_
                              refine q_iinc (nI (i + 1)) (lv' := [(8, .int (nI (i + 1))), (9, .int (nI (m_cpi ((40 * y) + a) ((40 * x) + b) k i))), (7, .int (nI ((40 * x) + b))), (6, .int (nI ((40 * y) + a))), (0, .ref (B 0)), (1, .int (nI y)), (2, .int (nI a)), (3, .int (nI x)), (4, .int (nI b)), (5, .int (nI k))]) K 1 dX4_copy_186 rfl (kn_inc i) (by decide) rfl ?_
                              refine q_goto 138 K dX4_copy_189 (by decide) ?_
                              refine q_lv [0, 2, 3, 4, 5, 6, 7, 8, 9] rfl ?_
                              exact ih_29 (n_27 - 1) (i + 1) (by omega) (by omega)
                            · have c_31n : ¬ ((40 * x) + b ≤ (40 * y) + a) := fun h9 => c_31 ((nI_leI (a := (40 * x) + b) (b := (40 * y) + a) (by omega) (by omega)).mpr h9)
                              refine q_iload K 8 dX4_copy_152 rfl ?_
                              refine q_iconst 1 K dX4_copy_154 rfl ?_
                              refine q_isub K dX4_copy_155 ?_
                              refine q_iload K 0 dX4_copy_156 rfl ?_
                              refine q_isub K dX4_copy_158 ?_
                              refine q_goto 164 K dX4_copy_159 (by decide) ?_
                              have hmi : m_cpi ((40 * y) + a) ((40 * x) + b) k i < k := m_cpi_lt (by omega)
                              refine q_eqi (nI (m_cpi ((40 * y) + a) ((40 * x) + b) k i)) (by rw [m_cpi, if_pos (by omega)]; exact kn_sub2 (by omega)) ?_
                              refine q_istore (lv' := [(9, .int (nI (m_cpi ((40 * y) + a) ((40 * x) + b) k i))), (8, .int (nI i)), (7, .int (nI ((40 * x) + b))), (6, .int (nI ((40 * y) + a))), (0, .ref (B 0)), (1, .int (nI y)), (2, .int (nI a)), (3, .int (nI x)), (4, .int (nI b)), (5, .int (nI k))]) K dX4_copy_164 (by decide) rfl ?_
                              refine q_aload_n K 4 dX4_copy_166 rfl ?_
                              refine q_get (.ref (B 9)) K ws_X4 0 rfl rfl 10 (by decide) fl_X4_34 rfl dX4_copy_167 ?_
                              refine q_iload K 2 dX4_copy_170 rfl ?_
                              refine q_iload K 0 dX4_copy_172 rfl ?_
                              refine q_iadd K dX4_copy_174 ?_
                              refine q_eqi (nI (((40 * x) + b) + (m_cpi ((40 * y) + a) ((40 * x) + b) k i))) (kn_add ((40 * x) + b) (m_cpi ((40 * y) + a) ((40 * x) + b) k i)) ?_
                              refine q_aload_n K 4 dX4_copy_175 rfl ?_
                              refine q_get (.ref (B 9)) K ws_X4 0 rfl rfl 10 (by decide) fl_X4_34 rfl dX4_copy_176 ?_
                              refine q_iload K 3 dX4_copy_179 rfl ?_
                              refine q_iload K 0 dX4_copy_181 rfl ?_
                              refine q_iadd K dX4_copy_183 ?_
                              refine q_eqi (nI (((40 * y) + a) + (m_cpi ((40 * y) + a) ((40 * x) + b) k i))) (kn_add ((40 * y) + a) (m_cpi ((40 * y) + a) ((40 * x) + b) k i)) ?_
                              refine q_iald K 9 rfl (vp_in_nI (n := ((40 * y) + a) + (m_cpi ((40 * y) + a) ((40 * x) + b) k i)) (N := 160) (by omega) (by omega)) dX4_copy_184 ?_
                              refine q_eqi ((m_cp (m_nm (a_S X)) ((40 * y) + a) ((40 * x) + b) k i) (((40 * y) + a) + (m_cpi ((40 * y) + a) ((40 * x) + b) k i))) (by rw [nI_clamp (n := ((40 * y) + a) + (m_cpi ((40 * y) + a) ((40 * x) + b) k i)) (by omega)]) ?_
                              refine q_iast (ws' := (w_M (k_Z M) B X D).set 9 (B 9, .inl ((k_Z M).2.1 0, 160, .inl (upd (m_cp (m_nm (a_S X)) ((40 * y) + a) ((40 * x) + b) k i) (((40 * x) + b) + (m_cpi ((40 * y) + a) ((40 * x) + b) k i)) ((m_cp (m_nm (a_S X)) ((40 * y) + a) ((40 * x) + b) k i) (((40 * y) + a) + (m_cpi ((40 * y) + a) ((40 * x) + b) k i))))))) K 9 rfl (vp_in_nI (n := ((40 * x) + b) + (m_cpi ((40 * y) + a) ((40 * x) + b) k i)) (N := 160) (by omega) (by omega)) (by rw [nI_clamp (n := ((40 * x) + b) + (m_cpi ((40 * y) + a) ((40 * x) + b) k i)) (by omega)] <;> rfl) dX4_copy_185 ?_
                              refine q_iinc (nI (i + 1)) (lv' := [(8, .int (nI (i + 1))), (9, .int (nI (m_cpi ((40 * y) + a) ((40 * x) + b) k i))), (7, .int (nI ((40 * x) + b))), (6, .int (nI ((40 * y) + a))), (0, .ref (B 0)), (1, .int (nI y)), (2, .int (nI a)), (3, .int (nI x)), (4, .int (nI b)), (5, .int (nI k))]) K 1 dX4_copy_186 rfl (kn_inc i) (by decide) rfl ?_
                              refine q_goto 138 K dX4_copy_189 (by decide) ?_
                              refine q_lv [0, 2, 3, 4, 5, 6, 7, 8, 9] rfl ?_
                              exact ih_29 (n_27 - 1) (i + 1) (by omega) (by omega)
                        · refine q_aload_n K 0 dX4_copy_111 rfl ?_
                          refine q_ldc K dX4_copy_112 ct_X4_40 ?_
                          refine q_eqi (r_fin 0) (by decide) ?_
                          refine q_wI (q0 := 0) (As := [.int (r_fin 0)]) (rest := []) K kv_X4_finds (c_X4_finds (k_l M) (k_Z M) B X D 0 (by omega)) rfl rfl ml_X4_48 rfl rfl (Nat.le_of_ble_eq_true rfl) ⟨Nat.le_of_ble_eq_true rfl, Nat.le_of_ble_eq_true rfl⟩ dX4_copy_114 (fun r_33 w2 h_32 => ?_)
                          obtain ⟨e_r_33, rfl⟩ := h_32
                          refine q_eqi (r_fin 0) e_r_33 ?_
                          refine q_ws (ws' := w_M (k_Z M) B (a_F X, a_K X, a_kp X, fd_up (a_fd X) 0, a_tp X, a_S X) D) rfl ?_
                          exact Rt _ _ (r_fin 0) (w_M (k_Z M) B (a_F X, a_K X, a_kp X, fd_up (a_fd X) 0, a_tp X, a_S X) D) dX4_copy_117 rfl (⟨D, by simp only [o_copy, if_pos c_2, if_pos c_6, nI_clamp (n := y) (by omega), nI_clamp (n := x) (by omega), nI_clamp (n := a) (by omega), nI_clamp (n := b) (by omega), nI_clamp (n := k) (by omega), o_copys_no (f := nI a) (t := nI b) (n := nI k) hmy hmx c_13 (fun h9 => c_26 ((s_has_iff hzx c_17 c_20).mp (by rw [← ezx]; exact h9.2)))] <;> rfl, by simp only [o_copy, if_pos c_2, if_pos c_6, nI_clamp (n := y) (by omega), nI_clamp (n := x) (by omega), nI_clamp (n := a) (by omega), nI_clamp (n := b) (by omega), nI_clamp (n := k) (by omega), o_copys_no (f := nI a) (t := nI b) (n := nI k) hmy hmx c_13 (fun h9 => c_26 ((s_has_iff hzx c_17 c_20).mp (by rw [← ezx]; exact h9.2)))] <;> rfl⟩)
              · refine q_aload_n K 0 dX4_copy_62 rfl ?_
                refine q_ldcw K dX4_copy_63 ct_X4_273 ?_
                refine q_eqi (r_fin 2) (by decide) ?_
                refine q_wI (q0 := 0) (As := [.int (r_fin 2)]) (rest := []) K kv_X4_finds (c_X4_finds (k_l M) (k_Z M) B X D 2 (by omega)) rfl rfl ml_X4_48 rfl rfl (Nat.le_of_ble_eq_true rfl) ⟨Nat.le_of_ble_eq_true rfl, Nat.le_of_ble_eq_true rfl⟩ dX4_copy_66 (fun r_35 w2 h_34 => ?_)
                obtain ⟨e_r_35, rfl⟩ := h_34
                refine q_eqi (r_fin 2) e_r_35 ?_
                refine q_ws (ws' := w_M (k_Z M) B (a_F X, a_K X, a_kp X, fd_up (a_fd X) 2, a_tp X, a_S X) D) rfl ?_
                exact Rt _ _ (r_fin 2) (w_M (k_Z M) B (a_F X, a_K X, a_kp X, fd_up (a_fd X) 2, a_tp X, a_S X) D) dX4_copy_69 rfl (⟨D, by simp only [o_copy, o_copys, a_fin, if_pos c_2, if_pos c_6, if_neg hmy, if_neg c_9, if_neg hmx, if_pos c_12, if_neg c_13, nI_clamp (n := y) (by omega), nI_clamp (n := x) (by omega)] <;> rfl, by simp only [o_copy, o_copys, a_fin, if_pos c_2, if_pos c_6, if_neg hmy, if_neg c_9, if_neg hmx, if_pos c_12, if_neg c_13, nI_clamp (n := y) (by omega), nI_clamp (n := x) (by omega)] <;> rfl⟩)
            · exact absurd (bt_ge (hbt x (by omega))) c_12
    · have c_6 : ¬ (inR t 0 3) := (kn_eq e_r_5).mp c_6
      refine q_aload_n K 0 dX4_copy_14 rfl ?_
      refine q_ldc K dX4_copy_15 ct_X4_40 ?_
      refine q_eqi (r_fin 0) (by decide) ?_
      refine q_wI (q0 := 0) (As := [.int (r_fin 0)]) (rest := []) K kv_X4_finds (c_X4_finds (k_l M) (k_Z M) B X D 0 (by omega)) rfl rfl ml_X4_48 rfl rfl (Nat.le_of_ble_eq_true rfl) ⟨Nat.le_of_ble_eq_true rfl, Nat.le_of_ble_eq_true rfl⟩ dX4_copy_17 (fun r_37 w2 h_36 => ?_)
      obtain ⟨e_r_37, rfl⟩ := h_36
      refine q_eqi (r_fin 0) e_r_37 ?_
      refine q_ws (ws' := w_M (k_Z M) B (a_F X, a_K X, a_kp X, fd_up (a_fd X) 0, a_tp X, a_S X) D) rfl ?_
      exact Rt _ _ (r_fin 0) (w_M (k_Z M) B (a_F X, a_K X, a_kp X, fd_up (a_fd X) 0, a_tp X, a_S X) D) dX4_copy_20 rfl (⟨D, by simp only [o_copy, a_fin, if_pos c_2, if_neg c_6, e_r_1, e_r_5, nI_clamp (n := y) (by omega)] <;> rfl, by simp only [o_copy, a_fin, if_pos c_2, if_neg c_6, nI_clamp (n := y) (by omega)] <;> rfl⟩)
theorem kv_X4_copy : k_iv yX4_copy cX4_copy 10 (some .int) 5 := ⟨⟨im_X4_copy, se_X4_copy⟩, in_X4, co_X4_copy, by decide +kernel⟩
