set_option maxHeartbeats 4000000 in
set_option maxRecDepth 100000 in
theorem c_X4_sheet (l : Launch) (Z : kz_Z) (B : Nat → Nat) (X : AS) (D : DJ) (m : Nat) (hm : m ≤ 8) (hm2 : f_wk (a_F X) = nI m) (hok : f_ok (a_F X)) (hsh : a_shok X) (hbt : a_btok X) (s bits n : Int32) : KI l Z yX4_sheet cX4_sheet 5 .int 1 21 [.ref (B 0), .int s, .int bits, .int n] (w_M Z B X D) (fun r w2 => ∃ D2, r = (o_sheet X s bits n).1 ∧ w2 = w_M Z B (o_sheet X s bits n).2 D2) := by
  refine ki_of (by decide) [(0, .ref (B 0)), (1, .int s), (2, .int bits), (3, .int n)] (Nat.le_of_ble_eq_true rfl) rfl ?_
  intro M e1 e2 K Rt
  subst e1 e2
  refine q_iload_n K 1 dX4_sheet_0 rfl ?_
  refine q_cp (rest := []) K ks_X4_isSheet (c_X4_isSheet (k_l M) (k_Z M) s) ml_X4_274 rfl rfl (Nat.le_of_ble_eq_true rfl) ⟨Nat.le_of_ble_eq_true rfl, Nat.le_of_ble_eq_true rfl⟩ dX4_sheet_1 (fun r_1 e_r_1 => ?_)
  refine q_if_eq 29 K dX4_sheet_4 (by decide) (fun c_2 => ?_) (fun c_2 => ?_)
  · have c_2 : ¬ (inR s 0 3) := (kn_eq e_r_1).mp c_2
    refine q_aload_n K 0 dX4_sheet_29 rfl ?_
    refine q_ldc K dX4_sheet_30 ct_X4_40 ?_
    refine q_eqi (r_fin 0) (by decide) ?_
    refine q_wI (q0 := 0) (As := [.int (r_fin 0)]) (rest := []) K kv_X4_finds (c_X4_finds (k_l M) (k_Z M) B X D 0 (by omega)) rfl rfl ml_X4_48 rfl rfl (Nat.le_of_ble_eq_true rfl) ⟨Nat.le_of_ble_eq_true rfl, Nat.le_of_ble_eq_true rfl⟩ dX4_sheet_32 (fun r_4 w2 h_3 => ?_)
    obtain ⟨e_r_4, rfl⟩ := h_3
    refine q_eqi (r_fin 0) e_r_4 ?_
    refine q_ws (ws' := w_M (k_Z M) B (a_F X, a_K X, a_kp X, fd_up (a_fd X) 0, a_tp X, a_S X) D) rfl ?_
    exact Rt _ _ (r_fin 0) (w_M (k_Z M) B (a_F X, a_K X, a_kp X, fd_up (a_fd X) 0, a_tp X, a_S X) D) dX4_sheet_35 rfl (⟨D, by simp only [o_sheet, a_fin, if_neg c_2, e_r_1] <;> rfl, by simp only [o_sheet, a_fin, if_neg c_2] <;> rfl⟩)
  · have c_2 : inR s 0 3 := (kn_ne e_r_1).mp c_2
    obtain ⟨t, h_t, e_t⟩ := kn_rng (n := 3) c_2 rfl
    subst e_t
    obtain ⟨zt, hzt, ezt⟩ := hsh t (by omega)
    refine q_iload_n K 2 dX4_sheet_7 rfl ?_
    refine q_if_eq 36 K dX4_sheet_8 (by decide) (fun c_5 => ?_) (fun c_5 => ?_)
    · subst c_5
      have hbits : isBits 0 := by decide
      refine q_iload_n K 3 dX4_sheet_36 rfl ?_
      refine q_if_ge 48 K dX4_sheet_37 (by decide) (fun c_6 => ?_) (fun c_6 => ?_)
      · refine q_iload_n K 3 dX4_sheet_48 rfl ?_
        refine q_bipush 40 K dX4_sheet_49 rfl ?_
        refine q_icmp_le 61 K dX4_sheet_51 (by decide) (fun c_7 => ?_) (fun c_7 => ?_)
        · refine q_aload_n K 0 dX4_sheet_61 rfl ?_
          refine q_get (.ref (B 7)) K ws_X4 0 rfl rfl 8 (by decide) fl_X4_28 rfl dX4_sheet_62 ?_
          refine q_iload_n K 1 dX4_sheet_65 rfl ?_
          refine q_iload_n K 2 dX4_sheet_66 rfl ?_
          refine q_if_ne 74 K dX4_sheet_67 (by decide) (fun c_0 => absurd c_0 (by decide)) (fun c_0 => ?_)
          refine q_iconst (-1) K dX4_sheet_70 rfl ?_
          refine q_goto 75 K dX4_sheet_71 (by decide) ?_
          refine q_iast (ws' := (w_M (k_Z M) B X D).set 7 (B 7, .inl ((k_Z M).2.1 0, 4, .inl (upd (m_bt (a_S X)) t (-1))))) K 7 rfl (vp_in_nI (n := t) (N := 4) (by omega) (by omega)) (by rw [nI_clamp (n := t) (by omega)] <;> rfl) dX4_sheet_75 ?_
          refine q_aload_n K 0 dX4_sheet_76 rfl ?_
          refine q_get (.ref (B 8)) K ws_X4 0 rfl rfl 9 (by decide) fl_X4_31 rfl dX4_sheet_77 ?_
          refine q_iload_n K 1 dX4_sheet_80 rfl ?_
          refine q_iload_n K 2 dX4_sheet_81 rfl ?_
          refine q_if_ne 89 K dX4_sheet_82 (by decide) (fun c_0 => absurd c_0 (by decide)) (fun c_0 => ?_)
          refine q_iconst 0 K dX4_sheet_85 rfl ?_
          refine q_goto 90 K dX4_sheet_86 (by decide) ?_
          refine q_iast (ws' := ((w_M (k_Z M) B X D).set 7 (B 7, .inl ((k_Z M).2.1 0, 4, .inl (upd (m_bt (a_S X)) t (-1))))).set 8 (B 8, .inl ((k_Z M).2.1 0, 4, .inl (upd (m_sz (a_S X)) t 0)))) K 8 rfl (vp_in_nI (n := t) (N := 4) (by omega) (by omega)) (by rw [nI_clamp (n := t) (by omega)] <;> rfl) dX4_sheet_90 ?_
          refine q_iconst 0 K dX4_sheet_91 rfl ?_
          refine q_ws (ws' := (((w_M (k_Z M) B X D).set 7 (B 7, .inl ((k_Z M).2.1 0, 4, .inl (upd (m_bt (a_S X)) t (-1))))).set 8 (B 8, .inl ((k_Z M).2.1 0, 4, .inl (upd (m_sz (a_S X)) t 0)))).set 9 (B 9, .inl ((k_Z M).2.1 0, 160, .inl (m_clr (m_nm (a_S X)) t 0)))) rfl ?_
          refine q_istore (lv' := [(4, .int 0), (0, .ref (B 0)), (1, .int (nI t)), (2, .int 0), (3, .int n)]) K dX4_sheet_92 (by decide) rfl ?_
          refine q_loop (α := Nat) (fun n9 i => i + n9 = 40) 94 (fun i => [(4, .int (nI i)), (0, .ref (B 0)), (1, .int (nI t)), (2, .int 0), (3, .int n)]) (fun i => (((w_M (k_Z M) B X D).set 7 (B 7, .inl ((k_Z M).2.1 0, 4, .inl (upd (m_bt (a_S X)) t (-1))))).set 8 (B 8, .inl ((k_Z M).2.1 0, 4, .inl (upd (m_sz (a_S X)) t 0)))).set 9 (B 9, .inl ((k_Z M).2.1 0, 160, .inl (m_clr (m_nm (a_S X)) t i)))) (fun n_8 i hI_9 ih_10 => ?_) 40 0 rfl
          refine q_iload K 0 dX4_sheet_94 rfl ?_
          refine q_bipush 40 K dX4_sheet_96 rfl ?_
          refine q_icmp_ge 120 K dX4_sheet_98 (by decide) (fun c_11 => ?_) (fun c_11 => ?_)
          · have c_11n : 40 ≤ i := (nI_leI (a := 40) (b := i) (by omega) (by omega)).mp c_11
            refine q_ws (ws' := w_M (k_Z M) B (a_F X, a_K X, a_kp X, a_fd X, a_tp X, k_upS (a_S X) t (s_clr (a_S X t) 40, 0, 0)) D) (wM_sh (m_bt_up (a_S X) t _ 0 0) (m_sz_up (a_S X) t _ 0 0) (by rw [show i = 40 by omega]; exact m_nm_clr (a_S X) t 0 0)) ?_
            refine q_aload_n K 1 dX4_sheet_120 rfl ?_
            refine q_get (.ref (B 8)) K ws_X4 0 rfl rfl 9 (by decide) fl_X4_31 rfl dX4_sheet_121 ?_
            refine q_iload_n K 2 dX4_sheet_124 rfl ?_
            refine q_iald K 8 rfl (vp_in_nI (n := t) (N := 4) (by omega) (by omega)) dX4_sheet_125 ?_
            refine q_eqi ((m_sz (k_upS (a_S X) t (s_clr (a_S X t) 40, 0, 0))) t) (by rw [nI_clamp (n := t) (by omega)]) ?_
            refine q_eqi 0 (congrArg s_sz (if_pos rfl)) ?_
            exact Rt _ _ 0 (w_M (k_Z M) B (a_F X, a_K X, a_kp X, a_fd X, a_tp X, k_upS (a_S X) t (s_clr (a_S X t) 40, 0, 0)) D) dX4_sheet_126 rfl (⟨D, by simp only [o_sheet, a_fin, if_pos hbits, if_pos c_2, if_pos c_6, if_pos c_7, if_pos c_11, nI_clamp (n := t) (by omega), if_pos (show (0 : Int32) = 0 from rfl)] <;> rfl, by simp only [o_sheet, a_fin, if_pos hbits, if_pos c_2, if_pos c_6, if_pos c_7, if_pos c_11, nI_clamp (n := t) (by omega), if_pos (show (0 : Int32) = 0 from rfl)] <;> rfl⟩)
          · have c_11n : ¬ (40 ≤ i) := fun h9 => c_11 ((nI_leI (a := 40) (b := i) (by omega) (by omega)).mpr h9)
            refine q_aload_n K 1 dX4_sheet_101 rfl ?_
            refine q_get (.ref (B 9)) K ws_X4 0 rfl rfl 10 (by decide) fl_X4_34 rfl dX4_sheet_102 ?_
            refine q_bipush 40 K dX4_sheet_105 rfl ?_
            refine q_iload_n K 2 dX4_sheet_107 rfl ?_
            refine q_imul K dX4_sheet_108 ?_
            refine q_eqi (nI (40 * t)) (pk_mul 40 t) ?_
            refine q_iload K 0 dX4_sheet_109 rfl ?_
            refine q_iadd K dX4_sheet_111 ?_
            refine q_eqi (nI ((40 * t) + i)) (kn_add (40 * t) i) ?_
            refine q_iconst 0 K dX4_sheet_112 rfl ?_
            refine q_iast (ws' := (((w_M (k_Z M) B X D).set 7 (B 7, .inl ((k_Z M).2.1 0, 4, .inl (upd (m_bt (a_S X)) t (-1))))).set 8 (B 8, .inl ((k_Z M).2.1 0, 4, .inl (upd (m_sz (a_S X)) t 0)))).set 9 (B 9, .inl ((k_Z M).2.1 0, 160, .inl (upd (m_clr (m_nm (a_S X)) t i) ((40 * t) + i) 0)))) K 9 rfl (vp_in_nI (n := (40 * t) + i) (N := 160) (by omega) (by omega)) (by rw [nI_clamp (n := (40 * t) + i) (by omega)] <;> rfl) dX4_sheet_113 ?_
            refine q_iinc (nI (i + 1)) (lv' := [(4, .int (nI (i + 1))), (0, .ref (B 0)), (1, .int (nI t)), (2, .int 0), (3, .int n)]) K 0 dX4_sheet_114 rfl (kn_inc i) (by decide) rfl ?_
            refine q_goto 94 K dX4_sheet_117 (by decide) ?_
            exact ih_10 (n_8 - 1) (i + 1) (by omega) (by omega)
        · refine q_aload_n K 0 dX4_sheet_54 rfl ?_
          refine q_ldc K dX4_sheet_55 ct_X4_40 ?_
          refine q_eqi (r_fin 0) (by decide) ?_
          refine q_wI (q0 := 0) (As := [.int (r_fin 0)]) (rest := []) K kv_X4_finds (c_X4_finds (k_l M) (k_Z M) B X D 0 (by omega)) rfl rfl ml_X4_48 rfl rfl (Nat.le_of_ble_eq_true rfl) ⟨Nat.le_of_ble_eq_true rfl, Nat.le_of_ble_eq_true rfl⟩ dX4_sheet_57 (fun r_13 w2 h_12 => ?_)
          obtain ⟨e_r_13, rfl⟩ := h_12
          refine q_eqi (r_fin 0) e_r_13 ?_
          refine q_ws (ws' := w_M (k_Z M) B (a_F X, a_K X, a_kp X, fd_up (a_fd X) 0, a_tp X, a_S X) D) rfl ?_
          exact Rt _ _ (r_fin 0) (w_M (k_Z M) B (a_F X, a_K X, a_kp X, fd_up (a_fd X) 0, a_tp X, a_S X) D) dX4_sheet_60 rfl (⟨D, by simp only [o_sheet, a_fin, if_pos hbits, if_pos c_2, if_pos c_6, if_neg c_7, nI_clamp (n := t) (by omega), if_pos (show (0 : Int32) = 0 from rfl)] <;> rfl, by simp only [o_sheet, a_fin, if_pos hbits, if_pos c_2, if_pos c_6, if_neg c_7, nI_clamp (n := t) (by omega), if_pos (show (0 : Int32) = 0 from rfl)] <;> rfl⟩)
      · refine q_aload_n K 0 dX4_sheet_40 rfl ?_
        refine q_ldcw K dX4_sheet_41 ct_X4_277 ?_
        refine q_eqi (r_fin 6) (by decide) ?_
        refine q_wI (q0 := 0) (As := [.int (r_fin 6)]) (rest := []) K kv_X4_finds (c_X4_finds (k_l M) (k_Z M) B X D 6 (by omega)) rfl rfl ml_X4_48 rfl rfl (Nat.le_of_ble_eq_true rfl) ⟨Nat.le_of_ble_eq_true rfl, Nat.le_of_ble_eq_true rfl⟩ dX4_sheet_44 (fun r_15 w2 h_14 => ?_)
        obtain ⟨e_r_15, rfl⟩ := h_14
        refine q_eqi (r_fin 6) e_r_15 ?_
        refine q_ws (ws' := w_M (k_Z M) B (a_F X, a_K X, a_kp X, fd_up (a_fd X) 6, a_tp X, a_S X) D) rfl ?_
        exact Rt _ _ (r_fin 6) (w_M (k_Z M) B (a_F X, a_K X, a_kp X, fd_up (a_fd X) 6, a_tp X, a_S X) D) dX4_sheet_47 rfl (⟨D, by simp only [o_sheet, a_fin, if_pos hbits, if_pos c_2, if_neg c_6, nI_clamp (n := t) (by omega), if_pos (show (0 : Int32) = 0 from rfl)] <;> rfl, by simp only [o_sheet, a_fin, if_pos hbits, if_pos c_2, if_neg c_6, nI_clamp (n := t) (by omega), if_pos (show (0 : Int32) = 0 from rfl)] <;> rfl⟩)
    · refine q_iload_n K 2 dX4_sheet_11 rfl ?_
      refine q_bipush 8 K dX4_sheet_12 rfl ?_
      refine q_icmp_eq 36 K dX4_sheet_14 (by decide) (fun c_16 => ?_) (fun c_16 => ?_)
      · subst c_16
        have hbits : isBits 8 := by decide
        refine q_iload_n K 3 dX4_sheet_36 rfl ?_
        refine q_if_ge 48 K dX4_sheet_37 (by decide) (fun c_17 => ?_) (fun c_17 => ?_)
        · refine q_iload_n K 3 dX4_sheet_48 rfl ?_
          refine q_bipush 40 K dX4_sheet_49 rfl ?_
          refine q_icmp_le 61 K dX4_sheet_51 (by decide) (fun c_18 => ?_) (fun c_18 => ?_)
          · refine q_aload_n K 0 dX4_sheet_61 rfl ?_
            refine q_get (.ref (B 7)) K ws_X4 0 rfl rfl 8 (by decide) fl_X4_28 rfl dX4_sheet_62 ?_
            refine q_iload_n K 1 dX4_sheet_65 rfl ?_
            refine q_iload_n K 2 dX4_sheet_66 rfl ?_
            refine q_if_ne 74 K dX4_sheet_67 (by decide) (fun c_0 => ?_) (fun c_0 => absurd c_0 (by decide))
            refine q_iload_n K 2 dX4_sheet_74 rfl ?_
            refine q_iast (ws' := (w_M (k_Z M) B X D).set 7 (B 7, .inl ((k_Z M).2.1 0, 4, .inl (upd (m_bt (a_S X)) t 8)))) K 7 rfl (vp_in_nI (n := t) (N := 4) (by omega) (by omega)) (by rw [nI_clamp (n := t) (by omega)] <;> rfl) dX4_sheet_75 ?_
            refine q_aload_n K 0 dX4_sheet_76 rfl ?_
            refine q_get (.ref (B 8)) K ws_X4 0 rfl rfl 9 (by decide) fl_X4_31 rfl dX4_sheet_77 ?_
            refine q_iload_n K 1 dX4_sheet_80 rfl ?_
            refine q_iload_n K 2 dX4_sheet_81 rfl ?_
            refine q_if_ne 89 K dX4_sheet_82 (by decide) (fun c_0 => ?_) (fun c_0 => absurd c_0 (by decide))
            refine q_iload_n K 3 dX4_sheet_89 rfl ?_
            refine q_iast (ws' := ((w_M (k_Z M) B X D).set 7 (B 7, .inl ((k_Z M).2.1 0, 4, .inl (upd (m_bt (a_S X)) t 8)))).set 8 (B 8, .inl ((k_Z M).2.1 0, 4, .inl (upd (m_sz (a_S X)) t n)))) K 8 rfl (vp_in_nI (n := t) (N := 4) (by omega) (by omega)) (by rw [nI_clamp (n := t) (by omega)] <;> rfl) dX4_sheet_90 ?_
            refine q_iconst 0 K dX4_sheet_91 rfl ?_
            refine q_ws (ws' := (((w_M (k_Z M) B X D).set 7 (B 7, .inl ((k_Z M).2.1 0, 4, .inl (upd (m_bt (a_S X)) t 8)))).set 8 (B 8, .inl ((k_Z M).2.1 0, 4, .inl (upd (m_sz (a_S X)) t n)))).set 9 (B 9, .inl ((k_Z M).2.1 0, 160, .inl (m_clr (m_nm (a_S X)) t 0)))) rfl ?_
            refine q_istore (lv' := [(4, .int 0), (0, .ref (B 0)), (1, .int (nI t)), (2, .int 8), (3, .int n)]) K dX4_sheet_92 (by decide) rfl ?_
            refine q_loop (α := Nat) (fun n9 i => i + n9 = 40) 94 (fun i => [(4, .int (nI i)), (0, .ref (B 0)), (1, .int (nI t)), (2, .int 8), (3, .int n)]) (fun i => (((w_M (k_Z M) B X D).set 7 (B 7, .inl ((k_Z M).2.1 0, 4, .inl (upd (m_bt (a_S X)) t 8)))).set 8 (B 8, .inl ((k_Z M).2.1 0, 4, .inl (upd (m_sz (a_S X)) t n)))).set 9 (B 9, .inl ((k_Z M).2.1 0, 160, .inl (m_clr (m_nm (a_S X)) t i)))) (fun n_19 i hI_20 ih_21 => ?_) 40 0 rfl
            refine q_iload K 0 dX4_sheet_94 rfl ?_
            refine q_bipush 40 K dX4_sheet_96 rfl ?_
            refine q_icmp_ge 120 K dX4_sheet_98 (by decide) (fun c_22 => ?_) (fun c_22 => ?_)
            · have c_22n : 40 ≤ i := (nI_leI (a := 40) (b := i) (by omega) (by omega)).mp c_22
              refine q_ws (ws' := w_M (k_Z M) B (a_F X, a_K X, a_kp X, a_fd X, a_tp X, k_upS (a_S X) t (s_clr (a_S X t) 40, 8, n)) D) (wM_sh (m_bt_up (a_S X) t _ 8 n) (m_sz_up (a_S X) t _ 8 n) (by rw [show i = 40 by omega]; exact m_nm_clr (a_S X) t 8 n)) ?_
              refine q_aload_n K 1 dX4_sheet_120 rfl ?_
              refine q_get (.ref (B 8)) K ws_X4 0 rfl rfl 9 (by decide) fl_X4_31 rfl dX4_sheet_121 ?_
              refine q_iload_n K 2 dX4_sheet_124 rfl ?_
              refine q_iald K 8 rfl (vp_in_nI (n := t) (N := 4) (by omega) (by omega)) dX4_sheet_125 ?_
              refine q_eqi ((m_sz (k_upS (a_S X) t (s_clr (a_S X t) 40, 8, n))) t) (by rw [nI_clamp (n := t) (by omega)]) ?_
              refine q_eqi n (congrArg s_sz (if_pos rfl)) ?_
              exact Rt _ _ n (w_M (k_Z M) B (a_F X, a_K X, a_kp X, a_fd X, a_tp X, k_upS (a_S X) t (s_clr (a_S X t) 40, 8, n)) D) dX4_sheet_126 rfl (⟨D, by simp only [o_sheet, a_fin, if_pos hbits, if_pos c_2, if_pos c_17, if_pos c_18, if_pos c_22, nI_clamp (n := t) (by omega), if_neg (show ¬ (8 : Int32) = 0 by decide)] <;> rfl, by simp only [o_sheet, a_fin, if_pos hbits, if_pos c_2, if_pos c_17, if_pos c_18, if_pos c_22, nI_clamp (n := t) (by omega), if_neg (show ¬ (8 : Int32) = 0 by decide)] <;> rfl⟩)
            · have c_22n : ¬ (40 ≤ i) := fun h9 => c_22 ((nI_leI (a := 40) (b := i) (by omega) (by omega)).mpr h9)
              refine q_aload_n K 1 dX4_sheet_101 rfl ?_
              refine q_get (.ref (B 9)) K ws_X4 0 rfl rfl 10 (by decide) fl_X4_34 rfl dX4_sheet_102 ?_
              refine q_bipush 40 K dX4_sheet_105 rfl ?_
              refine q_iload_n K 2 dX4_sheet_107 rfl ?_
              refine q_imul K dX4_sheet_108 ?_
              refine q_eqi (nI (40 * t)) (pk_mul 40 t) ?_
              refine q_iload K 0 dX4_sheet_109 rfl ?_
              refine q_iadd K dX4_sheet_111 ?_
              refine q_eqi (nI ((40 * t) + i)) (kn_add (40 * t) i) ?_
              refine q_iconst 0 K dX4_sheet_112 rfl ?_
              refine q_iast (ws' := (((w_M (k_Z M) B X D).set 7 (B 7, .inl ((k_Z M).2.1 0, 4, .inl (upd (m_bt (a_S X)) t 8)))).set 8 (B 8, .inl ((k_Z M).2.1 0, 4, .inl (upd (m_sz (a_S X)) t n)))).set 9 (B 9, .inl ((k_Z M).2.1 0, 160, .inl (upd (m_clr (m_nm (a_S X)) t i) ((40 * t) + i) 0)))) K 9 rfl (vp_in_nI (n := (40 * t) + i) (N := 160) (by omega) (by omega)) (by rw [nI_clamp (n := (40 * t) + i) (by omega)] <;> rfl) dX4_sheet_113 ?_
              refine q_iinc (nI (i + 1)) (lv' := [(4, .int (nI (i + 1))), (0, .ref (B 0)), (1, .int (nI t)), (2, .int 8), (3, .int n)]) K 0 dX4_sheet_114 rfl (kn_inc i) (by decide) rfl ?_
              refine q_goto 94 K dX4_sheet_117 (by decide) ?_
              exact ih_21 (n_19 - 1) (i + 1) (by omega) (by omega)
          · refine q_aload_n K 0 dX4_sheet_54 rfl ?_
            refine q_ldc K dX4_sheet_55 ct_X4_40 ?_
            refine q_eqi (r_fin 0) (by decide) ?_
            refine q_wI (q0 := 0) (As := [.int (r_fin 0)]) (rest := []) K kv_X4_finds (c_X4_finds (k_l M) (k_Z M) B X D 0 (by omega)) rfl rfl ml_X4_48 rfl rfl (Nat.le_of_ble_eq_true rfl) ⟨Nat.le_of_ble_eq_true rfl, Nat.le_of_ble_eq_true rfl⟩ dX4_sheet_57 (fun r_24 w2 h_23 => ?_)
            obtain ⟨e_r_24, rfl⟩ := h_23
            refine q_eqi (r_fin 0) e_r_24 ?_
            refine q_ws (ws' := w_M (k_Z M) B (a_F X, a_K X, a_kp X, fd_up (a_fd X) 0, a_tp X, a_S X) D) rfl ?_
            exact Rt _ _ (r_fin 0) (w_M (k_Z M) B (a_F X, a_K X, a_kp X, fd_up (a_fd X) 0, a_tp X, a_S X) D) dX4_sheet_60 rfl (⟨D, by simp only [o_sheet, a_fin, if_pos hbits, if_pos c_2, if_pos c_17, if_neg c_18, nI_clamp (n := t) (by omega), if_neg (show ¬ (8 : Int32) = 0 by decide)] <;> rfl, by simp only [o_sheet, a_fin, if_pos hbits, if_pos c_2, if_pos c_17, if_neg c_18, nI_clamp (n := t) (by omega), if_neg (show ¬ (8 : Int32) = 0 by decide)] <;> rfl⟩)
        · refine q_aload_n K 0 dX4_sheet_40 rfl ?_
          refine q_ldcw K dX4_sheet_41 ct_X4_277 ?_
          refine q_eqi (r_fin 6) (by decide) ?_
          refine q_wI (q0 := 0) (As := [.int (r_fin 6)]) (rest := []) K kv_X4_finds (c_X4_finds (k_l M) (k_Z M) B X D 6 (by omega)) rfl rfl ml_X4_48 rfl rfl (Nat.le_of_ble_eq_true rfl) ⟨Nat.le_of_ble_eq_true rfl, Nat.le_of_ble_eq_true rfl⟩ dX4_sheet_44 (fun r_26 w2 h_25 => ?_)
          obtain ⟨e_r_26, rfl⟩ := h_25
          refine q_eqi (r_fin 6) e_r_26 ?_
          refine q_ws (ws' := w_M (k_Z M) B (a_F X, a_K X, a_kp X, fd_up (a_fd X) 6, a_tp X, a_S X) D) rfl ?_
          exact Rt _ _ (r_fin 6) (w_M (k_Z M) B (a_F X, a_K X, a_kp X, fd_up (a_fd X) 6, a_tp X, a_S X) D) dX4_sheet_47 rfl (⟨D, by simp only [o_sheet, a_fin, if_pos hbits, if_pos c_2, if_neg c_17, nI_clamp (n := t) (by omega), if_neg (show ¬ (8 : Int32) = 0 by decide)] <;> rfl, by simp only [o_sheet, a_fin, if_pos hbits, if_pos c_2, if_neg c_17, nI_clamp (n := t) (by omega), if_neg (show ¬ (8 : Int32) = 0 by decide)] <;> rfl⟩)
      · refine q_iload_n K 2 dX4_sheet_17 rfl ?_
        refine q_bipush 16 K dX4_sheet_18 rfl ?_
        refine q_icmp_eq 36 K dX4_sheet_20 (by decide) (fun c_27 => ?_) (fun c_27 => ?_)
        · subst c_27
          have hbits : isBits 16 := by decide
          refine q_iload_n K 3 dX4_sheet_36 rfl ?_
          refine q_if_ge 48 K dX4_sheet_37 (by decide) (fun c_28 => ?_) (fun c_28 => ?_)
          · refine q_iload_n K 3 dX4_sheet_48 rfl ?_
            refine q_bipush 40 K dX4_sheet_49 rfl ?_
            refine q_icmp_le 61 K dX4_sheet_51 (by decide) (fun c_29 => ?_) (fun c_29 => ?_)
            · refine q_aload_n K 0 dX4_sheet_61 rfl ?_
              refine q_get (.ref (B 7)) K ws_X4 0 rfl rfl 8 (by decide) fl_X4_28 rfl dX4_sheet_62 ?_
              refine q_iload_n K 1 dX4_sheet_65 rfl ?_
              refine q_iload_n K 2 dX4_sheet_66 rfl ?_
              refine q_if_ne 74 K dX4_sheet_67 (by decide) (fun c_0 => ?_) (fun c_0 => absurd c_0 (by decide))
              refine q_iload_n K 2 dX4_sheet_74 rfl ?_
              refine q_iast (ws' := (w_M (k_Z M) B X D).set 7 (B 7, .inl ((k_Z M).2.1 0, 4, .inl (upd (m_bt (a_S X)) t 16)))) K 7 rfl (vp_in_nI (n := t) (N := 4) (by omega) (by omega)) (by rw [nI_clamp (n := t) (by omega)] <;> rfl) dX4_sheet_75 ?_
              refine q_aload_n K 0 dX4_sheet_76 rfl ?_
              refine q_get (.ref (B 8)) K ws_X4 0 rfl rfl 9 (by decide) fl_X4_31 rfl dX4_sheet_77 ?_
              refine q_iload_n K 1 dX4_sheet_80 rfl ?_
              refine q_iload_n K 2 dX4_sheet_81 rfl ?_
              refine q_if_ne 89 K dX4_sheet_82 (by decide) (fun c_0 => ?_) (fun c_0 => absurd c_0 (by decide))
              refine q_iload_n K 3 dX4_sheet_89 rfl ?_
              refine q_iast (ws' := ((w_M (k_Z M) B X D).set 7 (B 7, .inl ((k_Z M).2.1 0, 4, .inl (upd (m_bt (a_S X)) t 16)))).set 8 (B 8, .inl ((k_Z M).2.1 0, 4, .inl (upd (m_sz (a_S X)) t n)))) K 8 rfl (vp_in_nI (n := t) (N := 4) (by omega) (by omega)) (by rw [nI_clamp (n := t) (by omega)] <;> rfl) dX4_sheet_90 ?_
              refine q_iconst 0 K dX4_sheet_91 rfl ?_
              refine q_ws (ws' := (((w_M (k_Z M) B X D).set 7 (B 7, .inl ((k_Z M).2.1 0, 4, .inl (upd (m_bt (a_S X)) t 16)))).set 8 (B 8, .inl ((k_Z M).2.1 0, 4, .inl (upd (m_sz (a_S X)) t n)))).set 9 (B 9, .inl ((k_Z M).2.1 0, 160, .inl (m_clr (m_nm (a_S X)) t 0)))) rfl ?_
              refine q_istore (lv' := [(4, .int 0), (0, .ref (B 0)), (1, .int (nI t)), (2, .int 16), (3, .int n)]) K dX4_sheet_92 (by decide) rfl ?_
              refine q_loop (α := Nat) (fun n9 i => i + n9 = 40) 94 (fun i => [(4, .int (nI i)), (0, .ref (B 0)), (1, .int (nI t)), (2, .int 16), (3, .int n)]) (fun i => (((w_M (k_Z M) B X D).set 7 (B 7, .inl ((k_Z M).2.1 0, 4, .inl (upd (m_bt (a_S X)) t 16)))).set 8 (B 8, .inl ((k_Z M).2.1 0, 4, .inl (upd (m_sz (a_S X)) t n)))).set 9 (B 9, .inl ((k_Z M).2.1 0, 160, .inl (m_clr (m_nm (a_S X)) t i)))) (fun n_30 i hI_31 ih_32 => ?_) 40 0 rfl
              refine q_iload K 0 dX4_sheet_94 rfl ?_
              refine q_bipush 40 K dX4_sheet_96 rfl ?_
              refine q_icmp_ge 120 K dX4_sheet_98 (by decide) (fun c_33 => ?_) (fun c_33 => ?_)
              · have c_33n : 40 ≤ i := (nI_leI (a := 40) (b := i) (by omega) (by omega)).mp c_33
                refine q_ws (ws' := w_M (k_Z M) B (a_F X, a_K X, a_kp X, a_fd X, a_tp X, k_upS (a_S X) t (s_clr (a_S X t) 40, 16, n)) D) (wM_sh (m_bt_up (a_S X) t _ 16 n) (m_sz_up (a_S X) t _ 16 n) (by rw [show i = 40 by omega]; exact m_nm_clr (a_S X) t 16 n)) ?_
                refine q_aload_n K 1 dX4_sheet_120 rfl ?_
                refine q_get (.ref (B 8)) K ws_X4 0 rfl rfl 9 (by decide) fl_X4_31 rfl dX4_sheet_121 ?_
                refine q_iload_n K 2 dX4_sheet_124 rfl ?_
                refine q_iald K 8 rfl (vp_in_nI (n := t) (N := 4) (by omega) (by omega)) dX4_sheet_125 ?_
                refine q_eqi ((m_sz (k_upS (a_S X) t (s_clr (a_S X t) 40, 16, n))) t) (by rw [nI_clamp (n := t) (by omega)]) ?_
                refine q_eqi n (congrArg s_sz (if_pos rfl)) ?_
                exact Rt _ _ n (w_M (k_Z M) B (a_F X, a_K X, a_kp X, a_fd X, a_tp X, k_upS (a_S X) t (s_clr (a_S X t) 40, 16, n)) D) dX4_sheet_126 rfl (⟨D, by simp only [o_sheet, a_fin, if_pos hbits, if_pos c_2, if_pos c_28, if_pos c_29, if_pos c_33, nI_clamp (n := t) (by omega), if_neg (show ¬ (16 : Int32) = 0 by decide)] <;> rfl, by simp only [o_sheet, a_fin, if_pos hbits, if_pos c_2, if_pos c_28, if_pos c_29, if_pos c_33, nI_clamp (n := t) (by omega), if_neg (show ¬ (16 : Int32) = 0 by decide)] <;> rfl⟩)
              · have c_33n : ¬ (40 ≤ i) := fun h9 => c_33 ((nI_leI (a := 40) (b := i) (by omega) (by omega)).mpr h9)
                refine q_aload_n K 1 dX4_sheet_101 rfl ?_
                refine q_get (.ref (B 9)) K ws_X4 0 rfl rfl 10 (by decide) fl_X4_34 rfl dX4_sheet_102 ?_
                refine q_bipush 40 K dX4_sheet_105 rfl ?_
                refine q_iload_n K 2 dX4_sheet_107 rfl ?_
                refine q_imul K dX4_sheet_108 ?_
                refine q_eqi (nI (40 * t)) (pk_mul 40 t) ?_
                refine q_iload K 0 dX4_sheet_109 rfl ?_
                refine q_iadd K dX4_sheet_111 ?_
                refine q_eqi (nI ((40 * t) + i)) (kn_add (40 * t) i) ?_
                refine q_iconst 0 K dX4_sheet_112 rfl ?_
                refine q_iast (ws' := (((w_M (k_Z M) B X D).set 7 (B 7, .inl ((k_Z M).2.1 0, 4, .inl (upd (m_bt (a_S X)) t 16)))).set 8 (B 8, .inl ((k_Z M).2.1 0, 4, .inl (upd (m_sz (a_S X)) t n)))).set 9 (B 9, .inl ((k_Z M).2.1 0, 160, .inl (upd (m_clr (m_nm (a_S X)) t i) ((40 * t) + i) 0)))) K 9 rfl (vp_in_nI (n := (40 * t) + i) (N := 160) (by omega) (by omega)) (by rw [nI_clamp (n := (40 * t) + i) (by omega)] <;> rfl) dX4_sheet_113 ?_
                refine q_iinc (nI (i + 1)) (lv' := [(4, .int (nI (i + 1))), (0, .ref (B 0)), (1, .int (nI t)), (2, .int 16), (3, .int n)]) K 0 dX4_sheet_114 rfl (kn_inc i) (by decide) rfl ?_
                refine q_goto 94 K dX4_sheet_117 (by decide) ?_
                exact ih_32 (n_30 - 1) (i + 1) (by omega) (by omega)
            · refine q_aload_n K 0 dX4_sheet_54 rfl ?_
              refine q_ldc K dX4_sheet_55 ct_X4_40 ?_
              refine q_eqi (r_fin 0) (by decide) ?_
              refine q_wI (q0 := 0) (As := [.int (r_fin 0)]) (rest := []) K kv_X4_finds (c_X4_finds (k_l M) (k_Z M) B X D 0 (by omega)) rfl rfl ml_X4_48 rfl rfl (Nat.le_of_ble_eq_true rfl) ⟨Nat.le_of_ble_eq_true rfl, Nat.le_of_ble_eq_true rfl⟩ dX4_sheet_57 (fun r_35 w2 h_34 => ?_)
              obtain ⟨e_r_35, rfl⟩ := h_34
              refine q_eqi (r_fin 0) e_r_35 ?_
              refine q_ws (ws' := w_M (k_Z M) B (a_F X, a_K X, a_kp X, fd_up (a_fd X) 0, a_tp X, a_S X) D) rfl ?_
              exact Rt _ _ (r_fin 0) (w_M (k_Z M) B (a_F X, a_K X, a_kp X, fd_up (a_fd X) 0, a_tp X, a_S X) D) dX4_sheet_60 rfl (⟨D, by simp only [o_sheet, a_fin, if_pos hbits, if_pos c_2, if_pos c_28, if_neg c_29, nI_clamp (n := t) (by omega), if_neg (show ¬ (16 : Int32) = 0 by decide)] <;> rfl, by simp only [o_sheet, a_fin, if_pos hbits, if_pos c_2, if_pos c_28, if_neg c_29, nI_clamp (n := t) (by omega), if_neg (show ¬ (16 : Int32) = 0 by decide)] <;> rfl⟩)
          · refine q_aload_n K 0 dX4_sheet_40 rfl ?_
            refine q_ldcw K dX4_sheet_41 ct_X4_277 ?_
            refine q_eqi (r_fin 6) (by decide) ?_
            refine q_wI (q0 := 0) (As := [.int (r_fin 6)]) (rest := []) K kv_X4_finds (c_X4_finds (k_l M) (k_Z M) B X D 6 (by omega)) rfl rfl ml_X4_48 rfl rfl (Nat.le_of_ble_eq_true rfl) ⟨Nat.le_of_ble_eq_true rfl, Nat.le_of_ble_eq_true rfl⟩ dX4_sheet_44 (fun r_37 w2 h_36 => ?_)
            obtain ⟨e_r_37, rfl⟩ := h_36
            refine q_eqi (r_fin 6) e_r_37 ?_
            refine q_ws (ws' := w_M (k_Z M) B (a_F X, a_K X, a_kp X, fd_up (a_fd X) 6, a_tp X, a_S X) D) rfl ?_
            exact Rt _ _ (r_fin 6) (w_M (k_Z M) B (a_F X, a_K X, a_kp X, fd_up (a_fd X) 6, a_tp X, a_S X) D) dX4_sheet_47 rfl (⟨D, by simp only [o_sheet, a_fin, if_pos hbits, if_pos c_2, if_neg c_28, nI_clamp (n := t) (by omega), if_neg (show ¬ (16 : Int32) = 0 by decide)] <;> rfl, by simp only [o_sheet, a_fin, if_pos hbits, if_pos c_2, if_neg c_28, nI_clamp (n := t) (by omega), if_neg (show ¬ (16 : Int32) = 0 by decide)] <;> rfl⟩)
        · refine q_iload_n K 2 dX4_sheet_23 rfl ?_
          refine q_bipush 32 K dX4_sheet_24 rfl ?_
          refine q_icmp_eq 36 K dX4_sheet_26 (by decide) (fun c_38 => ?_) (fun c_38 => ?_)
          · subst c_38
            have hbits : isBits 32 := by decide
            refine q_iload_n K 3 dX4_sheet_36 rfl ?_
            refine q_if_ge 48 K dX4_sheet_37 (by decide) (fun c_39 => ?_) (fun c_39 => ?_)
            · refine q_iload_n K 3 dX4_sheet_48 rfl ?_
              refine q_bipush 40 K dX4_sheet_49 rfl ?_
              refine q_icmp_le 61 K dX4_sheet_51 (by decide) (fun c_40 => ?_) (fun c_40 => ?_)
              · refine q_aload_n K 0 dX4_sheet_61 rfl ?_
                refine q_get (.ref (B 7)) K ws_X4 0 rfl rfl 8 (by decide) fl_X4_28 rfl dX4_sheet_62 ?_
                refine q_iload_n K 1 dX4_sheet_65 rfl ?_
                refine q_iload_n K 2 dX4_sheet_66 rfl ?_
                refine q_if_ne 74 K dX4_sheet_67 (by decide) (fun c_0 => ?_) (fun c_0 => absurd c_0 (by decide))
                refine q_iload_n K 2 dX4_sheet_74 rfl ?_
                refine q_iast (ws' := (w_M (k_Z M) B X D).set 7 (B 7, .inl ((k_Z M).2.1 0, 4, .inl (upd (m_bt (a_S X)) t 32)))) K 7 rfl (vp_in_nI (n := t) (N := 4) (by omega) (by omega)) (by rw [nI_clamp (n := t) (by omega)] <;> rfl) dX4_sheet_75 ?_
                refine q_aload_n K 0 dX4_sheet_76 rfl ?_
                refine q_get (.ref (B 8)) K ws_X4 0 rfl rfl 9 (by decide) fl_X4_31 rfl dX4_sheet_77 ?_
                refine q_iload_n K 1 dX4_sheet_80 rfl ?_
                refine q_iload_n K 2 dX4_sheet_81 rfl ?_
                refine q_if_ne 89 K dX4_sheet_82 (by decide) (fun c_0 => ?_) (fun c_0 => absurd c_0 (by decide))
                refine q_iload_n K 3 dX4_sheet_89 rfl ?_
                refine q_iast (ws' := ((w_M (k_Z M) B X D).set 7 (B 7, .inl ((k_Z M).2.1 0, 4, .inl (upd (m_bt (a_S X)) t 32)))).set 8 (B 8, .inl ((k_Z M).2.1 0, 4, .inl (upd (m_sz (a_S X)) t n)))) K 8 rfl (vp_in_nI (n := t) (N := 4) (by omega) (by omega)) (by rw [nI_clamp (n := t) (by omega)] <;> rfl) dX4_sheet_90 ?_
                refine q_iconst 0 K dX4_sheet_91 rfl ?_
                refine q_ws (ws' := (((w_M (k_Z M) B X D).set 7 (B 7, .inl ((k_Z M).2.1 0, 4, .inl (upd (m_bt (a_S X)) t 32)))).set 8 (B 8, .inl ((k_Z M).2.1 0, 4, .inl (upd (m_sz (a_S X)) t n)))).set 9 (B 9, .inl ((k_Z M).2.1 0, 160, .inl (m_clr (m_nm (a_S X)) t 0)))) rfl ?_
                refine q_istore (lv' := [(4, .int 0), (0, .ref (B 0)), (1, .int (nI t)), (2, .int 32), (3, .int n)]) K dX4_sheet_92 (by decide) rfl ?_
                refine q_loop (α := Nat) (fun n9 i => i + n9 = 40) 94 (fun i => [(4, .int (nI i)), (0, .ref (B 0)), (1, .int (nI t)), (2, .int 32), (3, .int n)]) (fun i => (((w_M (k_Z M) B X D).set 7 (B 7, .inl ((k_Z M).2.1 0, 4, .inl (upd (m_bt (a_S X)) t 32)))).set 8 (B 8, .inl ((k_Z M).2.1 0, 4, .inl (upd (m_sz (a_S X)) t n)))).set 9 (B 9, .inl ((k_Z M).2.1 0, 160, .inl (m_clr (m_nm (a_S X)) t i)))) (fun n_41 i hI_42 ih_43 => ?_) 40 0 rfl
                refine q_iload K 0 dX4_sheet_94 rfl ?_
                refine q_bipush 40 K dX4_sheet_96 rfl ?_
                refine q_icmp_ge 120 K dX4_sheet_98 (by decide) (fun c_44 => ?_) (fun c_44 => ?_)
                · have c_44n : 40 ≤ i := (nI_leI (a := 40) (b := i) (by omega) (by omega)).mp c_44
                  refine q_ws (ws' := w_M (k_Z M) B (a_F X, a_K X, a_kp X, a_fd X, a_tp X, k_upS (a_S X) t (s_clr (a_S X t) 40, 32, n)) D) (wM_sh (m_bt_up (a_S X) t _ 32 n) (m_sz_up (a_S X) t _ 32 n) (by rw [show i = 40 by omega]; exact m_nm_clr (a_S X) t 32 n)) ?_
                  refine q_aload_n K 1 dX4_sheet_120 rfl ?_
                  refine q_get (.ref (B 8)) K ws_X4 0 rfl rfl 9 (by decide) fl_X4_31 rfl dX4_sheet_121 ?_
                  refine q_iload_n K 2 dX4_sheet_124 rfl ?_
                  refine q_iald K 8 rfl (vp_in_nI (n := t) (N := 4) (by omega) (by omega)) dX4_sheet_125 ?_
                  refine q_eqi ((m_sz (k_upS (a_S X) t (s_clr (a_S X t) 40, 32, n))) t) (by rw [nI_clamp (n := t) (by omega)]) ?_
                  refine q_eqi n (congrArg s_sz (if_pos rfl)) ?_
                  exact Rt _ _ n (w_M (k_Z M) B (a_F X, a_K X, a_kp X, a_fd X, a_tp X, k_upS (a_S X) t (s_clr (a_S X t) 40, 32, n)) D) dX4_sheet_126 rfl (⟨D, by simp only [o_sheet, a_fin, if_pos hbits, if_pos c_2, if_pos c_39, if_pos c_40, if_pos c_44, nI_clamp (n := t) (by omega), if_neg (show ¬ (32 : Int32) = 0 by decide)] <;> rfl, by simp only [o_sheet, a_fin, if_pos hbits, if_pos c_2, if_pos c_39, if_pos c_40, if_pos c_44, nI_clamp (n := t) (by omega), if_neg (show ¬ (32 : Int32) = 0 by decide)] <;> rfl⟩)
                · have c_44n : ¬ (40 ≤ i) := fun h9 => c_44 ((nI_leI (a := 40) (b := i) (by omega) (by omega)).mpr h9)
                  refine q_aload_n K 1 dX4_sheet_101 rfl ?_
                  refine q_get (.ref (B 9)) K ws_X4 0 rfl rfl 10 (by decide) fl_X4_34 rfl dX4_sheet_102 ?_
                  refine q_bipush 40 K dX4_sheet_105 rfl ?_
                  refine q_iload_n K 2 dX4_sheet_107 rfl ?_
                  refine q_imul K dX4_sheet_108 ?_
                  refine q_eqi (nI (40 * t)) (pk_mul 40 t) ?_
                  refine q_iload K 0 dX4_sheet_109 rfl ?_
                  refine q_iadd K dX4_sheet_111 ?_
                  refine q_eqi (nI ((40 * t) + i)) (kn_add (40 * t) i) ?_
                  refine q_iconst 0 K dX4_sheet_112 rfl ?_
                  refine q_iast (ws' := (((w_M (k_Z M) B X D).set 7 (B 7, .inl ((k_Z M).2.1 0, 4, .inl (upd (m_bt (a_S X)) t 32)))).set 8 (B 8, .inl ((k_Z M).2.1 0, 4, .inl (upd (m_sz (a_S X)) t n)))).set 9 (B 9, .inl ((k_Z M).2.1 0, 160, .inl (upd (m_clr (m_nm (a_S X)) t i) ((40 * t) + i) 0)))) K 9 rfl (vp_in_nI (n := (40 * t) + i) (N := 160) (by omega) (by omega)) (by rw [nI_clamp (n := (40 * t) + i) (by omega)] <;> rfl) dX4_sheet_113 ?_
                  refine q_iinc (nI (i + 1)) (lv' := [(4, .int (nI (i + 1))), (0, .ref (B 0)), (1, .int (nI t)), (2, .int 32), (3, .int n)]) K 0 dX4_sheet_114 rfl (kn_inc i) (by decide) rfl ?_
                  refine q_goto 94 K dX4_sheet_117 (by decide) ?_
                  exact ih_43 (n_41 - 1) (i + 1) (by omega) (by omega)
              · refine q_aload_n K 0 dX4_sheet_54 rfl ?_
                refine q_ldc K dX4_sheet_55 ct_X4_40 ?_
                refine q_eqi (r_fin 0) (by decide) ?_
                refine q_wI (q0 := 0) (As := [.int (r_fin 0)]) (rest := []) K kv_X4_finds (c_X4_finds (k_l M) (k_Z M) B X D 0 (by omega)) rfl rfl ml_X4_48 rfl rfl (Nat.le_of_ble_eq_true rfl) ⟨Nat.le_of_ble_eq_true rfl, Nat.le_of_ble_eq_true rfl⟩ dX4_sheet_57 (fun r_46 w2 h_45 => ?_)
                obtain ⟨e_r_46, rfl⟩ := h_45
                refine q_eqi (r_fin 0) e_r_46 ?_
                refine q_ws (ws' := w_M (k_Z M) B (a_F X, a_K X, a_kp X, fd_up (a_fd X) 0, a_tp X, a_S X) D) rfl ?_
                exact Rt _ _ (r_fin 0) (w_M (k_Z M) B (a_F X, a_K X, a_kp X, fd_up (a_fd X) 0, a_tp X, a_S X) D) dX4_sheet_60 rfl (⟨D, by simp only [o_sheet, a_fin, if_pos hbits, if_pos c_2, if_pos c_39, if_neg c_40, nI_clamp (n := t) (by omega), if_neg (show ¬ (32 : Int32) = 0 by decide)] <;> rfl, by simp only [o_sheet, a_fin, if_pos hbits, if_pos c_2, if_pos c_39, if_neg c_40, nI_clamp (n := t) (by omega), if_neg (show ¬ (32 : Int32) = 0 by decide)] <;> rfl⟩)
            · refine q_aload_n K 0 dX4_sheet_40 rfl ?_
              refine q_ldcw K dX4_sheet_41 ct_X4_277 ?_
              refine q_eqi (r_fin 6) (by decide) ?_
              refine q_wI (q0 := 0) (As := [.int (r_fin 6)]) (rest := []) K kv_X4_finds (c_X4_finds (k_l M) (k_Z M) B X D 6 (by omega)) rfl rfl ml_X4_48 rfl rfl (Nat.le_of_ble_eq_true rfl) ⟨Nat.le_of_ble_eq_true rfl, Nat.le_of_ble_eq_true rfl⟩ dX4_sheet_44 (fun r_48 w2 h_47 => ?_)
              obtain ⟨e_r_48, rfl⟩ := h_47
              refine q_eqi (r_fin 6) e_r_48 ?_
              refine q_ws (ws' := w_M (k_Z M) B (a_F X, a_K X, a_kp X, fd_up (a_fd X) 6, a_tp X, a_S X) D) rfl ?_
              exact Rt _ _ (r_fin 6) (w_M (k_Z M) B (a_F X, a_K X, a_kp X, fd_up (a_fd X) 6, a_tp X, a_S X) D) dX4_sheet_47 rfl (⟨D, by simp only [o_sheet, a_fin, if_pos hbits, if_pos c_2, if_neg c_39, nI_clamp (n := t) (by omega), if_neg (show ¬ (32 : Int32) = 0 by decide)] <;> rfl, by simp only [o_sheet, a_fin, if_pos hbits, if_pos c_2, if_neg c_39, nI_clamp (n := t) (by omega), if_neg (show ¬ (32 : Int32) = 0 by decide)] <;> rfl⟩)
          · refine q_aload_n K 0 dX4_sheet_29 rfl ?_
            refine q_ldc K dX4_sheet_30 ct_X4_40 ?_
            refine q_eqi (r_fin 0) (by decide) ?_
            refine q_wI (q0 := 0) (As := [.int (r_fin 0)]) (rest := []) K kv_X4_finds (c_X4_finds (k_l M) (k_Z M) B X D 0 (by omega)) rfl rfl ml_X4_48 rfl rfl (Nat.le_of_ble_eq_true rfl) ⟨Nat.le_of_ble_eq_true rfl, Nat.le_of_ble_eq_true rfl⟩ dX4_sheet_32 (fun r_50 w2 h_49 => ?_)
            obtain ⟨e_r_50, rfl⟩ := h_49
            refine q_eqi (r_fin 0) e_r_50 ?_
            refine q_ws (ws' := w_M (k_Z M) B (a_F X, a_K X, a_kp X, fd_up (a_fd X) 0, a_tp X, a_S X) D) rfl ?_
            exact Rt _ _ (r_fin 0) (w_M (k_Z M) B (a_F X, a_K X, a_kp X, fd_up (a_fd X) 0, a_tp X, a_S X) D) dX4_sheet_35 rfl (⟨D, by simp only [o_sheet, a_fin, if_pos c_2, if_neg (show ¬ isBits bits from fun h9 => h9.elim c_5 (fun h9 => h9.elim c_16 (fun h9 => h9.elim c_27 c_38)))] <;> rfl, by simp only [o_sheet, a_fin, if_pos c_2, if_neg (show ¬ isBits bits from fun h9 => h9.elim c_5 (fun h9 => h9.elim c_16 (fun h9 => h9.elim c_27 c_38)))] <;> rfl⟩)
theorem kv_X4_sheet : k_iv yX4_sheet cX4_sheet 5 (some .int) 3 := ⟨⟨im_X4_sheet, se_X4_sheet⟩, in_X4, co_X4_sheet, by decide +kernel⟩
set_option maxHeartbeats 4000000 in
set_option maxRecDepth 100000 in
theorem c_X4_write (l : Launch) (Z : kz_Z) (B : Nat → Nat) (X : AS) (D : DJ) (m : Nat) (hm : m ≤ 8) (hm2 : f_wk (a_F X) = nI m) (hok : f_ok (a_F X)) (hsh : a_shok X) (hbt : a_btok X) (s i v : Int32) : KI l Z yX4_write cX4_write 4 .int 1 25 [.ref (B 0), .int s, .int i, .int v] (w_M Z B X D) (fun r w2 => ∃ D2, r = (o_write X s i v).1 ∧ w2 = w_M Z B (o_write X s i v).2 D2) := by
  refine ki_of (by decide) [(0, .ref (B 0)), (1, .int s), (2, .int i), (3, .int v)] (Nat.le_of_ble_eq_true rfl) rfl ?_
  intro M e1 e2 K Rt
  subst e1 e2
  refine q_iload_n K 1 dX4_write_0 rfl ?_
  refine q_cp (rest := []) K ks_X4_isSheet (c_X4_isSheet (k_l M) (k_Z M) s) ml_X4_274 rfl rfl (Nat.le_of_ble_eq_true rfl) ⟨Nat.le_of_ble_eq_true rfl, Nat.le_of_ble_eq_true rfl⟩ dX4_write_1 (fun r_1 e_r_1 => ?_)
  refine q_if_ne 14 K dX4_write_4 (by decide) (fun c_2 => ?_) (fun c_2 => ?_)
  · have c_2 : inR s 0 3 := (kn_ne e_r_1).mp c_2
    obtain ⟨t, h_t, e_t⟩ := kn_rng (n := 3) c_2 rfl
    subst e_t
    obtain ⟨zt, hzt, ezt⟩ := hsh t (by omega)
    refine q_aload_n K 0 dX4_write_14 rfl ?_
    refine q_get (.ref (B 7)) K ws_X4 0 rfl rfl 8 (by decide) fl_X4_28 rfl dX4_write_15 ?_
    refine q_iload_n K 1 dX4_write_18 rfl ?_
    refine q_iald K 7 rfl (vp_in_nI (n := t) (N := 4) (by omega) (by omega)) dX4_write_19 ?_
    refine q_eqi ((m_bt (a_S X)) t) (by rw [nI_clamp (n := t) (by omega)]) ?_
    by_cases hmt : s_bt (a_S X t) = 0
    · refine q_eqi (-1) (if_pos hmt) ?_
      refine q_if_ge 31 K dX4_write_20 (by decide) (fun c_0 => absurd c_0 (by decide)) (fun c_0 => ?_)
      refine q_aload_n K 0 dX4_write_23 rfl ?_
      refine q_ldcw K dX4_write_24 ct_X4_269 ?_
      refine q_eqi (r_fin 5) (by decide) ?_
      refine q_wI (q0 := 0) (As := [.int (r_fin 5)]) (rest := []) K kv_X4_finds (c_X4_finds (k_l M) (k_Z M) B X D 5 (by omega)) rfl rfl ml_X4_48 rfl rfl (Nat.le_of_ble_eq_true rfl) ⟨Nat.le_of_ble_eq_true rfl, Nat.le_of_ble_eq_true rfl⟩ dX4_write_27 (fun r_4 w2 h_3 => ?_)
      obtain ⟨e_r_4, rfl⟩ := h_3
      refine q_eqi (r_fin 5) e_r_4 ?_
      refine q_ws (ws' := w_M (k_Z M) B (a_F X, a_K X, a_kp X, fd_up (a_fd X) 5, a_tp X, a_S X) D) rfl ?_
      exact Rt _ _ (r_fin 5) (w_M (k_Z M) B (a_F X, a_K X, a_kp X, fd_up (a_fd X) 5, a_tp X, a_S X) D) dX4_write_30 rfl (⟨D, by simp only [o_write, o_with, a_fin, a_miss, o_writes, if_pos c_2, if_pos hmt, e_r_1, nI_clamp (n := t) (by omega), ezt] <;> rfl, by simp only [o_write, o_with, a_fin, a_miss, o_writes, if_pos c_2, if_pos hmt, nI_clamp (n := t) (by omega), ezt] <;> rfl⟩)
    · refine q_eqi (s_bt (a_S X t)) (if_neg hmt) ?_
      refine q_if_ge 31 K dX4_write_20 (by decide) (fun c_5 => ?_) (fun c_5 => ?_)
      · refine q_iload_n K 2 dX4_write_31 rfl ?_
        refine q_i2l K dX4_write_32 ?_
        refine q_lconst 0 K dX4_write_33 rfl ?_
        refine q_aload_n K 0 dX4_write_34 rfl ?_
        refine q_get (.ref (B 8)) K ws_X4 0 rfl rfl 9 (by decide) fl_X4_31 rfl dX4_write_35 ?_
        refine q_iload_n K 1 dX4_write_38 rfl ?_
        refine q_iald K 8 rfl (vp_in_nI (n := t) (N := 4) (by omega) (by omega)) dX4_write_39 ?_
        refine q_eqi ((m_sz (a_S X)) t) (by rw [nI_clamp (n := t) (by omega)]) ?_
        refine q_eqi (nI zt) ezt ?_
        refine q_iconst 1 K dX4_write_40 rfl ?_
        refine q_isub K dX4_write_41 ?_
        refine q_i2l K dX4_write_42 ?_
        refine q_cp (rest := []) K ks_X4_isIn (c_X4_isIn (k_l M) (k_Z M) i.toInt64 0 (((nI zt) - 1).toInt64)) ml_X4_43 rfl rfl (Nat.le_of_ble_eq_true rfl) ⟨Nat.le_of_ble_eq_true rfl, Nat.le_of_ble_eq_true rfl⟩ dX4_write_43 (fun r_6 e_r_6 => ?_)
        have e_r_6 : r_6 = if inR i 0 ((nI zt) - 1) then 1 else 0 := kn_if e_r_6 (kn_i64 (v := i) (lo := 0) (hi := ((nI zt) - 1)))
        refine q_if_ne 56 K dX4_write_46 (by decide) (fun c_7 => ?_) (fun c_7 => ?_)
        · have c_7 : inR i 0 ((nI zt) - 1) := (kn_ne e_r_6).mp c_7
          obtain ⟨j, h_j, e_j⟩ := kn_wr hzt c_7
          subst e_j
          refine q_aload_n K 0 dX4_write_56 rfl ?_
          refine q_get (.ref (B 9)) K ws_X4 0 rfl rfl 10 (by decide) fl_X4_34 rfl dX4_write_57 ?_
          refine q_bipush 40 K dX4_write_60 rfl ?_
          refine q_iload_n K 1 dX4_write_62 rfl ?_
          refine q_imul K dX4_write_63 ?_
          refine q_eqi (nI (40 * t)) (pk_mul 40 t) ?_
          refine q_iload_n K 2 dX4_write_64 rfl ?_
          refine q_iadd K dX4_write_65 ?_
          refine q_eqi (nI ((40 * t) + j)) (kn_add (40 * t) j) ?_
          refine q_aload_n K 0 dX4_write_66 rfl ?_
          refine q_get (.ref (B 7)) K ws_X4 0 rfl rfl 8 (by decide) fl_X4_28 rfl dX4_write_67 ?_
          refine q_iload_n K 1 dX4_write_70 rfl ?_
          refine q_iald K 7 rfl (vp_in_nI (n := t) (N := 4) (by omega) (by omega)) dX4_write_71 ?_
          refine q_eqi ((m_bt (a_S X)) t) (by rw [nI_clamp (n := t) (by omega)]) ?_
          refine q_eqi (s_bt (a_S X t)) (if_neg hmt) ?_
          refine q_bipush 8 K dX4_write_72 rfl ?_
          refine q_icmp_ne 82 K dX4_write_74 (by decide) (fun c_8 => ?_) (fun c_8 => ?_)
          · refine q_aload_n K 0 dX4_write_82 rfl ?_
            refine q_get (.ref (B 7)) K ws_X4 0 rfl rfl 8 (by decide) fl_X4_28 rfl dX4_write_83 ?_
            refine q_iload_n K 1 dX4_write_86 rfl ?_
            refine q_iald K 7 rfl (vp_in_nI (n := t) (N := 4) (by omega) (by omega)) dX4_write_87 ?_
            refine q_eqi ((m_bt (a_S X)) t) (by rw [nI_clamp (n := t) (by omega)]) ?_
            refine q_eqi (s_bt (a_S X t)) (if_neg hmt) ?_
            refine q_bipush 16 K dX4_write_88 rfl ?_
            refine q_icmp_ne 98 K dX4_write_90 (by decide) (fun c_9 => ?_) (fun c_9 => ?_)
            · refine q_iload_n K 3 dX4_write_98 rfl ?_
              refine q_iast (ws' := (w_M (k_Z M) B X D).set 9 (B 9, .inl ((k_Z M).2.1 0, 160, .inl (upd (m_nm (a_S X)) ((40 * t) + j) v)))) K 9 rfl (vp_in_nI (n := (40 * t) + j) (N := 160) (by omega) (by omega)) (by rw [nI_clamp (n := (40 * t) + j) (by omega)] <;> rfl) dX4_write_99 ?_
              refine q_ws (ws' := w_M (k_Z M) B (a_F X, a_K X, a_kp X, a_fd X, a_tp X, k_upS (a_S X) t (upd (s_nm (a_S X t)) j v, s_bt (a_S X t), s_sz (a_S X t))) D) (wM_nm (m_nm_up (a_S X) (by omega) _ _ _)) ?_
              refine q_iconst 1 K dX4_write_100 rfl ?_
              exact Rt _ _ 1 (w_M (k_Z M) B (a_F X, a_K X, a_kp X, a_fd X, a_tp X, k_upS (a_S X) t (upd (s_nm (a_S X t)) j v, s_bt (a_S X t), s_sz (a_S X t))) D) dX4_write_101 rfl (⟨D, by simp only [o_write, o_with, if_pos c_2, if_neg hmt, if_pos c_5, if_pos c_7, if_neg c_8, if_neg c_9, nI_clamp (n := t) (by omega), nI_clamp (n := j) (by omega), a_miss, o_writes, ezt, s_cut] <;> rfl, by simp only [o_write, o_with, if_pos c_2, if_neg hmt, if_pos c_5, if_pos c_7, if_neg c_8, if_neg c_9, nI_clamp (n := t) (by omega), nI_clamp (n := j) (by omega), a_miss, o_writes, ezt, s_cut] <;> rfl⟩)
            · refine q_iload_n K 3 dX4_write_93 rfl ?_
              refine q_i2s K dX4_write_94 ?_
              refine q_goto 99 K dX4_write_95 (by decide) ?_
              refine q_iast (ws' := (w_M (k_Z M) B X D).set 9 (B 9, .inl ((k_Z M).2.1 0, 160, .inl (upd (m_nm (a_S X)) ((40 * t) + j) v.toInt16.toInt32)))) K 9 rfl (vp_in_nI (n := (40 * t) + j) (N := 160) (by omega) (by omega)) (by rw [nI_clamp (n := (40 * t) + j) (by omega)] <;> rfl) dX4_write_99 ?_
              refine q_ws (ws' := w_M (k_Z M) B (a_F X, a_K X, a_kp X, a_fd X, a_tp X, k_upS (a_S X) t (upd (s_nm (a_S X t)) j v.toInt16.toInt32, s_bt (a_S X t), s_sz (a_S X t))) D) (wM_nm (m_nm_up (a_S X) (by omega) _ _ _)) ?_
              refine q_iconst 1 K dX4_write_100 rfl ?_
              exact Rt _ _ 1 (w_M (k_Z M) B (a_F X, a_K X, a_kp X, a_fd X, a_tp X, k_upS (a_S X) t (upd (s_nm (a_S X t)) j v.toInt16.toInt32, s_bt (a_S X t), s_sz (a_S X t))) D) dX4_write_101 rfl (⟨D, by simp only [o_write, o_with, if_pos c_2, if_neg hmt, if_pos c_5, if_pos c_7, if_neg c_8, if_pos c_9, nI_clamp (n := t) (by omega), nI_clamp (n := j) (by omega), a_miss, o_writes, ezt, s_cut] <;> rfl, by simp only [o_write, o_with, if_pos c_2, if_neg hmt, if_pos c_5, if_pos c_7, if_neg c_8, if_pos c_9, nI_clamp (n := t) (by omega), nI_clamp (n := j) (by omega), a_miss, o_writes, ezt, s_cut] <;> rfl⟩)
          · refine q_iload_n K 3 dX4_write_77 rfl ?_
            refine q_i2b K dX4_write_78 ?_
            refine q_goto 99 K dX4_write_79 (by decide) ?_
            refine q_iast (ws' := (w_M (k_Z M) B X D).set 9 (B 9, .inl ((k_Z M).2.1 0, 160, .inl (upd (m_nm (a_S X)) ((40 * t) + j) v.toInt8.toInt32)))) K 9 rfl (vp_in_nI (n := (40 * t) + j) (N := 160) (by omega) (by omega)) (by rw [nI_clamp (n := (40 * t) + j) (by omega)] <;> rfl) dX4_write_99 ?_
            refine q_ws (ws' := w_M (k_Z M) B (a_F X, a_K X, a_kp X, a_fd X, a_tp X, k_upS (a_S X) t (upd (s_nm (a_S X t)) j v.toInt8.toInt32, s_bt (a_S X t), s_sz (a_S X t))) D) (wM_nm (m_nm_up (a_S X) (by omega) _ _ _)) ?_
            refine q_iconst 1 K dX4_write_100 rfl ?_
            exact Rt _ _ 1 (w_M (k_Z M) B (a_F X, a_K X, a_kp X, a_fd X, a_tp X, k_upS (a_S X) t (upd (s_nm (a_S X t)) j v.toInt8.toInt32, s_bt (a_S X t), s_sz (a_S X t))) D) dX4_write_101 rfl (⟨D, by simp only [o_write, o_with, if_pos c_2, if_neg hmt, if_pos c_5, if_pos c_7, if_pos c_8, nI_clamp (n := t) (by omega), nI_clamp (n := j) (by omega), a_miss, o_writes, ezt, s_cut] <;> rfl, by simp only [o_write, o_with, if_pos c_2, if_neg hmt, if_pos c_5, if_pos c_7, if_pos c_8, nI_clamp (n := t) (by omega), nI_clamp (n := j) (by omega), a_miss, o_writes, ezt, s_cut] <;> rfl⟩)
        · have c_7 : ¬ (inR i 0 ((nI zt) - 1)) := (kn_eq e_r_6).mp c_7
          refine q_aload_n K 0 dX4_write_49 rfl ?_
          refine q_ldc K dX4_write_50 ct_X4_40 ?_
          refine q_eqi (r_fin 0) (by decide) ?_
          refine q_wI (q0 := 0) (As := [.int (r_fin 0)]) (rest := []) K kv_X4_finds (c_X4_finds (k_l M) (k_Z M) B X D 0 (by omega)) rfl rfl ml_X4_48 rfl rfl (Nat.le_of_ble_eq_true rfl) ⟨Nat.le_of_ble_eq_true rfl, Nat.le_of_ble_eq_true rfl⟩ dX4_write_52 (fun r_11 w2 h_10 => ?_)
          obtain ⟨e_r_11, rfl⟩ := h_10
          refine q_eqi (r_fin 0) e_r_11 ?_
          refine q_ws (ws' := w_M (k_Z M) B (a_F X, a_K X, a_kp X, fd_up (a_fd X) 0, a_tp X, a_S X) D) rfl ?_
          exact Rt _ _ (r_fin 0) (w_M (k_Z M) B (a_F X, a_K X, a_kp X, fd_up (a_fd X) 0, a_tp X, a_S X) D) dX4_write_55 rfl (⟨D, by simp only [o_write, o_with, a_fin, a_miss, o_writes, if_pos c_2, if_neg hmt, if_pos c_5, if_neg c_7, e_r_1, e_r_6, nI_clamp (n := t) (by omega), ezt] <;> rfl, by simp only [o_write, o_with, a_fin, a_miss, o_writes, if_pos c_2, if_neg hmt, if_pos c_5, if_neg c_7, nI_clamp (n := t) (by omega), ezt] <;> rfl⟩)
      · exact absurd (bt_ge (hbt t (by omega))) c_5
  · have c_2 : ¬ (inR s 0 3) := (kn_eq e_r_1).mp c_2
    refine q_aload_n K 0 dX4_write_7 rfl ?_
    refine q_ldc K dX4_write_8 ct_X4_40 ?_
    refine q_eqi (r_fin 0) (by decide) ?_
    refine q_wI (q0 := 0) (As := [.int (r_fin 0)]) (rest := []) K kv_X4_finds (c_X4_finds (k_l M) (k_Z M) B X D 0 (by omega)) rfl rfl ml_X4_48 rfl rfl (Nat.le_of_ble_eq_true rfl) ⟨Nat.le_of_ble_eq_true rfl, Nat.le_of_ble_eq_true rfl⟩ dX4_write_10 (fun r_13 w2 h_12 => ?_)
    obtain ⟨e_r_13, rfl⟩ := h_12
    refine q_eqi (r_fin 0) e_r_13 ?_
    refine q_ws (ws' := w_M (k_Z M) B (a_F X, a_K X, a_kp X, fd_up (a_fd X) 0, a_tp X, a_S X) D) rfl ?_
    exact Rt _ _ (r_fin 0) (w_M (k_Z M) B (a_F X, a_K X, a_kp X, fd_up (a_fd X) 0, a_tp X, a_S X) D) dX4_write_13 rfl (⟨D, by simp only [o_write, o_with, a_fin, a_miss, o_writes, if_neg c_2, e_r_1] <;> rfl, by simp only [o_write, o_with, a_fin, a_miss, o_writes, if_neg c_2] <;> rfl⟩)
theorem kv_X4_write : k_iv yX4_write cX4_write 4 (some .int) 3 := ⟨⟨im_X4_write, se_X4_write⟩, in_X4, co_X4_write, by decide +kernel⟩
