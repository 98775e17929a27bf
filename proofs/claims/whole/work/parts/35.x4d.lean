set_option maxHeartbeats 4000000 in
set_option maxRecDepth 100000 in
theorem c_X4_wander (l : Launch) (Z : kz_Z) (B : Nat → Nat) (X : AS) (D : DJ) : KV l Z yX4_wander cX4_wander 4 0 0 [.ref (B 0)] (w_M Z B X D) (fun w2 => w2 = w_M Z B (a_setF X (f_move (a_F X))) (d_setgn D (f_gnr (a_F X) (d_gn D) 8))) := by
  refine kv_of (by decide) [(0, .ref (B 0))] (Nat.le_of_ble_eq_true rfl) rfl ?_
  intro M e1 e2 K Rt
  subst e1 e2
  refine q_iconst 0 K dX4_wander_0 rfl ?_
  refine q_istore_n (lv' := [(1, .int 0), (0, .ref (B 0))]) K dX4_wander_1 (by decide) rfl ?_
  refine q_lv [0, 1] rfl ?_
  refine q_loop (α := Nat) (fun n9 g => g + n9 = 8) 2 (fun g => [(1, .int (nI g)), (0, .ref (B 0))]) (fun g => w_M (k_Z M) B X (d_bf D, d_as D, f_gnr (a_F X) (d_gn D) g, d_tk D, d_fr D, d_to D, d_vl D, d_fa D)) (fun n_1 g hI_2 ih_3 => ?_) 8 0 (by omega)
  refine q_iload_n K 0 dX4_wander_2 rfl ?_
  refine q_bipush 8 K dX4_wander_3 rfl ?_
  refine q_icmp_ge 71 K dX4_wander_5 (by decide) (fun c_4 => ?_) (fun c_4 => ?_)
  · have c_4n : 8 ≤ g := (nI_leI (a := 8) (b := g) (by omega) (by omega)).mp c_4
    refine q_ws (ws' := w_M (k_Z M) B X (d_bf D, d_as D, f_gnr (a_F X) (d_gn D) 8, d_tk D, d_fr D, d_to D, d_vl D, d_fa D)) (by rw [show g = 8 by omega]) ?_
    refine q_iconst 0 K dX4_wander_71 rfl ?_
    refine q_ws (ws' := w_M (k_Z M) B (f_setbs (a_F X) (f_mvs (a_F X) 0), a_K X, a_kp X, a_fd X, a_tp X, a_S X) (d_bf D, d_as D, f_gnr (a_F X) (d_gn D) 8, d_tk D, d_fr D, d_to D, d_vl D, d_fa D)) rfl ?_
    refine q_istore_n (lv' := [(1, .int 0), (0, .ref (B 0))]) K dX4_wander_72 (by decide) rfl ?_
    refine q_lv [0, 1] rfl ?_
    refine q_loop (α := Nat) (fun n9 g => g + n9 = 8) 73 (fun g => [(1, .int (nI g)), (0, .ref (B 0))]) (fun g => w_M (k_Z M) B (f_setbs (a_F X) (f_mvs (a_F X) g), a_K X, a_kp X, a_fd X, a_tp X, a_S X) (d_bf D, d_as D, f_gnr (a_F X) (d_gn D) 8, d_tk D, d_fr D, d_to D, d_vl D, d_fa D)) (fun n_5 g hI_6 ih_7 => ?_) 8 0 (by omega)
    refine q_iload_n K 0 dX4_wander_73 rfl ?_
    refine q_bipush 8 K dX4_wander_74 rfl ?_
    refine q_icmp_ge 121 K dX4_wander_76 (by decide) (fun c_8 => ?_) (fun c_8 => ?_)
    · have c_8n : 8 ≤ g := (nI_leI (a := 8) (b := g) (by omega) (by omega)).mp c_8
      exact Rt _ _ (w_M (k_Z M) B (f_setbs (a_F X) (f_mvs (a_F X) g), a_K X, a_kp X, a_fd X, a_tp X, a_S X) (d_bf D, d_as D, f_gnr (a_F X) (d_gn D) 8, d_tk D, d_fr D, d_to D, d_vl D, d_fa D)) dX4_wander_121 (by rw [show g = 8 by omega]; rfl)
    · have c_8n : ¬ (8 ≤ g) := fun h9 => c_8 ((nI_leI (a := 8) (b := g) (by omega) (by omega)).mpr h9)
      refine q_aload_n K 1 dX4_wander_79 rfl ?_
      refine q_get (.ref (B 1)) K ws_X4 0 rfl rfl 0 (by decide) fl_X4_7 rfl dX4_wander_80 ?_
      refine q_iconst 4 K dX4_wander_83 rfl ?_
      refine q_iload_n K 0 dX4_wander_84 rfl ?_
      refine q_iadd K dX4_wander_85 ?_
      refine q_eqi (nI (4 + g)) (kn_add 4 g) ?_
      refine q_dup2 K dX4_wander_86 rfl rfl ?_
      refine q_iald K 1 rfl (vp_in_nI (n := 4 + g) (N := 71) (by omega) (by omega)) dX4_wander_87 ?_
      refine q_eqi (f_bs (f_setbs (a_F X) (f_mvs (a_F X) g)) g) (by rw [nI_clamp (n := 4 + g) (by omega)]; exact rw_bs _ (by omega)) ?_
      refine q_aload_n K 1 dX4_wander_88 rfl ?_
      refine q_get (.ref (B 10)) K ws_X4 0 rfl rfl 11 (by decide) fl_X4_37 rfl dX4_wander_89 ?_
      refine q_iload_n K 0 dX4_wander_92 rfl ?_
      refine q_iald K 10 rfl (vp_in_nI (n := g) (N := 8) (by omega) (by omega)) dX4_wander_93 ?_
      refine q_eqi ((f_gnr (a_F X) (d_gn D) 8) g) (by rw [nI_clamp (n := g) (by omega)]) ?_
      refine q_eqi (f_mv (a_F X) g) (f_gnr_at _ _ 8 (by omega)) ?_
      refine q_isub K dX4_wander_94 ?_
      refine q_iast (ws' := w_M (k_Z M) B (f_setbs (f_setbs (a_F X) (f_mvs (a_F X) g)) (upd (f_bs (f_setbs (a_F X) (f_mvs (a_F X) g))) g ((f_bs (f_setbs (a_F X) (f_mvs (a_F X) g)) g) - (f_mv (a_F X) g))), a_K X, a_kp X, a_fd X, a_tp X, a_S X) (d_bf D, d_as D, f_gnr (a_F X) (d_gn D) 8, d_tk D, d_fr D, d_to D, d_vl D, d_fa D)) K 1 rfl (vp_in_nI (n := 4 + g) (N := 71) (by omega) (by omega)) (by rw [nI_clamp (n := 4 + g) (by omega), up_bs _ (by omega) _]; rfl) dX4_wander_95 ?_
      refine q_aload_n K 1 dX4_wander_96 rfl ?_
      refine q_get (.ref (B 1)) K ws_X4 0 rfl rfl 0 (by decide) fl_X4_7 rfl dX4_wander_97 ?_
      refine q_iconst 4 K dX4_wander_100 rfl ?_
      refine q_iload_n K 0 dX4_wander_101 rfl ?_
      refine q_iadd K dX4_wander_102 ?_
      refine q_eqi (nI (4 + g)) (kn_add 4 g) ?_
      refine q_iconst 1 K dX4_wander_103 rfl ?_
      refine q_iadd K dX4_wander_104 ?_
      refine q_eqi (nI ((4 + g) + 1)) (kn_add (4 + g) 1) ?_
      refine q_dup2 K dX4_wander_105 rfl rfl ?_
      refine q_iald K 1 rfl (vp_in_nI (n := (4 + g) + 1) (N := 71) (by omega) (by omega)) dX4_wander_106 ?_
      refine q_eqi (f_bs (f_setbs (f_setbs (a_F X) (f_mvs (a_F X) g)) (upd (f_bs (f_setbs (a_F X) (f_mvs (a_F X) g))) g ((f_bs (f_setbs (a_F X) (f_mvs (a_F X) g)) g) - (f_mv (a_F X) g)))) (g + 1)) (by rw [nI_clamp (n := (4 + g) + 1) (by omega)]; exact rw_bs1 _ (by omega)) ?_
      refine q_aload_n K 1 dX4_wander_107 rfl ?_
      refine q_get (.ref (B 10)) K ws_X4 0 rfl rfl 11 (by decide) fl_X4_37 rfl dX4_wander_108 ?_
      refine q_iload_n K 0 dX4_wander_111 rfl ?_
      refine q_iald K 10 rfl (vp_in_nI (n := g) (N := 8) (by omega) (by omega)) dX4_wander_112 ?_
      refine q_eqi ((f_gnr (a_F X) (d_gn D) 8) g) (by rw [nI_clamp (n := g) (by omega)]) ?_
      refine q_eqi (f_mv (a_F X) g) (f_gnr_at _ _ 8 (by omega)) ?_
      refine q_iadd K dX4_wander_113 ?_
      refine q_iast (ws' := w_M (k_Z M) B (f_setbs (f_setbs (f_setbs (a_F X) (f_mvs (a_F X) g)) (upd (f_bs (f_setbs (a_F X) (f_mvs (a_F X) g))) g ((f_bs (f_setbs (a_F X) (f_mvs (a_F X) g)) g) - (f_mv (a_F X) g)))) (upd (f_bs (f_setbs (f_setbs (a_F X) (f_mvs (a_F X) g)) (upd (f_bs (f_setbs (a_F X) (f_mvs (a_F X) g))) g ((f_bs (f_setbs (a_F X) (f_mvs (a_F X) g)) g) - (f_mv (a_F X) g))))) (g + 1) ((f_bs (f_setbs (f_setbs (a_F X) (f_mvs (a_F X) g)) (upd (f_bs (f_setbs (a_F X) (f_mvs (a_F X) g))) g ((f_bs (f_setbs (a_F X) (f_mvs (a_F X) g)) g) - (f_mv (a_F X) g)))) (g + 1)) + (f_mv (a_F X) g))), a_K X, a_kp X, a_fd X, a_tp X, a_S X) (d_bf D, d_as D, f_gnr (a_F X) (d_gn D) 8, d_tk D, d_fr D, d_to D, d_vl D, d_fa D)) K 1 rfl (vp_in_nI (n := (4 + g) + 1) (N := 71) (by omega) (by omega)) (by rw [nI_clamp (n := (4 + g) + 1) (by omega), up_bs1 _ (by omega) _]; rfl) dX4_wander_114 ?_
      refine q_iinc (nI (g + 1)) (lv' := [(1, .int (nI (g + 1))), (0, .ref (B 0))]) K 0 dX4_wander_115 rfl (kn_inc g) (by decide) rfl ?_
      refine q_goto 73 K dX4_wander_118 (by decide) ?_
      refine q_ws (ws' := w_M (k_Z M) B (f_setbs (a_F X) (f_mvs (a_F X) (g + 1)), a_K X, a_kp X, a_fd X, a_tp X, a_S X) (d_bf D, d_as D, f_gnr (a_F X) (d_gn D) 8, d_tk D, d_fr D, d_to D, d_vl D, d_fa D)) rfl ?_
      exact ih_7 (n_5 - 1) (g + 1) (by omega) (by omega)
  · have c_4n : ¬ (8 ≤ g) := fun h9 => c_4 ((nI_leI (a := 8) (b := g) (by omega) (by omega)).mpr h9)
    refine q_aload_n K 1 dX4_wander_8 rfl ?_
    refine q_get (.ref (B 1)) K ws_X4 0 rfl rfl 0 (by decide) fl_X4_7 rfl dX4_wander_9 ?_
    refine q_iconst 4 K dX4_wander_12 rfl ?_
    refine q_iload_n K 0 dX4_wander_13 rfl ?_
    refine q_iadd K dX4_wander_14 ?_
    refine q_eqi (nI (4 + g)) (kn_add 4 g) ?_
    refine q_iald K 1 rfl (vp_in_nI (n := 4 + g) (N := 71) (by omega) (by omega)) dX4_wander_15 ?_
    refine q_eqi (f_bs (a_F X) g) (by rw [nI_clamp (n := 4 + g) (by omega)]; exact rw_bs _ (by omega)) ?_
    refine q_aload_n K 1 dX4_wander_16 rfl ?_
    refine q_get (.ref (B 1)) K ws_X4 0 rfl rfl 0 (by decide) fl_X4_7 rfl dX4_wander_17 ?_
    refine q_iconst 4 K dX4_wander_20 rfl ?_
    refine q_iload_n K 0 dX4_wander_21 rfl ?_
    refine q_iadd K dX4_wander_22 ?_
    refine q_eqi (nI (4 + g)) (kn_add 4 g) ?_
    refine q_iconst 1 K dX4_wander_23 rfl ?_
    refine q_iadd K dX4_wander_24 ?_
    refine q_eqi (nI ((4 + g) + 1)) (kn_add (4 + g) 1) ?_
    refine q_iald K 1 rfl (vp_in_nI (n := (4 + g) + 1) (N := 71) (by omega) (by omega)) dX4_wander_25 ?_
    refine q_eqi (f_bs (a_F X) (g + 1)) (by rw [nI_clamp (n := (4 + g) + 1) (by omega)]; exact rw_bs1 _ (by omega)) ?_
    refine q_isub K dX4_wander_26 ?_
    refine q_istore_n (lv' := [(2, .int ((f_bs (a_F X) g) - (f_bs (a_F X) (g + 1)))), (1, .int (nI g)), (0, .ref (B 0))]) K dX4_wander_27 (by decide) rfl ?_
    refine q_aload_n K 2 dX4_wander_28 rfl ?_
    refine q_get (.ref (B 1)) K ws_X4 0 rfl rfl 0 (by decide) fl_X4_7 rfl dX4_wander_29 ?_
    refine q_bipush 13 K dX4_wander_32 rfl ?_
    refine q_iload_n K 1 dX4_wander_34 rfl ?_
    refine q_iadd K dX4_wander_35 ?_
    refine q_eqi (nI (13 + g)) (kn_add 13 g) ?_
    refine q_iald K 1 rfl (vp_in_nI (n := 13 + g) (N := 71) (by omega) (by omega)) dX4_wander_36 ?_
    refine q_eqi (f_gs (a_F X) g) (by rw [nI_clamp (n := 13 + g) (by omega)]; exact rw_gs _ (by omega)) ?_
    refine q_istore_n (lv' := [(3, .int (f_gs (a_F X) g)), (2, .int ((f_bs (a_F X) g) - (f_bs (a_F X) (g + 1)))), (1, .int (nI g)), (0, .ref (B 0))]) K dX4_wander_37 (by decide) rfl ?_
    refine q_aload_n K 3 dX4_wander_38 rfl ?_
    refine q_get (.ref (B 10)) K ws_X4 0 rfl rfl 11 (by decide) fl_X4_37 rfl dX4_wander_39 ?_
    refine q_iload_n K 2 dX4_wander_42 rfl ?_
    refine q_iload_n K 0 dX4_wander_43 rfl ?_
    refine q_if_ne 51 K dX4_wander_44 (by decide) (fun c_9 => ?_) (fun c_9 => ?_)
    · refine q_iload_n K 1 dX4_wander_51 rfl ?_
      refine q_iload_n K 0 dX4_wander_52 rfl ?_
      refine q_iconst 1 K dX4_wander_53 rfl ?_
      refine q_icmp_ne 62 K dX4_wander_54 (by decide) (fun c_10 => ?_) (fun c_10 => ?_)
      · refine q_iconst 4 K dX4_wander_62 rfl ?_
        refine q_idiv K dX4_wander_63 (by decide) ?_
        refine q_eqi (f_mv (a_F X) g) (by simp only [f_mv, f_thr, if_neg c_9, if_neg c_10]) ?_
        refine q_iast (ws' := w_M (k_Z M) B X (d_bf D, d_as D, upd (f_gnr (a_F X) (d_gn D) g) g (f_mv (a_F X) g), d_tk D, d_fr D, d_to D, d_vl D, d_fa D)) K 10 rfl (vp_in_nI (n := g) (N := 8) (by omega) (by omega)) (by rw [nI_clamp (n := g) (by omega)] <;> rfl) dX4_wander_64 ?_
        refine q_iinc (nI (g + 1)) (lv' := [(1, .int (nI (g + 1))), (3, .int (f_gs (a_F X) g)), (2, .int ((f_bs (a_F X) g) - (f_bs (a_F X) (g + 1)))), (0, .ref (B 0))]) K 2 dX4_wander_65 rfl (kn_inc g) (by decide) rfl ?_
        refine q_goto 2 K dX4_wander_68 (by decide) ?_
        refine q_lv [0, 3] rfl ?_
        exact ih_3 (n_1 - 1) (g + 1) (by omega) (by omega)
      · refine q_bipush 16 K dX4_wander_57 rfl ?_
        refine q_goto 63 K dX4_wander_59 (by decide) ?_
        refine q_idiv K dX4_wander_63 (by decide) ?_
        refine q_eqi (f_mv (a_F X) g) (by simp only [f_mv, f_thr, if_neg c_9, if_pos c_10]) ?_
        refine q_iast (ws' := w_M (k_Z M) B X (d_bf D, d_as D, upd (f_gnr (a_F X) (d_gn D) g) g (f_mv (a_F X) g), d_tk D, d_fr D, d_to D, d_vl D, d_fa D)) K 10 rfl (vp_in_nI (n := g) (N := 8) (by omega) (by omega)) (by rw [nI_clamp (n := g) (by omega)] <;> rfl) dX4_wander_64 ?_
        refine q_iinc (nI (g + 1)) (lv' := [(1, .int (nI (g + 1))), (3, .int (f_gs (a_F X) g)), (2, .int ((f_bs (a_F X) g) - (f_bs (a_F X) (g + 1)))), (0, .ref (B 0))]) K 2 dX4_wander_65 rfl (kn_inc g) (by decide) rfl ?_
        refine q_goto 2 K dX4_wander_68 (by decide) ?_
        refine q_lv [0, 3] rfl ?_
        exact ih_3 (n_1 - 1) (g + 1) (by omega) (by omega)
    · refine q_iconst 0 K dX4_wander_47 rfl ?_
      refine q_goto 64 K dX4_wander_48 (by decide) ?_
      refine q_eqi (f_mv (a_F X) g) (by simp only [f_mv, f_thr, if_pos c_9]) ?_
      refine q_iast (ws' := w_M (k_Z M) B X (d_bf D, d_as D, upd (f_gnr (a_F X) (d_gn D) g) g (f_mv (a_F X) g), d_tk D, d_fr D, d_to D, d_vl D, d_fa D)) K 10 rfl (vp_in_nI (n := g) (N := 8) (by omega) (by omega)) (by rw [nI_clamp (n := g) (by omega)] <;> rfl) dX4_wander_64 ?_
      refine q_iinc (nI (g + 1)) (lv' := [(1, .int (nI (g + 1))), (3, .int (f_gs (a_F X) g)), (2, .int ((f_bs (a_F X) g) - (f_bs (a_F X) (g + 1)))), (0, .ref (B 0))]) K 2 dX4_wander_65 rfl (kn_inc g) (by decide) rfl ?_
      refine q_goto 2 K dX4_wander_68 (by decide) ?_
      refine q_lv [0, 3] rfl ?_
      exact ih_3 (n_1 - 1) (g + 1) (by omega) (by omega)
theorem kv_X4_wander : k_iv yX4_wander cX4_wander 4 none 0 := ⟨⟨im_X4_wander, se_X4_wander⟩, in_X4, co_X4_wander, by decide +kernel⟩
set_option maxHeartbeats 4000000 in
set_option maxRecDepth 100000 in
theorem c_X4_hourBut (l : Launch) (Z : kz_Z) (B : Nat → Nat) (X : AS) (D : DJ) (m : Nat) (hm : m ≤ 8) (hm2 : f_wk (a_F X) = nI m) (hok : f_ok (a_F X)) (c : Int32) : KV l Z yX4_hourBut cX4_hourBut 5 3 73 [.ref (B 0), .int c] (w_M Z B X D) (fun w2 => ∃ x, w2 = w_M Z B (a_setF X (f_hourR (f_gn c) (a_F X))) (d_setgn D x)) := by
  refine kv_of (by decide) [(0, .ref (B 0)), (1, .int c)] (Nat.le_of_ble_eq_true rfl) rfl ?_
  intro M e1 e2 K Rt
  subst e1 e2
  refine q_iconst 0 K dX4_hourBut_0 rfl ?_
  refine q_istore_n (lv' := [(2, .int 0), (0, .ref (B 0)), (1, .int c)]) K dX4_hourBut_1 (by decide) rfl ?_
  refine q_lv [0, 1, 2] rfl ?_
  refine q_loop (α := Nat) (fun n9 w => w + n9 = m) 2 (fun w => [(2, .int (nI w)), (0, .ref (B 0)), (1, .int c)]) (fun w => w_M (k_Z M) B (f_wks (f_gn c) (a_F X) w, a_K X, a_kp X, a_fd X, a_tp X, a_S X) D) (fun n_1 w hI_2 ih_3 => ?_) m 0 (by omega)
  refine q_iload_n K 0 dX4_hourBut_2 rfl ?_
  refine q_aload_n K 1 dX4_hourBut_3 rfl ?_
  refine q_get (.ref (B 1)) K ws_X4 0 rfl rfl 0 (by decide) fl_X4_7 rfl dX4_hourBut_4 ?_
  refine q_iconst 0 K dX4_hourBut_7 rfl ?_
  refine q_iald K 1 rfl (vp_in_nI (n := 0) (N := 71) (by omega) (by omega)) dX4_hourBut_8 ?_
  refine q_eqi (f_wk (f_wks (f_gn c) (a_F X) w)) rfl ?_
  refine q_eqi (nI m) ((f_wks_wk _ _ _).trans hm2) ?_
  refine q_icmp_ge 57 K dX4_hourBut_9 (by decide) (fun c_4 => ?_) (fun c_4 => ?_)
  · have c_4n : m ≤ w := (nI_leI (a := m) (b := w) (by omega) (by omega)).mp c_4
    refine q_ws (ws' := w_M (k_Z M) B (f_wks (f_gn c) (a_F X) m, a_K X, a_kp X, a_fd X, a_tp X, a_S X) D) (by rw [show w = m by omega]) ?_
    refine q_aload_n K 1 dX4_hourBut_57 rfl ?_
    refine q_wV (q0 := 0) (As := []) (rest := []) K kv_X4_wander (c_X4_wander (k_l M) (k_Z M) B (f_wks (f_gn c) (a_F X) m, a_K X, a_kp X, a_fd X, a_tp X, a_S X) D) rfl rfl ml_X4_112 rfl rfl (Nat.le_of_ble_eq_true rfl) ⟨Nat.le_of_ble_eq_true rfl, Nat.le_of_ble_eq_true rfl⟩ dX4_hourBut_58 (fun w2 h_5 => ?_)
    obtain rfl := h_5
    refine q_ws (ws' := w_M (k_Z M) B (f_move (f_wks (f_gn c) (a_F X) m), a_K X, a_kp X, a_fd X, a_tp X, a_S X) (d_bf D, d_as D, f_gnr (f_wks (f_gn c) (a_F X) m) (d_gn D) 8, d_tk D, d_fr D, d_to D, d_vl D, d_fa D)) rfl ?_
    refine q_iconst 0 K dX4_hourBut_61 rfl ?_
    refine q_ws (ws' := w_M (k_Z M) B (f_setgs (f_move (f_wks (f_gn c) (a_F X) m)) (f_blw (f_move (f_wks (f_gn c) (a_F X) m)) 0), a_K X, a_kp X, a_fd X, a_tp X, a_S X) (d_bf D, d_as D, f_gnr (f_wks (f_gn c) (a_F X) m) (d_gn D) 8, d_tk D, d_fr D, d_to D, d_vl D, d_fa D)) rfl ?_
    refine q_istore_n (lv' := [(2, .int 0), (0, .ref (B 0)), (1, .int c)]) K dX4_hourBut_62 (by decide) rfl ?_
    refine q_lv [0, 1, 2] rfl ?_
    refine q_loop (α := Nat) (fun n9 j => j + n9 = 8) 63 (fun j => [(2, .int (nI j)), (0, .ref (B 0)), (1, .int c)]) (fun j => w_M (k_Z M) B (f_setgs (f_move (f_wks (f_gn c) (a_F X) m)) (f_blw (f_move (f_wks (f_gn c) (a_F X) m)) j), a_K X, a_kp X, a_fd X, a_tp X, a_S X) (d_bf D, d_as D, f_gnr (f_wks (f_gn c) (a_F X) m) (d_gn D) 8, d_tk D, d_fr D, d_to D, d_vl D, d_fa D)) (fun n_7 j hI_8 ih_9 => ?_) 8 0 (by omega)
    refine q_iload_n K 0 dX4_hourBut_63 rfl ?_
    refine q_bipush 8 K dX4_hourBut_64 rfl ?_
    refine q_icmp_ge 131 K dX4_hourBut_66 (by decide) (fun c_10 => ?_) (fun c_10 => ?_)
    · have c_10n : 8 ≤ j := (nI_leI (a := 8) (b := j) (by omega) (by omega)).mp c_10
      refine q_aload_n K 1 dX4_hourBut_131 rfl ?_
      refine q_get (.ref (B 1)) K ws_X4 0 rfl rfl 0 (by decide) fl_X4_7 rfl dX4_hourBut_132 ?_
      refine q_iconst 1 K dX4_hourBut_135 rfl ?_
      refine q_dup2 K dX4_hourBut_136 rfl rfl ?_
      refine q_iald K 1 rfl (vp_in_nI (n := 1) (N := 71) (by omega) (by omega)) dX4_hourBut_137 ?_
      refine q_eqi (f_hr (f_setgs (f_move (f_wks (f_gn c) (a_F X) m)) (f_blw (f_move (f_wks (f_gn c) (a_F X) m)) j))) rfl ?_
      refine q_iconst 1 K dX4_hourBut_138 rfl ?_
      refine q_iadd K dX4_hourBut_139 ?_
      refine q_iast (ws' := w_M (k_Z M) B (f_sethr (f_setgs (f_move (f_wks (f_gn c) (a_F X) m)) (f_blw (f_move (f_wks (f_gn c) (a_F X) m)) j)) ((f_hr (f_setgs (f_move (f_wks (f_gn c) (a_F X) m)) (f_blw (f_move (f_wks (f_gn c) (a_F X) m)) j))) + 1), a_K X, a_kp X, a_fd X, a_tp X, a_S X) (d_bf D, d_as D, f_gnr (f_wks (f_gn c) (a_F X) m) (d_gn D) 8, d_tk D, d_fr D, d_to D, d_vl D, d_fa D)) K 1 rfl (vp_in_nI (n := 1) (N := 71) (by omega) (by omega)) (by rw [show (1 : Int32).toNatClampNeg = 1 from rfl, up_1 _ _]; rfl) dX4_hourBut_140 ?_
      exact Rt _ _ (w_M (k_Z M) B (f_sethr (f_setgs (f_move (f_wks (f_gn c) (a_F X) m)) (f_blw (f_move (f_wks (f_gn c) (a_F X) m)) j)) ((f_hr (f_setgs (f_move (f_wks (f_gn c) (a_F X) m)) (f_blw (f_move (f_wks (f_gn c) (a_F X) m)) j))) + 1), a_K X, a_kp X, a_fd X, a_tp X, a_S X) (d_bf D, d_as D, f_gnr (f_wks (f_gn c) (a_F X) m) (d_gn D) 8, d_tk D, d_fr D, d_to D, d_vl D, d_fa D)) dX4_hourBut_141 (⟨_, by rw [f_hourR, f_hour, hm2, nI_clamp (by omega), show j = 8 by omega]; rfl⟩)
    · have c_10n : ¬ (8 ≤ j) := fun h9 => c_10 ((nI_leI (a := 8) (b := j) (by omega) (by omega)).mpr h9)
      refine q_aload_n K 1 dX4_hourBut_69 rfl ?_
      refine q_get (.ref (B 1)) K ws_X4 0 rfl rfl 0 (by decide) fl_X4_7 rfl dX4_hourBut_70 ?_
      refine q_iconst 3 K dX4_hourBut_73 rfl ?_
      refine q_iald K 1 rfl (vp_in_nI (n := 3) (N := 71) (by omega) (by omega)) dX4_hourBut_74 ?_
      refine q_eqi (f_wd (f_setgs (f_move (f_wks (f_gn c) (a_F X) m)) (f_blw (f_move (f_wks (f_gn c) (a_F X) m)) j))) rfl ?_
      refine q_bipush 7 K dX4_hourBut_75 rfl ?_
      refine q_icmp_lt 97 K dX4_hourBut_77 (by decide) (fun c_11 => ?_) (fun c_11 => ?_)
      · refine q_iconst 0 K dX4_hourBut_97 rfl ?_
        refine q_istore_n (lv' := [(3, .int 0), (2, .int (nI j)), (0, .ref (B 0)), (1, .int c)]) K dX4_hourBut_98 (by decide) rfl ?_
        refine q_aload_n K 2 dX4_hourBut_99 rfl ?_
        refine q_get (.ref (B 1)) K ws_X4 0 rfl rfl 0 (by decide) fl_X4_7 rfl dX4_hourBut_100 ?_
        refine q_bipush 13 K dX4_hourBut_103 rfl ?_
        refine q_iload_n K 1 dX4_hourBut_105 rfl ?_
        refine q_iadd K dX4_hourBut_106 ?_
        refine q_eqi (nI (13 + j)) (kn_add 13 j) ?_
        refine q_iload_n K 0 dX4_hourBut_107 rfl ?_
        refine q_if_eq 115 K dX4_hourBut_108 (by decide) (fun c_0 => ?_) (fun c_0 => absurd c_0 (by decide))
        refine q_aload_n K 2 dX4_hourBut_115 rfl ?_
        refine q_get (.ref (B 1)) K ws_X4 0 rfl rfl 0 (by decide) fl_X4_7 rfl dX4_hourBut_116 ?_
        refine q_bipush 13 K dX4_hourBut_119 rfl ?_
        refine q_iload_n K 1 dX4_hourBut_121 rfl ?_
        refine q_iadd K dX4_hourBut_122 ?_
        refine q_eqi (nI (13 + j)) (kn_add 13 j) ?_
        refine q_iald K 1 rfl (vp_in_nI (n := 13 + j) (N := 71) (by omega) (by omega)) dX4_hourBut_123 ?_
        refine q_eqi (f_gs (f_setgs (f_move (f_wks (f_gn c) (a_F X) m)) (f_blw (f_move (f_wks (f_gn c) (a_F X) m)) j)) j) (by rw [nI_clamp (n := 13 + j) (by omega)]; exact rw_gs _ (by omega)) ?_
        refine q_iast (ws' := w_M (k_Z M) B (f_setgs (f_setgs (f_move (f_wks (f_gn c) (a_F X) m)) (f_blw (f_move (f_wks (f_gn c) (a_F X) m)) j)) (upd (f_gs (f_setgs (f_move (f_wks (f_gn c) (a_F X) m)) (f_blw (f_move (f_wks (f_gn c) (a_F X) m)) j))) j (f_gs (f_setgs (f_move (f_wks (f_gn c) (a_F X) m)) (f_blw (f_move (f_wks (f_gn c) (a_F X) m)) j)) j)), a_K X, a_kp X, a_fd X, a_tp X, a_S X) (d_bf D, d_as D, f_gnr (f_wks (f_gn c) (a_F X) m) (d_gn D) 8, d_tk D, d_fr D, d_to D, d_vl D, d_fa D)) K 1 rfl (vp_in_nI (n := 13 + j) (N := 71) (by omega) (by omega)) (by rw [nI_clamp (n := 13 + j) (by omega), up_gs _ (by omega) _]; rfl) dX4_hourBut_124 ?_
        refine q_iinc (nI (j + 1)) (lv' := [(2, .int (nI (j + 1))), (3, .int 0), (0, .ref (B 0)), (1, .int c)]) K 1 dX4_hourBut_125 rfl (kn_inc j) (by decide) rfl ?_
        refine q_goto 63 K dX4_hourBut_128 (by decide) ?_
        refine q_lv [0, 2, 3] rfl ?_
        refine q_ws (ws' := w_M (k_Z M) B (f_setgs (f_move (f_wks (f_gn c) (a_F X) m)) (f_blw (f_move (f_wks (f_gn c) (a_F X) m)) (j + 1)), a_K X, a_kp X, a_fd X, a_tp X, a_S X) (d_bf D, d_as D, f_gnr (f_wks (f_gn c) (a_F X) m) (d_gn D) 8, d_tk D, d_fr D, d_to D, d_vl D, d_fa D)) (congrArg (fun F9 => w_M (k_Z M) B (a_setF X F9) (d_bf D, d_as D, f_gnr (f_wks (f_gn c) (a_F X) m) (d_gn D) 8, d_tk D, d_fr D, d_to D, d_vl D, d_fa D)) (f_blw_lt c_11)) ?_
        exact ih_9 (n_7 - 1) (j + 1) (by omega) (by omega)
      · refine q_aload_n K 1 dX4_hourBut_80 rfl ?_
        refine q_get (.ref (B 1)) K ws_X4 0 rfl rfl 0 (by decide) fl_X4_7 rfl dX4_hourBut_81 ?_
        refine q_bipush 13 K dX4_hourBut_84 rfl ?_
        refine q_iload_n K 0 dX4_hourBut_86 rfl ?_
        refine q_iadd K dX4_hourBut_87 ?_
        refine q_eqi (nI (13 + j)) (kn_add 13 j) ?_
        refine q_iald K 1 rfl (vp_in_nI (n := 13 + j) (N := 71) (by omega) (by omega)) dX4_hourBut_88 ?_
        refine q_eqi (f_gs (f_setgs (f_move (f_wks (f_gn c) (a_F X) m)) (f_blw (f_move (f_wks (f_gn c) (a_F X) m)) j)) j) (by rw [nI_clamp (n := 13 + j) (by omega)]; exact rw_gs _ (by omega)) ?_
        refine q_iconst 3 K dX4_hourBut_89 rfl ?_
        refine q_icmp_eq 97 K dX4_hourBut_90 (by decide) (fun c_12 => ?_) (fun c_12 => ?_)
        · refine q_iconst 0 K dX4_hourBut_97 rfl ?_
          refine q_istore_n (lv' := [(3, .int 0), (2, .int (nI j)), (0, .ref (B 0)), (1, .int c)]) K dX4_hourBut_98 (by decide) rfl ?_
          refine q_aload_n K 2 dX4_hourBut_99 rfl ?_
          refine q_get (.ref (B 1)) K ws_X4 0 rfl rfl 0 (by decide) fl_X4_7 rfl dX4_hourBut_100 ?_
          refine q_bipush 13 K dX4_hourBut_103 rfl ?_
          refine q_iload_n K 1 dX4_hourBut_105 rfl ?_
          refine q_iadd K dX4_hourBut_106 ?_
          refine q_eqi (nI (13 + j)) (kn_add 13 j) ?_
          refine q_iload_n K 0 dX4_hourBut_107 rfl ?_
          refine q_if_eq 115 K dX4_hourBut_108 (by decide) (fun c_0 => ?_) (fun c_0 => absurd c_0 (by decide))
          refine q_aload_n K 2 dX4_hourBut_115 rfl ?_
          refine q_get (.ref (B 1)) K ws_X4 0 rfl rfl 0 (by decide) fl_X4_7 rfl dX4_hourBut_116 ?_
          refine q_bipush 13 K dX4_hourBut_119 rfl ?_
          refine q_iload_n K 1 dX4_hourBut_121 rfl ?_
          refine q_iadd K dX4_hourBut_122 ?_
          refine q_eqi (nI (13 + j)) (kn_add 13 j) ?_
          refine q_iald K 1 rfl (vp_in_nI (n := 13 + j) (N := 71) (by omega) (by omega)) dX4_hourBut_123 ?_
          refine q_eqi (f_gs (f_setgs (f_move (f_wks (f_gn c) (a_F X) m)) (f_blw (f_move (f_wks (f_gn c) (a_F X) m)) j)) j) (by rw [nI_clamp (n := 13 + j) (by omega)]; exact rw_gs _ (by omega)) ?_
          refine q_iast (ws' := w_M (k_Z M) B (f_setgs (f_setgs (f_move (f_wks (f_gn c) (a_F X) m)) (f_blw (f_move (f_wks (f_gn c) (a_F X) m)) j)) (upd (f_gs (f_setgs (f_move (f_wks (f_gn c) (a_F X) m)) (f_blw (f_move (f_wks (f_gn c) (a_F X) m)) j))) j (f_gs (f_setgs (f_move (f_wks (f_gn c) (a_F X) m)) (f_blw (f_move (f_wks (f_gn c) (a_F X) m)) j)) j)), a_K X, a_kp X, a_fd X, a_tp X, a_S X) (d_bf D, d_as D, f_gnr (f_wks (f_gn c) (a_F X) m) (d_gn D) 8, d_tk D, d_fr D, d_to D, d_vl D, d_fa D)) K 1 rfl (vp_in_nI (n := 13 + j) (N := 71) (by omega) (by omega)) (by rw [nI_clamp (n := 13 + j) (by omega), up_gs _ (by omega) _]; rfl) dX4_hourBut_124 ?_
          refine q_iinc (nI (j + 1)) (lv' := [(2, .int (nI (j + 1))), (3, .int 0), (0, .ref (B 0)), (1, .int c)]) K 1 dX4_hourBut_125 rfl (kn_inc j) (by decide) rfl ?_
          refine q_goto 63 K dX4_hourBut_128 (by decide) ?_
          refine q_lv [0, 2, 3] rfl ?_
          refine q_ws (ws' := w_M (k_Z M) B (f_setgs (f_move (f_wks (f_gn c) (a_F X) m)) (f_blw (f_move (f_wks (f_gn c) (a_F X) m)) (j + 1)), a_K X, a_kp X, a_fd X, a_tp X, a_S X) (d_bf D, d_as D, f_gnr (f_wks (f_gn c) (a_F X) m) (d_gn D) 8, d_tk D, d_fr D, d_to D, d_vl D, d_fa D)) (congrArg (fun F9 => w_M (k_Z M) B (a_setF X F9) (d_bf D, d_as D, f_gnr (f_wks (f_gn c) (a_F X) m) (d_gn D) 8, d_tk D, d_fr D, d_to D, d_vl D, d_fa D)) (f_blw_3 c_11 c_12)) ?_
          exact ih_9 (n_7 - 1) (j + 1) (by omega) (by omega)
        · refine q_iconst 1 K dX4_hourBut_93 rfl ?_
          refine q_goto 98 K dX4_hourBut_94 (by decide) ?_
          refine q_istore_n (lv' := [(3, .int 1), (2, .int (nI j)), (0, .ref (B 0)), (1, .int c)]) K dX4_hourBut_98 (by decide) rfl ?_
          refine q_aload_n K 2 dX4_hourBut_99 rfl ?_
          refine q_get (.ref (B 1)) K ws_X4 0 rfl rfl 0 (by decide) fl_X4_7 rfl dX4_hourBut_100 ?_
          refine q_bipush 13 K dX4_hourBut_103 rfl ?_
          refine q_iload_n K 1 dX4_hourBut_105 rfl ?_
          refine q_iadd K dX4_hourBut_106 ?_
          refine q_eqi (nI (13 + j)) (kn_add 13 j) ?_
          refine q_iload_n K 0 dX4_hourBut_107 rfl ?_
          refine q_if_eq 115 K dX4_hourBut_108 (by decide) (fun c_0 => absurd c_0 (by decide)) (fun c_0 => ?_)
          refine q_iconst 0 K dX4_hourBut_111 rfl ?_
          refine q_goto 124 K dX4_hourBut_112 (by decide) ?_
          refine q_iast (ws' := w_M (k_Z M) B (f_setgs (f_setgs (f_move (f_wks (f_gn c) (a_F X) m)) (f_blw (f_move (f_wks (f_gn c) (a_F X) m)) j)) (upd (f_gs (f_setgs (f_move (f_wks (f_gn c) (a_F X) m)) (f_blw (f_move (f_wks (f_gn c) (a_F X) m)) j))) j 0), a_K X, a_kp X, a_fd X, a_tp X, a_S X) (d_bf D, d_as D, f_gnr (f_wks (f_gn c) (a_F X) m) (d_gn D) 8, d_tk D, d_fr D, d_to D, d_vl D, d_fa D)) K 1 rfl (vp_in_nI (n := 13 + j) (N := 71) (by omega) (by omega)) (by rw [nI_clamp (n := 13 + j) (by omega), up_gs _ (by omega) _]; rfl) dX4_hourBut_124 ?_
          refine q_iinc (nI (j + 1)) (lv' := [(2, .int (nI (j + 1))), (3, .int 1), (0, .ref (B 0)), (1, .int c)]) K 1 dX4_hourBut_125 rfl (kn_inc j) (by decide) rfl ?_
          refine q_goto 63 K dX4_hourBut_128 (by decide) ?_
          refine q_lv [0, 2, 3] rfl ?_
          refine q_ws (ws' := w_M (k_Z M) B (f_setgs (f_move (f_wks (f_gn c) (a_F X) m)) (f_blw (f_move (f_wks (f_gn c) (a_F X) m)) (j + 1)), a_K X, a_kp X, a_fd X, a_tp X, a_S X) (d_bf D, d_as D, f_gnr (f_wks (f_gn c) (a_F X) m) (d_gn D) 8, d_tk D, d_fr D, d_to D, d_vl D, d_fa D)) (congrArg (fun F9 => w_M (k_Z M) B (a_setF X F9) (d_bf D, d_as D, f_gnr (f_wks (f_gn c) (a_F X) m) (d_gn D) 8, d_tk D, d_fr D, d_to D, d_vl D, d_fa D)) (f_blw_0 c_11 c_12)) ?_
          exact ih_9 (n_7 - 1) (j + 1) (by omega) (by omega)
  · have c_4n : ¬ (m ≤ w) := fun h9 => c_4 ((nI_leI (a := m) (b := w) (by omega) (by omega)).mpr h9)
    refine q_iload_n K 2 dX4_hourBut_12 rfl ?_
    refine q_iload_n K 0 dX4_hourBut_13 rfl ?_
    refine q_ishr K dX4_hourBut_14 ?_
    refine q_iconst 1 K dX4_hourBut_15 rfl ?_
    refine q_iand K dX4_hourBut_16 ?_
    refine q_iconst 1 K dX4_hourBut_17 rfl ?_
    refine q_icmp_ne 25 K dX4_hourBut_18 (by decide) (fun c_13 => ?_) (fun c_13 => ?_)
    · refine q_aload_n K 1 dX4_hourBut_25 rfl ?_
      refine q_iload_n K 0 dX4_hourBut_26 rfl ?_
      refine q_wI (q0 := 0) (As := [.int (nI w)]) (rest := []) K kv_X4_goesFar (c_X4_goesFar (k_l M) (k_Z M) B (f_wks (f_gn c) (a_F X) w, a_K X, a_kp X, a_fd X, a_tp X, a_S X) D w (by omega)) rfl rfl ml_X4_94 rfl rfl (Nat.le_of_ble_eq_true rfl) ⟨Nat.le_of_ble_eq_true rfl, Nat.le_of_ble_eq_true rfl⟩ dX4_hourBut_27 (fun r_15 w2 h_14 => ?_)
      obtain ⟨e_r_15, rfl⟩ := h_14
      refine q_eqi (f_goes (f_wks (f_gn c) (a_F X) w) w) e_r_15 ?_
      obtain ⟨k, hk, ek⟩ := f_goes_nat (f_wks (f_gn c) (a_F X) w) w
      have eq9 : f_its (f_wks (f_gn c) (a_F X) w) w k = f_wks (f_gn c) (a_F X) (w + 1) := by rw [f_wks, if_pos (f_gn_t c_13), f_letGo, ek, nI_clamp (by omega)]
      refine q_eqi (nI k) ek ?_
      refine q_istore_n (lv' := [(3, .int (nI k)), (2, .int (nI w)), (0, .ref (B 0)), (1, .int c)]) K dX4_hourBut_30 (by decide) rfl ?_
      refine q_iconst 0 K dX4_hourBut_31 rfl ?_
      refine q_istore (lv' := [(4, .int 0), (3, .int (nI k)), (2, .int (nI w)), (0, .ref (B 0)), (1, .int c)]) K dX4_hourBut_32 (by decide) rfl ?_
      refine q_loop (α := Nat) (fun n9 i => i + n9 = k) 34 (fun i => [(4, .int (nI i)), (3, .int (nI k)), (2, .int (nI w)), (0, .ref (B 0)), (1, .int c)]) (fun i => w_M (k_Z M) B (f_its (f_wks (f_gn c) (a_F X) w) w i, a_K X, a_kp X, a_fd X, a_tp X, a_S X) D) (fun n_16 i hI_17 ih_18 => ?_) k 0 (by omega)
      refine q_iload K 0 dX4_hourBut_34 rfl ?_
      refine q_iload_n K 1 dX4_hourBut_36 rfl ?_
      refine q_icmp_ge 51 K dX4_hourBut_37 (by decide) (fun c_19 => ?_) (fun c_19 => ?_)
      · have c_19n : k ≤ i := (nI_leI (a := k) (b := i) (by omega) (by omega)).mp c_19
        refine q_iinc (nI (w + 1)) (lv' := [(2, .int (nI (w + 1))), (4, .int (nI i)), (3, .int (nI k)), (0, .ref (B 0)), (1, .int c)]) K 2 dX4_hourBut_51 rfl (kn_inc w) (by decide) rfl ?_
        refine q_goto 2 K dX4_hourBut_54 (by decide) ?_
        refine q_lv [0, 3, 4] rfl ?_
        refine q_ws (ws' := w_M (k_Z M) B (f_wks (f_gn c) (a_F X) (w + 1), a_K X, a_kp X, a_fd X, a_tp X, a_S X) D) (by rw [show i = k by omega, eq9]) ?_
        exact ih_3 (n_1 - 1) (w + 1) (by omega) (by omega)
      · have c_19n : ¬ (k ≤ i) := fun h9 => c_19 ((nI_leI (a := k) (b := i) (by omega) (by omega)).mpr h9)
        refine q_aload_n K 3 dX4_hourBut_40 rfl ?_
        refine q_iload_n K 2 dX4_hourBut_41 rfl ?_
        refine q_wV (q0 := 0) (As := [.int (nI w)]) (rest := []) K kv_X4_walks (c_X4_walks (k_l M) (k_Z M) B (f_its (f_wks (f_gn c) (a_F X) w) w i, a_K X, a_kp X, a_fd X, a_tp X, a_S X) D w (by omega) (f_ok_its (f_ok_wks _ hok w (by omega)) w (by omega) i)) rfl rfl ml_X4_108 rfl rfl (Nat.le_of_ble_eq_true rfl) ⟨Nat.le_of_ble_eq_true rfl, Nat.le_of_ble_eq_true rfl⟩ dX4_hourBut_42 (fun w2 h_20 => ?_)
        obtain rfl := h_20
        refine q_ws (ws' := w_M (k_Z M) B (f_step (f_its (f_wks (f_gn c) (a_F X) w) w i) w, a_K X, a_kp X, a_fd X, a_tp X, a_S X) D) rfl ?_
        refine q_iinc (nI (i + 1)) (lv' := [(4, .int (nI (i + 1))), (3, .int (nI k)), (2, .int (nI w)), (0, .ref (B 0)), (1, .int c)]) K 0 dX4_hourBut_45 rfl (kn_inc i) (by decide) rfl ?_
        refine q_goto 34 K dX4_hourBut_48 (by decide) ?_
        exact ih_18 (n_16 - 1) (i + 1) (by omega) (by omega)
    · refine q_iconst 0 K dX4_hourBut_21 rfl ?_
      refine q_goto 30 K dX4_hourBut_22 (by decide) ?_
      obtain ⟨k, hk, ek, eq9⟩ : ∃ k : Nat, k ≤ 3 ∧ (0 : Int32) = nI k ∧ f_its (f_wks (f_gn c) (a_F X) w) w k = f_wks (f_gn c) (a_F X) (w + 1) := ⟨0, by omega, rfl, by rw [f_wks, if_neg (f_gn_f c_13)]; rfl⟩
      refine q_eqi (nI k) ek ?_
      refine q_istore_n (lv' := [(3, .int (nI k)), (2, .int (nI w)), (0, .ref (B 0)), (1, .int c)]) K dX4_hourBut_30 (by decide) rfl ?_
      refine q_iconst 0 K dX4_hourBut_31 rfl ?_
      refine q_istore (lv' := [(4, .int 0), (3, .int (nI k)), (2, .int (nI w)), (0, .ref (B 0)), (1, .int c)]) K dX4_hourBut_32 (by decide) rfl ?_
      refine q_loop (α := Nat) (fun n9 i => i + n9 = k) 34 (fun i => [(4, .int (nI i)), (3, .int (nI k)), (2, .int (nI w)), (0, .ref (B 0)), (1, .int c)]) (fun i => w_M (k_Z M) B (f_its (f_wks (f_gn c) (a_F X) w) w i, a_K X, a_kp X, a_fd X, a_tp X, a_S X) D) (fun n_22 i hI_23 ih_24 => ?_) k 0 (by omega)
      refine q_iload K 0 dX4_hourBut_34 rfl ?_
      refine q_iload_n K 1 dX4_hourBut_36 rfl ?_
      refine q_icmp_ge 51 K dX4_hourBut_37 (by decide) (fun c_25 => ?_) (fun c_25 => ?_)
      · have c_25n : k ≤ i := (nI_leI (a := k) (b := i) (by omega) (by omega)).mp c_25
        refine q_iinc (nI (w + 1)) (lv' := [(2, .int (nI (w + 1))), (4, .int (nI i)), (3, .int (nI k)), (0, .ref (B 0)), (1, .int c)]) K 2 dX4_hourBut_51 rfl (kn_inc w) (by decide) rfl ?_
        refine q_goto 2 K dX4_hourBut_54 (by decide) ?_
        refine q_lv [0, 3, 4] rfl ?_
        refine q_ws (ws' := w_M (k_Z M) B (f_wks (f_gn c) (a_F X) (w + 1), a_K X, a_kp X, a_fd X, a_tp X, a_S X) D) (by rw [show i = k by omega, eq9]) ?_
        exact ih_3 (n_1 - 1) (w + 1) (by omega) (by omega)
      · have c_25n : ¬ (k ≤ i) := fun h9 => c_25 ((nI_leI (a := k) (b := i) (by omega) (by omega)).mpr h9)
        refine q_aload_n K 3 dX4_hourBut_40 rfl ?_
        refine q_iload_n K 2 dX4_hourBut_41 rfl ?_
        refine q_wV (q0 := 0) (As := [.int (nI w)]) (rest := []) K kv_X4_walks (c_X4_walks (k_l M) (k_Z M) B (f_its (f_wks (f_gn c) (a_F X) w) w i, a_K X, a_kp X, a_fd X, a_tp X, a_S X) D w (by omega) (f_ok_its (f_ok_wks _ hok w (by omega)) w (by omega) i)) rfl rfl ml_X4_108 rfl rfl (Nat.le_of_ble_eq_true rfl) ⟨Nat.le_of_ble_eq_true rfl, Nat.le_of_ble_eq_true rfl⟩ dX4_hourBut_42 (fun w2 h_26 => ?_)
        obtain rfl := h_26
        refine q_ws (ws' := w_M (k_Z M) B (f_step (f_its (f_wks (f_gn c) (a_F X) w) w i) w, a_K X, a_kp X, a_fd X, a_tp X, a_S X) D) rfl ?_
        refine q_iinc (nI (i + 1)) (lv' := [(4, .int (nI (i + 1))), (3, .int (nI k)), (2, .int (nI w)), (0, .ref (B 0)), (1, .int c)]) K 0 dX4_hourBut_45 rfl (kn_inc i) (by decide) rfl ?_
        refine q_goto 34 K dX4_hourBut_48 (by decide) ?_
        exact ih_24 (n_22 - 1) (i + 1) (by omega) (by omega)
theorem kv_X4_hourBut : k_iv yX4_hourBut cX4_hourBut 5 none 1 := ⟨⟨im_X4_hourBut, se_X4_hourBut⟩, in_X4, co_X4_hourBut, by decide +kernel⟩
set_option maxHeartbeats 4000000 in
set_option maxRecDepth 100000 in
theorem c_X4_goes (l : Launch) (Z : kz_Z) (B : Nat → Nat) (X : AS) (D : DJ) (m : Nat) (hm : m ≤ 8) (hm2 : f_wk (a_F X) = nI m) (hok : f_ok (a_F X)) (n : Nat) (hn : n ≤ 100) : KV l Z yX4_goes cX4_goes 3 4 97 [.ref (B 0), .int (nI n)] (w_M Z B X D) (fun w2 => ∃ x, w2 = w_M Z B (a_setF X (f_hoursR (f_gn 0) (a_F X) n)) (d_setgn D x)) := by
  refine kv_of (by decide) [(0, .ref (B 0)), (1, .int (nI n))] (Nat.le_of_ble_eq_true rfl) rfl ?_
  intro M e1 e2 K Rt
  subst e1 e2
  refine q_iconst 0 K dX4_goes_0 rfl ?_
  refine q_istore_n (lv' := [(2, .int 0), (0, .ref (B 0)), (1, .int (nI n))]) K dX4_goes_1 (by decide) rfl ?_
  refine q_loop (α := Nat × (Nat → Int32)) (fun n9 x9 => x9.1 + n9 = n) 2 (fun x9 => [(2, .int (nI x9.1)), (0, .ref (B 0)), (1, .int (nI n))]) (fun x9 => w_M (k_Z M) B (f_hoursR (f_gn 0) (a_F X) x9.1, a_K X, a_kp X, a_fd X, a_tp X, a_S X) (d_bf D, d_as D, x9.2, d_tk D, d_fr D, d_to D, d_vl D, d_fa D)) (fun n_1 x9 hI_2 ih_3 => ?_) n (0, d_gn D) (by show _ = _; omega)
  obtain ⟨i, T1⟩ := x9
  dsimp only at hI_2 ih_3 ⊢
  refine q_iload_n K 0 dX4_goes_2 rfl ?_
  refine q_iload_n K 2 dX4_goes_3 rfl ?_
  refine q_icmp_ge 18 K dX4_goes_4 (by decide) (fun c_4 => ?_) (fun c_4 => ?_)
  · have c_4n : n ≤ i := (nI_leI (a := n) (b := i) (by omega) (by omega)).mp c_4
    exact Rt _ _ (w_M (k_Z M) B (f_hoursR (f_gn 0) (a_F X) i, a_K X, a_kp X, a_fd X, a_tp X, a_S X) (d_bf D, d_as D, T1, d_tk D, d_fr D, d_to D, d_vl D, d_fa D)) dX4_goes_18 (⟨_, by rw [show n = i by omega]; rfl⟩)
  · have c_4n : ¬ (n ≤ i) := fun h9 => c_4 ((nI_leI (a := n) (b := i) (by omega) (by omega)).mpr h9)
    refine q_aload_n K 1 dX4_goes_7 rfl ?_
    refine q_iconst 0 K dX4_goes_8 rfl ?_
    refine q_wV (q0 := 0) (As := [.int 0]) (rest := []) K kv_X4_hourBut (c_X4_hourBut (k_l M) (k_Z M) B (f_hoursR (f_gn 0) (a_F X) i, a_K X, a_kp X, a_fd X, a_tp X, a_S X) (d_bf D, d_as D, T1, d_tk D, d_fr D, d_to D, d_vl D, d_fa D) m hm ((f_hoursR_wk _ _ _).trans hm2) (f_ok_hoursR _ hok (by rw [f_mm hm hm2]; exact hm) i) 0) rfl rfl ml_X4_115 rfl rfl (Nat.le_of_ble_eq_true rfl) ⟨Nat.le_of_ble_eq_true rfl, Nat.le_of_ble_eq_true rfl⟩ dX4_goes_9 (fun w2 h_5 => ?_)
    obtain ⟨x_7, rfl⟩ := h_5
    refine q_ws (ws' := w_M (k_Z M) B (f_hourR (f_gn 0) (f_hoursR (f_gn 0) (a_F X) i), a_K X, a_kp X, a_fd X, a_tp X, a_S X) (d_bf D, d_as D, x_7, d_tk D, d_fr D, d_to D, d_vl D, d_fa D)) rfl ?_
    refine q_ws (ws' := w_M (k_Z M) B (f_hoursR (f_gn 0) (a_F X) (i + 1), a_K X, a_kp X, a_fd X, a_tp X, a_S X) (d_bf D, d_as D, x_7, d_tk D, d_fr D, d_to D, d_vl D, d_fa D)) rfl ?_
    refine q_iinc (nI (i + 1)) (lv' := [(2, .int (nI (i + 1))), (0, .ref (B 0)), (1, .int (nI n))]) K 0 dX4_goes_12 rfl (kn_inc i) (by decide) rfl ?_
    refine q_goto 2 K dX4_goes_15 (by decide) ?_
    exact ih_3 (n_1 - 1) (i + 1, x_7) (by omega) (by show i + 1 + (n_1 - 1) = n; omega)
theorem kv_X4_goes : k_iv yX4_goes cX4_goes 3 none 1 := ⟨⟨im_X4_goes, se_X4_goes⟩, in_X4, co_X4_goes, by decide +kernel⟩
set_option maxHeartbeats 4000000 in
set_option maxRecDepth 100000 in
theorem c_X4_allStand (l : Launch) (Z : kz_Z) (B : Nat → Nat) (X : AS) (D : DJ) : KI l Z yX4_allStand cX4_allStand 3 .int 0 0 [.ref (B 0)] (w_M Z B X D) (fun r w2 => r = f_by4 (a_F X) ∧ w2 = w_M Z B X D) := by
  refine ki_of (by decide) [(0, .ref (B 0))] (Nat.le_of_ble_eq_true rfl) rfl ?_
  intro M e1 e2 K Rt
  subst e1 e2
  refine q_iconst 0 K dX4_allStand_0 rfl ?_
  refine q_istore_n (lv' := [(1, .int 0), (0, .ref (B 0))]) K dX4_allStand_1 (by decide) rfl ?_
  refine q_bipush 7 K dX4_allStand_2 rfl ?_
  refine q_istore_n (lv' := [(2, .int 7), (1, .int 0), (0, .ref (B 0))]) K dX4_allStand_4 (by decide) rfl ?_
  refine q_iload_n K 0 dX4_allStand_5 rfl ?_
  refine q_if_lt 29 K dX4_allStand_6 (by decide) (fun c_0 => absurd c_0 (by decide)) (fun c_0 => ?_)
  refine q_iconst 4 K dX4_allStand_9 rfl ?_
  refine q_iload_n K 1 dX4_allStand_10 rfl ?_
  refine q_imul K dX4_allStand_11 ?_
  refine q_eqi 0 rfl ?_
  refine q_aload_n K 2 dX4_allStand_12 rfl ?_
  refine q_get (.ref (B 1)) K ws_X4 0 rfl rfl 0 (by decide) fl_X4_7 rfl dX4_allStand_13 ?_
  refine q_bipush 13 K dX4_allStand_16 rfl ?_
  refine q_iload_n K 0 dX4_allStand_18 rfl ?_
  refine q_iadd K dX4_allStand_19 ?_
  refine q_eqi 20 rfl ?_
  refine q_iald K 1 rfl (vp_in_nI (n := 20) (N := 71) (by omega) (by omega)) dX4_allStand_20 ?_
  refine q_eqi (f_gs (a_F X) 7) rfl ?_
  refine q_iadd K dX4_allStand_21 ?_
  refine q_istore_n (lv' := [(1, .int (0 + (f_gs (a_F X) 7))), (2, .int 7), (0, .ref (B 0))]) K dX4_allStand_22 (by decide) rfl ?_
  refine q_iinc 6 (lv' := [(2, .int 6), (1, .int (0 + (f_gs (a_F X) 7))), (0, .ref (B 0))]) K 1 dX4_allStand_23 rfl rfl (by decide) rfl ?_
  refine q_goto 5 K dX4_allStand_26 (by decide) ?_
  refine q_iload_n K 0 dX4_allStand_5 rfl ?_
  refine q_if_lt 29 K dX4_allStand_6 (by decide) (fun c_0 => absurd c_0 (by decide)) (fun c_0 => ?_)
  refine q_iconst 4 K dX4_allStand_9 rfl ?_
  refine q_iload_n K 1 dX4_allStand_10 rfl ?_
  refine q_imul K dX4_allStand_11 ?_
  refine q_aload_n K 2 dX4_allStand_12 rfl ?_
  refine q_get (.ref (B 1)) K ws_X4 0 rfl rfl 0 (by decide) fl_X4_7 rfl dX4_allStand_13 ?_
  refine q_bipush 13 K dX4_allStand_16 rfl ?_
  refine q_iload_n K 0 dX4_allStand_18 rfl ?_
  refine q_iadd K dX4_allStand_19 ?_
  refine q_eqi 19 rfl ?_
  refine q_iald K 1 rfl (vp_in_nI (n := 19) (N := 71) (by omega) (by omega)) dX4_allStand_20 ?_
  refine q_eqi (f_gs (a_F X) 6) rfl ?_
  refine q_iadd K dX4_allStand_21 ?_
  refine q_istore_n (lv' := [(1, .int ((4 * (0 + (f_gs (a_F X) 7))) + (f_gs (a_F X) 6))), (2, .int 6), (0, .ref (B 0))]) K dX4_allStand_22 (by decide) rfl ?_
  refine q_iinc 5 (lv' := [(2, .int 5), (1, .int ((4 * (0 + (f_gs (a_F X) 7))) + (f_gs (a_F X) 6))), (0, .ref (B 0))]) K 1 dX4_allStand_23 rfl rfl (by decide) rfl ?_
  refine q_goto 5 K dX4_allStand_26 (by decide) ?_
  refine q_iload_n K 0 dX4_allStand_5 rfl ?_
  refine q_if_lt 29 K dX4_allStand_6 (by decide) (fun c_0 => absurd c_0 (by decide)) (fun c_0 => ?_)
  refine q_iconst 4 K dX4_allStand_9 rfl ?_
  refine q_iload_n K 1 dX4_allStand_10 rfl ?_
  refine q_imul K dX4_allStand_11 ?_
  refine q_aload_n K 2 dX4_allStand_12 rfl ?_
  refine q_get (.ref (B 1)) K ws_X4 0 rfl rfl 0 (by decide) fl_X4_7 rfl dX4_allStand_13 ?_
  refine q_bipush 13 K dX4_allStand_16 rfl ?_
  refine q_iload_n K 0 dX4_allStand_18 rfl ?_
  refine q_iadd K dX4_allStand_19 ?_
  refine q_eqi 18 rfl ?_
  refine q_iald K 1 rfl (vp_in_nI (n := 18) (N := 71) (by omega) (by omega)) dX4_allStand_20 ?_
  refine q_eqi (f_gs (a_F X) 5) rfl ?_
  refine q_iadd K dX4_allStand_21 ?_
  refine q_istore_n (lv' := [(1, .int ((4 * ((4 * (0 + (f_gs (a_F X) 7))) + (f_gs (a_F X) 6))) + (f_gs (a_F X) 5))), (2, .int 5), (0, .ref (B 0))]) K dX4_allStand_22 (by decide) rfl ?_
  refine q_iinc 4 (lv' := [(2, .int 4), (1, .int ((4 * ((4 * (0 + (f_gs (a_F X) 7))) + (f_gs (a_F X) 6))) + (f_gs (a_F X) 5))), (0, .ref (B 0))]) K 1 dX4_allStand_23 rfl rfl (by decide) rfl ?_
  refine q_goto 5 K dX4_allStand_26 (by decide) ?_
  refine q_iload_n K 0 dX4_allStand_5 rfl ?_
  refine q_if_lt 29 K dX4_allStand_6 (by decide) (fun c_0 => absurd c_0 (by decide)) (fun c_0 => ?_)
  refine q_iconst 4 K dX4_allStand_9 rfl ?_
  refine q_iload_n K 1 dX4_allStand_10 rfl ?_
  refine q_imul K dX4_allStand_11 ?_
  refine q_aload_n K 2 dX4_allStand_12 rfl ?_
  refine q_get (.ref (B 1)) K ws_X4 0 rfl rfl 0 (by decide) fl_X4_7 rfl dX4_allStand_13 ?_
  refine q_bipush 13 K dX4_allStand_16 rfl ?_
  refine q_iload_n K 0 dX4_allStand_18 rfl ?_
  refine q_iadd K dX4_allStand_19 ?_
  refine q_eqi 17 rfl ?_
  refine q_iald K 1 rfl (vp_in_nI (n := 17) (N := 71) (by omega) (by omega)) dX4_allStand_20 ?_
  refine q_eqi (f_gs (a_F X) 4) rfl ?_
  refine q_iadd K dX4_allStand_21 ?_
  refine q_istore_n (lv' := [(1, .int ((4 * ((4 * ((4 * (0 + (f_gs (a_F X) 7))) + (f_gs (a_F X) 6))) + (f_gs (a_F X) 5))) + (f_gs (a_F X) 4))), (2, .int 4), (0, .ref (B 0))]) K dX4_allStand_22 (by decide) rfl ?_
  refine q_iinc 3 (lv' := [(2, .int 3), (1, .int ((4 * ((4 * ((4 * (0 + (f_gs (a_F X) 7))) + (f_gs (a_F X) 6))) + (f_gs (a_F X) 5))) + (f_gs (a_F X) 4))), (0, .ref (B 0))]) K 1 dX4_allStand_23 rfl rfl (by decide) rfl ?_
  refine q_goto 5 K dX4_allStand_26 (by decide) ?_
  refine q_iload_n K 0 dX4_allStand_5 rfl ?_
  refine q_if_lt 29 K dX4_allStand_6 (by decide) (fun c_0 => absurd c_0 (by decide)) (fun c_0 => ?_)
  refine q_iconst 4 K dX4_allStand_9 rfl ?_
  refine q_iload_n K 1 dX4_allStand_10 rfl ?_
  refine q_imul K dX4_allStand_11 ?_
  refine q_aload_n K 2 dX4_allStand_12 rfl ?_
  refine q_get (.ref (B 1)) K ws_X4 0 rfl rfl 0 (by decide) fl_X4_7 rfl dX4_allStand_13 ?_
  refine q_bipush 13 K dX4_allStand_16 rfl ?_
  refine q_iload_n K 0 dX4_allStand_18 rfl ?_
  refine q_iadd K dX4_allStand_19 ?_
  refine q_eqi 16 rfl ?_
  refine q_iald K 1 rfl (vp_in_nI (n := 16) (N := 71) (by omega) (by omega)) dX4_allStand_20 ?_
  refine q_eqi (f_gs (a_F X) 3) rfl ?_
  refine q_iadd K dX4_allStand_21 ?_
  refine q_istore_n (lv' := [(1, .int ((4 * ((4 * ((4 * ((4 * (0 + (f_gs (a_F X) 7))) + (f_gs (a_F X) 6))) + (f_gs (a_F X) 5))) + (f_gs (a_F X) 4))) + (f_gs (a_F X) 3))), (2, .int 3), (0, .ref (B 0))]) K dX4_allStand_22 (by decide) rfl ?_
  refine q_iinc 2 (lv' := [(2, .int 2), (1, .int ((4 * ((4 * ((4 * ((4 * (0 + (f_gs (a_F X) 7))) + (f_gs (a_F X) 6))) + (f_gs (a_F X) 5))) + (f_gs (a_F X) 4))) + (f_gs (a_F X) 3))), (0, .ref (B 0))]) K 1 dX4_allStand_23 rfl rfl (by decide) rfl ?_
  refine q_goto 5 K dX4_allStand_26 (by decide) ?_
  refine q_iload_n K 0 dX4_allStand_5 rfl ?_
  refine q_if_lt 29 K dX4_allStand_6 (by decide) (fun c_0 => absurd c_0 (by decide)) (fun c_0 => ?_)
  refine q_iconst 4 K dX4_allStand_9 rfl ?_
  refine q_iload_n K 1 dX4_allStand_10 rfl ?_
  refine q_imul K dX4_allStand_11 ?_
  refine q_aload_n K 2 dX4_allStand_12 rfl ?_
  refine q_get (.ref (B 1)) K ws_X4 0 rfl rfl 0 (by decide) fl_X4_7 rfl dX4_allStand_13 ?_
  refine q_bipush 13 K dX4_allStand_16 rfl ?_
  refine q_iload_n K 0 dX4_allStand_18 rfl ?_
  refine q_iadd K dX4_allStand_19 ?_
  refine q_eqi 15 rfl ?_
  refine q_iald K 1 rfl (vp_in_nI (n := 15) (N := 71) (by omega) (by omega)) dX4_allStand_20 ?_
  refine q_eqi (f_gs (a_F X) 2) rfl ?_
  refine q_iadd K dX4_allStand_21 ?_
  refine q_istore_n (lv' := [(1, .int ((4 * ((4 * ((4 * ((4 * ((4 * (0 + (f_gs (a_F X) 7))) + (f_gs (a_F X) 6))) + (f_gs (a_F X) 5))) + (f_gs (a_F X) 4))) + (f_gs (a_F X) 3))) + (f_gs (a_F X) 2))), (2, .int 2), (0, .ref (B 0))]) K dX4_allStand_22 (by decide) rfl ?_
  refine q_iinc 1 (lv' := [(2, .int 1), (1, .int ((4 * ((4 * ((4 * ((4 * ((4 * (0 + (f_gs (a_F X) 7))) + (f_gs (a_F X) 6))) + (f_gs (a_F X) 5))) + (f_gs (a_F X) 4))) + (f_gs (a_F X) 3))) + (f_gs (a_F X) 2))), (0, .ref (B 0))]) K 1 dX4_allStand_23 rfl rfl (by decide) rfl ?_
  refine q_goto 5 K dX4_allStand_26 (by decide) ?_
  refine q_iload_n K 0 dX4_allStand_5 rfl ?_
  refine q_if_lt 29 K dX4_allStand_6 (by decide) (fun c_0 => absurd c_0 (by decide)) (fun c_0 => ?_)
  refine q_iconst 4 K dX4_allStand_9 rfl ?_
  refine q_iload_n K 1 dX4_allStand_10 rfl ?_
  refine q_imul K dX4_allStand_11 ?_
  refine q_aload_n K 2 dX4_allStand_12 rfl ?_
  refine q_get (.ref (B 1)) K ws_X4 0 rfl rfl 0 (by decide) fl_X4_7 rfl dX4_allStand_13 ?_
  refine q_bipush 13 K dX4_allStand_16 rfl ?_
  refine q_iload_n K 0 dX4_allStand_18 rfl ?_
  refine q_iadd K dX4_allStand_19 ?_
  refine q_eqi 14 rfl ?_
  refine q_iald K 1 rfl (vp_in_nI (n := 14) (N := 71) (by omega) (by omega)) dX4_allStand_20 ?_
  refine q_eqi (f_gs (a_F X) 1) rfl ?_
  refine q_iadd K dX4_allStand_21 ?_
  refine q_istore_n (lv' := [(1, .int ((4 * ((4 * ((4 * ((4 * ((4 * ((4 * (0 + (f_gs (a_F X) 7))) + (f_gs (a_F X) 6))) + (f_gs (a_F X) 5))) + (f_gs (a_F X) 4))) + (f_gs (a_F X) 3))) + (f_gs (a_F X) 2))) + (f_gs (a_F X) 1))), (2, .int 1), (0, .ref (B 0))]) K dX4_allStand_22 (by decide) rfl ?_
  refine q_iinc 0 (lv' := [(2, .int 0), (1, .int ((4 * ((4 * ((4 * ((4 * ((4 * ((4 * (0 + (f_gs (a_F X) 7))) + (f_gs (a_F X) 6))) + (f_gs (a_F X) 5))) + (f_gs (a_F X) 4))) + (f_gs (a_F X) 3))) + (f_gs (a_F X) 2))) + (f_gs (a_F X) 1))), (0, .ref (B 0))]) K 1 dX4_allStand_23 rfl rfl (by decide) rfl ?_
  refine q_goto 5 K dX4_allStand_26 (by decide) ?_
  refine q_iload_n K 0 dX4_allStand_5 rfl ?_
  refine q_if_lt 29 K dX4_allStand_6 (by decide) (fun c_0 => absurd c_0 (by decide)) (fun c_0 => ?_)
  refine q_iconst 4 K dX4_allStand_9 rfl ?_
  refine q_iload_n K 1 dX4_allStand_10 rfl ?_
  refine q_imul K dX4_allStand_11 ?_
  refine q_aload_n K 2 dX4_allStand_12 rfl ?_
  refine q_get (.ref (B 1)) K ws_X4 0 rfl rfl 0 (by decide) fl_X4_7 rfl dX4_allStand_13 ?_
  refine q_bipush 13 K dX4_allStand_16 rfl ?_
  refine q_iload_n K 0 dX4_allStand_18 rfl ?_
  refine q_iadd K dX4_allStand_19 ?_
  refine q_eqi 13 rfl ?_
  refine q_iald K 1 rfl (vp_in_nI (n := 13) (N := 71) (by omega) (by omega)) dX4_allStand_20 ?_
  refine q_eqi (f_gs (a_F X) 0) rfl ?_
  refine q_iadd K dX4_allStand_21 ?_
  refine q_istore_n (lv' := [(1, .int ((4 * ((4 * ((4 * ((4 * ((4 * ((4 * ((4 * (0 + (f_gs (a_F X) 7))) + (f_gs (a_F X) 6))) + (f_gs (a_F X) 5))) + (f_gs (a_F X) 4))) + (f_gs (a_F X) 3))) + (f_gs (a_F X) 2))) + (f_gs (a_F X) 1))) + (f_gs (a_F X) 0))), (2, .int 0), (0, .ref (B 0))]) K dX4_allStand_22 (by decide) rfl ?_
  refine q_iinc (-1) (lv' := [(2, .int (-1)), (1, .int ((4 * ((4 * ((4 * ((4 * ((4 * ((4 * ((4 * (0 + (f_gs (a_F X) 7))) + (f_gs (a_F X) 6))) + (f_gs (a_F X) 5))) + (f_gs (a_F X) 4))) + (f_gs (a_F X) 3))) + (f_gs (a_F X) 2))) + (f_gs (a_F X) 1))) + (f_gs (a_F X) 0))), (0, .ref (B 0))]) K 1 dX4_allStand_23 rfl rfl (by decide) rfl ?_
  refine q_goto 5 K dX4_allStand_26 (by decide) ?_
  refine q_iload_n K 0 dX4_allStand_5 rfl ?_
  refine q_if_lt 29 K dX4_allStand_6 (by decide) (fun c_0 => ?_) (fun c_0 => absurd c_0 (by decide))
  refine q_iload_n K 1 dX4_allStand_29 rfl ?_
  exact Rt _ _ ((4 * ((4 * ((4 * ((4 * ((4 * ((4 * ((4 * (0 + (f_gs (a_F X) 7))) + (f_gs (a_F X) 6))) + (f_gs (a_F X) 5))) + (f_gs (a_F X) 4))) + (f_gs (a_F X) 3))) + (f_gs (a_F X) 2))) + (f_gs (a_F X) 1))) + (f_gs (a_F X) 0)) (w_M (k_Z M) B X D) dX4_allStand_30 rfl (⟨f_by4_r _, rfl⟩)
theorem kv_X4_allStand : k_iv yX4_allStand cX4_allStand 3 (some .int) 0 := ⟨⟨im_X4_allStand, se_X4_allStand⟩, in_X4, co_X4_allStand, by decide +kernel⟩
