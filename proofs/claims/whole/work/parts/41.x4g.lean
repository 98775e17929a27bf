set_option maxHeartbeats 4000000 in
set_option maxRecDepth 100000 in
theorem c_X4_shut (l : Launch) (Z : kz_Z) (B : Nat → Nat) (X : AS) (D : DJ) (m : Nat) (hm : m ≤ 8) (hm2 : f_wk (a_F X) = nI m) (hok : f_ok (a_F X)) (field n : Int32) : KI l Z yX4_shut cX4_shut 8 .int 6 142 [.ref (B 0), .int field, .int n] (w_M Z B X D) (fun r w2 => ∃ D2, r = (o_shut X field n).1 ∧ w2 = w_M Z B (o_shut X field n).2 D2) := by
  refine ki_of (by decide) [(0, .ref (B 0)), (1, .int field), (2, .int n)] (Nat.le_of_ble_eq_true rfl) rfl ?_
  intro M e1 e2 K Rt
  subst e1 e2
  refine q_iload_n K 1 dX4_shut_0 rfl ?_
  refine q_cp (rest := []) K ks_X4_isField (c_X4_isField (k_l M) (k_Z M) field) ml_X4_52 rfl rfl (Nat.le_of_ble_eq_true rfl) ⟨Nat.le_of_ble_eq_true rfl, Nat.le_of_ble_eq_true rfl⟩ dX4_shut_1 (fun r_1 e_r_1 => ?_)
  refine q_if_eq 19 K dX4_shut_4 (by decide) (fun c_2 => ?_) (fun c_2 => ?_)
  · have c_2 : ¬ (inR field 0 8) := (kn_eq e_r_1).mp c_2
    refine q_aload_n K 0 dX4_shut_19 rfl ?_
    refine q_ldc K dX4_shut_20 ct_X4_40 ?_
    refine q_eqi (r_fin 0) (by decide) ?_
    refine q_wI (q0 := 0) (As := [.int (r_fin 0)]) (rest := []) K kv_X4_finds (c_X4_finds (k_l M) (k_Z M) B X D 0 (by omega)) rfl rfl ml_X4_48 rfl rfl (Nat.le_of_ble_eq_true rfl) ⟨Nat.le_of_ble_eq_true rfl, Nat.le_of_ble_eq_true rfl⟩ dX4_shut_22 (fun r_4 w2 h_3 => ?_)
    obtain ⟨e_r_4, rfl⟩ := h_3
    refine q_eqi (r_fin 0) e_r_4 ?_
    refine q_ws (ws' := w_M (k_Z M) B (a_F X, a_K X, a_kp X, fd_up (a_fd X) 0, a_tp X, a_S X) D) rfl ?_
    exact Rt _ _ (r_fin 0) (w_M (k_Z M) B (a_F X, a_K X, a_kp X, fd_up (a_fd X) 0, a_tp X, a_S X) D) dX4_shut_25 rfl (⟨D, by simp only [o_shut, a_fin, if_neg c_2, e_r_1] <;> rfl, by simp only [o_shut, a_fin, if_neg c_2] <;> rfl⟩)
  · have c_2 : inR field 0 8 := (kn_ne e_r_1).mp c_2
    obtain ⟨f, h_f, e_f⟩ := kn_rng (n := 8) c_2 rfl
    subst e_f
    refine q_iload_n K 2 dX4_shut_7 rfl ?_
    refine q_i2l K dX4_shut_8 ?_
    refine q_lconst 0 K dX4_shut_9 rfl ?_
    refine q_ldc2 K dX4_shut_10 ct_X4_150 ?_
    refine q_cp (rest := []) K ks_X4_isIn (c_X4_isIn (k_l M) (k_Z M) n.toInt64 0 40) ml_X4_43 rfl rfl (Nat.le_of_ble_eq_true rfl) ⟨Nat.le_of_ble_eq_true rfl, Nat.le_of_ble_eq_true rfl⟩ dX4_shut_13 (fun r_5 e_r_5 => ?_)
    have e_r_5 : r_5 = if inR n 0 40 then 1 else 0 := kn_if e_r_5 (kn_i64 (v := n) (lo := 0) (hi := 40))
    refine q_if_ne 26 K dX4_shut_16 (by decide) (fun c_6 => ?_) (fun c_6 => ?_)
    · have c_6 : inR n 0 40 := (kn_ne e_r_5).mp c_6
      obtain ⟨k, h_k, e_k⟩ := kn_rng (n := 40) c_6 rfl
      subst e_k
      refine q_iconst 0 K dX4_shut_26 rfl ?_
      refine q_istore_n (lv' := [(3, .int 0), (0, .ref (B 0)), (1, .int (nI f)), (2, .int (nI k))]) K dX4_shut_27 (by decide) rfl ?_
      refine q_sipush 10000 K dX4_shut_28 rfl ?_
      refine q_istore (lv' := [(4, .int 10000), (3, .int 0), (0, .ref (B 0)), (1, .int (nI f)), (2, .int (nI k))]) K dX4_shut_31 (by decide) rfl ?_
      refine q_iconst 0 K dX4_shut_33 rfl ?_
      refine q_istore (lv' := [(5, .int 0), (4, .int 10000), (3, .int 0), (0, .ref (B 0)), (1, .int (nI f)), (2, .int (nI k))]) K dX4_shut_34 (by decide) rfl ?_
      refine q_loop (α := Nat × DJ) (fun n9 x9 => x9.1 + n9 = 8) 36 (fun x9 => [(5, .int (nI x9.1)), (4, .int ((f_shut (a_F X) f k x9.1).2)), (3, .int (nI ((f_shut (a_F X) f k x9.1).1))), (0, .ref (B 0)), (1, .int (nI f)), (2, .int (nI k))]) (fun x9 => w_M (k_Z M) B X x9.2) (fun n_7 x9 hI_8 ih_9 => ?_) 8 (0, D) rfl
      obtain ⟨g, D1⟩ := x9
      dsimp only at hI_8 ih_9 ⊢
      refine q_iload K 0 dX4_shut_36 rfl ?_
      refine q_bipush 8 K dX4_shut_38 rfl ?_
      refine q_icmp_ge 106 K dX4_shut_40 (by decide) (fun c_10 => ?_) (fun c_10 => ?_)
      · have c_10n : 8 ≤ g := (nI_leI (a := 8) (b := g) (by omega) (by omega)).mp c_10
        refine q_iload_n K 2 dX4_shut_106 rfl ?_
        exact Rt _ _ (nI ((f_shut (a_F X) f k g).1)) (w_M (k_Z M) B X D1) dX4_shut_107 rfl (⟨D1, by simp only [o_shut, a_fin, if_pos c_2, if_pos c_6, if_pos c_10, nI_clamp (n := f) (by omega), nI_clamp (n := k) (by omega), show g = 8 by omega] <;> rfl, by simp only [o_shut, a_fin, if_pos c_2, if_pos c_6, if_pos c_10, nI_clamp (n := f) (by omega), nI_clamp (n := k) (by omega), show g = 8 by omega] <;> rfl⟩)
      · have c_10n : ¬ (8 ≤ g) := fun h9 => c_10 ((nI_leI (a := 8) (b := g) (by omega) (by omega)).mpr h9)
        refine q_aload_n K 3 dX4_shut_43 rfl ?_
        refine q_bipush 13 K dX4_shut_44 rfl ?_
        refine q_iload K 0 dX4_shut_46 rfl ?_
        refine q_iadd K dX4_shut_48 ?_
        refine q_eqi (nI (13 + g)) (kn_add 13 g) ?_
        refine q_iconst 0 K dX4_shut_49 rfl ?_
        refine q_wI (q0 := 0) (As := [.int (nI (13 + g)), .int 0]) (rest := []) K kv_X4_becomes (c_X4_becomes (k_l M) (k_Z M) B X D1 (13 + g) (by omega) 0) rfl rfl ml_X4_58 rfl rfl (Nat.le_of_ble_eq_true rfl) ⟨Nat.le_of_ble_eq_true rfl, Nat.le_of_ble_eq_true rfl⟩ dX4_shut_50 (fun r_12 w2 h_11 => ?_)
        obtain ⟨e_r_12, rfl⟩ := h_11
        refine q_eqi (f_gs (a_F X) g) (e_r_12.trans (rw_gs _ (by omega))) ?_
        refine q_ws (ws' := w_M (k_Z M) B (f_setgs (a_F X) (upd (f_gs (a_F X)) g 0), a_K X, a_kp X, a_fd X, a_tp X, a_S X) D1) (by rw [up_gs _ (by omega) _]; rfl) ?_
        refine q_istore (lv' := [(6, .int (f_gs (a_F X) g)), (5, .int (nI g)), (4, .int ((f_shut (a_F X) f k g).2)), (3, .int (nI ((f_shut (a_F X) f k g).1))), (0, .ref (B 0)), (1, .int (nI f)), (2, .int (nI k))]) K dX4_shut_53 (by decide) rfl ?_
        refine q_aload_n K 4 dX4_shut_55 rfl ?_
        refine q_iconst 4 K dX4_shut_56 rfl ?_
        refine q_iload_n K 5 dX4_shut_57 rfl ?_
        refine q_iadd K dX4_shut_58 ?_
        refine q_eqi (nI (4 + f)) (kn_add 4 f) ?_
        refine q_iload_n K 6 dX4_shut_59 rfl ?_
        refine q_wI (q0 := 0) (As := [.int (nI (4 + f)), .int (nI k)]) (rest := []) K kv_X4_thenAt (c_X4_thenAt (k_l M) (k_Z M) B (f_setgs (a_F X) (upd (f_gs (a_F X)) g 0), a_K X, a_kp X, a_fd X, a_tp X, a_S X) D1 m hm hm2 (f_ok_g0 hok) (4 + f) (by omega) k (by omega)) rfl rfl ml_X4_147 rfl rfl (Nat.le_of_ble_eq_true rfl) ⟨Nat.le_of_ble_eq_true rfl, Nat.le_of_ble_eq_true rfl⟩ dX4_shut_60 (fun r_14 w2 h_13 => ?_)
        obtain ⟨D_15, e_r_14, rfl⟩ := h_13
        refine q_eqi (f_bs (f_hoursC goA (f_setgs (a_F X) (upd (f_gs (a_F X)) g 0)) k) f) ((e_r_14.trans (rw_bs _ (by omega))).trans (hC_bs (F := f_setgs (a_F X) (upd (f_gs (a_F X)) g 0)) hm hm2 _ _)) ?_
        refine q_ws (ws' := w_M (k_Z M) B (f_setgs (a_F X) (upd (f_gs (a_F X)) g 0), a_K X, a_kp X, a_fd X, a_tp X, a_S X) D_15) rfl ?_
        refine q_istore (lv' := [(7, .int (f_bs (f_hoursC goA (f_setgs (a_F X) (upd (f_gs (a_F X)) g 0)) k) f)), (6, .int (f_gs (a_F X) g)), (5, .int (nI g)), (4, .int ((f_shut (a_F X) f k g).2)), (3, .int (nI ((f_shut (a_F X) f k g).1))), (0, .ref (B 0)), (1, .int (nI f)), (2, .int (nI k))]) K dX4_shut_63 (by decide) rfl ?_
        refine q_aload_n K 5 dX4_shut_65 rfl ?_
        refine q_get (.ref (B 1)) K ws_X4 0 rfl rfl 0 (by decide) fl_X4_7 rfl dX4_shut_66 ?_
        refine q_bipush 13 K dX4_shut_69 rfl ?_
        refine q_iload K 2 dX4_shut_71 rfl ?_
        refine q_iadd K dX4_shut_73 ?_
        refine q_eqi (nI (13 + g)) (kn_add 13 g) ?_
        refine q_iload K 1 dX4_shut_74 rfl ?_
        refine q_iast (ws' := w_M (k_Z M) B (f_setgs (f_setgs (a_F X) (upd (f_gs (a_F X)) g 0)) (upd (f_gs (f_setgs (a_F X) (upd (f_gs (a_F X)) g 0))) g (f_gs (a_F X) g)), a_K X, a_kp X, a_fd X, a_tp X, a_S X) D_15) K 1 rfl (vp_in_nI (n := 13 + g) (N := 71) (by omega) (by omega)) (by rw [nI_clamp (n := 13 + g) (by omega), up_gs _ (by omega) _]; rfl) dX4_shut_76 ?_
        refine q_ws (ws' := w_M (k_Z M) B X D_15) (congrArg (fun F9 => w_M (k_Z M) B (a_setF X F9) D_15) (f_gback (a_F X) g _)) ?_
        refine q_iload K 0 dX4_shut_77 rfl ?_
        refine q_iload K 3 dX4_shut_79 rfl ?_
        refine q_icmp_ge 89 K dX4_shut_81 (by decide) (fun c_16 => ?_) (fun c_16 => ?_)
        · refine q_iload_n K 4 dX4_shut_89 rfl ?_
          refine q_istore_n (lv' := [(3, .int (nI ((f_shut (a_F X) f k g).1))), (7, .int (f_bs (f_hoursC goA (f_setgs (a_F X) (upd (f_gs (a_F X)) g 0)) k) f)), (6, .int (f_gs (a_F X) g)), (5, .int (nI g)), (4, .int ((f_shut (a_F X) f k g).2)), (0, .ref (B 0)), (1, .int (nI f)), (2, .int (nI k))]) K dX4_shut_90 (by decide) rfl ?_
          refine q_iload K 4 dX4_shut_91 rfl ?_
          refine q_iload K 1 dX4_shut_93 rfl ?_
          refine q_cp (rest := []) K ks_X4_least (c_X4_least (k_l M) (k_Z M) ((f_shut (a_F X) f k g).2) (f_bs (f_hoursC goA (f_setgs (a_F X) (upd (f_gs (a_F X)) g 0)) k) f)) ml_X4_86 rfl rfl (Nat.le_of_ble_eq_true rfl) ⟨Nat.le_of_ble_eq_true rfl, Nat.le_of_ble_eq_true rfl⟩ dX4_shut_95 (fun r_17 e_r_17 => ?_)
          refine q_eqi (f_mn (f_bs (f_hoursC goA (f_setgs (a_F X) (upd (f_gs (a_F X)) g 0)) k) f) ((f_shut (a_F X) f k g).2)) e_r_17 ?_
          refine q_istore (lv' := [(4, .int (f_mn (f_bs (f_hoursC goA (f_setgs (a_F X) (upd (f_gs (a_F X)) g 0)) k) f) ((f_shut (a_F X) f k g).2))), (3, .int (nI ((f_shut (a_F X) f k g).1))), (7, .int (f_bs (f_hoursC goA (f_setgs (a_F X) (upd (f_gs (a_F X)) g 0)) k) f)), (6, .int (f_gs (a_F X) g)), (5, .int (nI g)), (0, .ref (B 0)), (1, .int (nI f)), (2, .int (nI k))]) K dX4_shut_98 (by decide) rfl ?_
          refine q_iinc (nI (g + 1)) (lv' := [(5, .int (nI (g + 1))), (4, .int (f_mn (f_bs (f_hoursC goA (f_setgs (a_F X) (upd (f_gs (a_F X)) g 0)) k) f) ((f_shut (a_F X) f k g).2))), (3, .int (nI ((f_shut (a_F X) f k g).1))), (7, .int (f_bs (f_hoursC goA (f_setgs (a_F X) (upd (f_gs (a_F X)) g 0)) k) f)), (6, .int (f_gs (a_F X) g)), (0, .ref (B 0)), (1, .int (nI f)), (2, .int (nI k))]) K 4 dX4_shut_100 rfl (kn_inc g) (by decide) rfl ?_
          refine q_goto 36 K dX4_shut_103 (by decide) ?_
          refine q_lv [0, 1, 2, 5, 6, 7] rfl ?_
          rw [show nI ((f_shut (a_F X) f k g).1) = nI (f_shut (a_F X) f k (g + 1)).1 by simp only [f_shut, if_pos c_16], show f_mn (f_bs (f_hoursC goA (f_setgs (a_F X) (upd (f_gs (a_F X)) g 0)) k) f) ((f_shut (a_F X) f k g).2) = (f_shut (a_F X) f k (g + 1)).2 by rw [f_mn_ge (Int32.not_lt.mpr c_16)]; simp only [f_shut, if_pos c_16]]
          exact ih_9 (n_7 - 1) (g + 1, D_15) (by omega) (by show g + 1 + (n_7 - 1) = 8; omega)
        · refine q_iload K 2 dX4_shut_84 rfl ?_
          refine q_goto 90 K dX4_shut_86 (by decide) ?_
          refine q_istore_n (lv' := [(3, .int (nI g)), (7, .int (f_bs (f_hoursC goA (f_setgs (a_F X) (upd (f_gs (a_F X)) g 0)) k) f)), (6, .int (f_gs (a_F X) g)), (5, .int (nI g)), (4, .int ((f_shut (a_F X) f k g).2)), (0, .ref (B 0)), (1, .int (nI f)), (2, .int (nI k))]) K dX4_shut_90 (by decide) rfl ?_
          refine q_iload K 4 dX4_shut_91 rfl ?_
          refine q_iload K 1 dX4_shut_93 rfl ?_
          refine q_cp (rest := []) K ks_X4_least (c_X4_least (k_l M) (k_Z M) ((f_shut (a_F X) f k g).2) (f_bs (f_hoursC goA (f_setgs (a_F X) (upd (f_gs (a_F X)) g 0)) k) f)) ml_X4_86 rfl rfl (Nat.le_of_ble_eq_true rfl) ⟨Nat.le_of_ble_eq_true rfl, Nat.le_of_ble_eq_true rfl⟩ dX4_shut_95 (fun r_18 e_r_18 => ?_)
          refine q_eqi (f_mn (f_bs (f_hoursC goA (f_setgs (a_F X) (upd (f_gs (a_F X)) g 0)) k) f) ((f_shut (a_F X) f k g).2)) e_r_18 ?_
          refine q_istore (lv' := [(4, .int (f_mn (f_bs (f_hoursC goA (f_setgs (a_F X) (upd (f_gs (a_F X)) g 0)) k) f) ((f_shut (a_F X) f k g).2))), (3, .int (nI g)), (7, .int (f_bs (f_hoursC goA (f_setgs (a_F X) (upd (f_gs (a_F X)) g 0)) k) f)), (6, .int (f_gs (a_F X) g)), (5, .int (nI g)), (0, .ref (B 0)), (1, .int (nI f)), (2, .int (nI k))]) K dX4_shut_98 (by decide) rfl ?_
          refine q_iinc (nI (g + 1)) (lv' := [(5, .int (nI (g + 1))), (4, .int (f_mn (f_bs (f_hoursC goA (f_setgs (a_F X) (upd (f_gs (a_F X)) g 0)) k) f) ((f_shut (a_F X) f k g).2))), (3, .int (nI g)), (7, .int (f_bs (f_hoursC goA (f_setgs (a_F X) (upd (f_gs (a_F X)) g 0)) k) f)), (6, .int (f_gs (a_F X) g)), (0, .ref (B 0)), (1, .int (nI f)), (2, .int (nI k))]) K 4 dX4_shut_100 rfl (kn_inc g) (by decide) rfl ?_
          refine q_goto 36 K dX4_shut_103 (by decide) ?_
          refine q_lv [0, 1, 2, 5, 6, 7] rfl ?_
          rw [show nI g = nI (f_shut (a_F X) f k (g + 1)).1 by simp only [f_shut, if_neg c_16], show f_mn (f_bs (f_hoursC goA (f_setgs (a_F X) (upd (f_gs (a_F X)) g 0)) k) f) ((f_shut (a_F X) f k g).2) = (f_shut (a_F X) f k (g + 1)).2 by rw [f_mn_lt (Int32.not_le.mp c_16)]; simp only [f_shut, if_neg c_16]]
          exact ih_9 (n_7 - 1) (g + 1, D_15) (by omega) (by show g + 1 + (n_7 - 1) = 8; omega)
    · have c_6 : ¬ (inR n 0 40) := (kn_eq e_r_5).mp c_6
      refine q_aload_n K 0 dX4_shut_19 rfl ?_
      refine q_ldc K dX4_shut_20 ct_X4_40 ?_
      refine q_eqi (r_fin 0) (by decide) ?_
      refine q_wI (q0 := 0) (As := [.int (r_fin 0)]) (rest := []) K kv_X4_finds (c_X4_finds (k_l M) (k_Z M) B X D 0 (by omega)) rfl rfl ml_X4_48 rfl rfl (Nat.le_of_ble_eq_true rfl) ⟨Nat.le_of_ble_eq_true rfl, Nat.le_of_ble_eq_true rfl⟩ dX4_shut_22 (fun r_20 w2 h_19 => ?_)
      obtain ⟨e_r_20, rfl⟩ := h_19
      refine q_eqi (r_fin 0) e_r_20 ?_
      refine q_ws (ws' := w_M (k_Z M) B (a_F X, a_K X, a_kp X, fd_up (a_fd X) 0, a_tp X, a_S X) D) rfl ?_
      exact Rt _ _ (r_fin 0) (w_M (k_Z M) B (a_F X, a_K X, a_kp X, fd_up (a_fd X) 0, a_tp X, a_S X) D) dX4_shut_25 rfl (⟨D, by simp only [o_shut, a_fin, if_pos c_2, if_neg c_6, e_r_1, e_r_5, nI_clamp (n := f) (by omega)] <;> rfl, by simp only [o_shut, a_fin, if_pos c_2, if_neg c_6, nI_clamp (n := f) (by omega)] <;> rfl⟩)
theorem kv_X4_shut : k_iv yX4_shut cX4_shut 8 (some .int) 2 := ⟨⟨im_X4_shut, se_X4_shut⟩, in_X4, co_X4_shut, by decide +kernel⟩
set_option maxHeartbeats 4000000 in
set_option maxRecDepth 100000 in
theorem c_X4_wants (l : Launch) (Z : kz_Z) (B : Nat → Nat) (X : AS) (D : DJ) (hbt : a_btok X) (s : Int32) : KI l Z yX4_wants cX4_wants 2 .int 1 20 [.ref (B 0), .int s] (w_M Z B X D) (fun r w2 => ((inR s 0 3 ∧ ¬ a_miss X s ∧ r = 0) ∨ (inR s 0 3 ∧ a_miss X s ∧ r = -1000006) ∨ (¬ inR s 0 3 ∧ r = -1000001)) ∧ w2 = w_M Z B X D) := by
  refine ki_of (by decide) [(0, .ref (B 0)), (1, .int s)] (Nat.le_of_ble_eq_true rfl) rfl ?_
  intro M e1 e2 K Rt
  subst e1 e2
  refine q_iload_n K 1 dX4_wants_0 rfl ?_
  refine q_cp (rest := []) K ks_X4_isSheet (c_X4_isSheet (k_l M) (k_Z M) s) ml_X4_274 rfl rfl (Nat.le_of_ble_eq_true rfl) ⟨Nat.le_of_ble_eq_true rfl, Nat.le_of_ble_eq_true rfl⟩ dX4_wants_1 (fun r_1 e_r_1 => ?_)
  refine q_if_ne 12 K dX4_wants_4 (by decide) (fun c_2 => ?_) (fun c_2 => ?_)
  · have c_2 : inR s 0 3 := (kn_ne e_r_1).mp c_2
    obtain ⟨t, h_t, e_t⟩ := kn_rng (n := 3) c_2 rfl
    subst e_t
    refine q_aload_n K 0 dX4_wants_12 rfl ?_
    refine q_get (.ref (B 7)) K ws_X4 0 rfl rfl 8 (by decide) fl_X4_28 rfl dX4_wants_13 ?_
    refine q_iload_n K 1 dX4_wants_16 rfl ?_
    refine q_iald K 7 rfl (vp_in_nI (n := t) (N := 4) (by omega) (by omega)) dX4_wants_17 ?_
    refine q_eqi ((m_bt (a_S X)) t) (by rw [nI_clamp (n := t) (by omega)]) ?_
    refine q_if_ge 27 K dX4_wants_18 (by decide) (fun c_3 => ?_) (fun c_3 => ?_)
    · refine q_iconst 0 K dX4_wants_27 rfl ?_
      exact Rt _ _ 0 (w_M (k_Z M) B X D) dX4_wants_28 rfl (⟨Or.inl ⟨c_2, fun h9 => absurd ((m_bt_lt (hbt t (by omega))).mpr (by rw [a_miss, nI_clamp (by omega)] at h9; exact h9)) (Int32.not_lt.mpr c_3), rfl⟩, rfl⟩)
    · refine q_ldcw K dX4_wants_21 ct_X4_269 ?_
      refine q_goto 28 K dX4_wants_24 (by decide) ?_
      exact Rt _ _ (-1000006) (w_M (k_Z M) B X D) dX4_wants_28 rfl (⟨Or.inr (Or.inl ⟨c_2, by rw [a_miss, nI_clamp (by omega)]; exact (m_bt_lt (hbt t (by omega))).mp (Int32.not_le.mp c_3), rfl⟩), rfl⟩)
  · have c_2 : ¬ (inR s 0 3) := (kn_eq e_r_1).mp c_2
    refine q_ldc K dX4_wants_7 ct_X4_40 ?_
    refine q_goto 28 K dX4_wants_9 (by decide) ?_
    exact Rt _ _ (-1000001) (w_M (k_Z M) B X D) dX4_wants_28 rfl (⟨Or.inr (Or.inr ⟨c_2, rfl⟩), rfl⟩)
theorem kv_X4_wants : k_iv yX4_wants cX4_wants 2 (some .int) 1 := ⟨⟨im_X4_wants, se_X4_wants⟩, in_X4, co_X4_wants, by decide +kernel⟩
set_option maxHeartbeats 4000000 in
set_option maxRecDepth 100000 in
theorem c_X4_load (l : Launch) (Z : kz_Z) (B : Nat → Nat) (X : AS) (D : DJ) (m : Nat) (hm : m ≤ 8) (hm2 : f_wk (a_F X) = nI m) (hok : f_ok (a_F X)) (hsh : a_shok X) (hbt : a_btok X) (s : Int32) : KI l Z yX4_load cX4_load 3 .int 2 41 [.ref (B 0), .int s] (w_M Z B X D) (fun r w2 => ∃ D2, r = (o_load X s).1 ∧ w2 = w_M Z B (o_load X s).2 D2) := by
  refine ki_of (by decide) [(0, .ref (B 0)), (1, .int s)] (Nat.le_of_ble_eq_true rfl) rfl ?_
  intro M e1 e2 K Rt
  subst e1 e2
  refine q_aload_n K 0 dX4_load_0 rfl ?_
  refine q_iload_n K 1 dX4_load_1 rfl ?_
  refine q_wI (q0 := 0) (As := [.int s]) (rest := []) K kv_X4_wants (c_X4_wants (k_l M) (k_Z M) B X D hbt s) rfl rfl ml_X4_171 rfl rfl (Nat.le_of_ble_eq_true rfl) ⟨Nat.le_of_ble_eq_true rfl, Nat.le_of_ble_eq_true rfl⟩ dX4_load_2 (fun r_2 w2 h_1 => ?_)
  obtain ⟨h_1, rfl⟩ := h_1
  rcases h_1 with ⟨i_r_2, m_r_2, e_r_2⟩ | ⟨i_r_2, m_r_2, e_r_2⟩ | ⟨i_r_2, e_r_2⟩
  · refine q_eqi 0 e_r_2 ?_
    obtain ⟨t, h_t, e_t⟩ := kn_rng (n := 3) i_r_2 rfl
    subst e_t
    obtain ⟨z, hz, hz2⟩ := hsh t (by omega)
    have hzz := a_szz hz hz2
    refine q_if_eq 18 K dX4_load_5 (by decide) (fun c_0 => ?_) (fun c_0 => absurd c_0 (by decide))
    refine q_ws (ws' := w_M (k_Z M) B (f_setbs (a_F X) (f_loads (a_F X) (s_nm (a_S X t)) 0), a_K X, a_kp X, a_fd X, a_tp X, a_S X) D) rfl ?_
    refine q_iconst 0 K dX4_load_18 rfl ?_
    refine q_istore_n (lv' := [(2, .int 0), (0, .ref (B 0)), (1, .int (nI t))]) K dX4_load_19 (by decide) rfl ?_
    refine q_loop (α := Nat) (fun n9 i => (i + n9 = min z 9) ∧ o_find (p_load (s_nm (a_S X t))) (min z 9) 0 = o_find (p_load (s_nm (a_S X t))) n9 i) 20 (fun i => [(2, .int (nI i)), (0, .ref (B 0)), (1, .int (nI t))]) (fun i => w_M (k_Z M) B (f_setbs (a_F X) (f_loads (a_F X) (s_nm (a_S X t)) i), a_K X, a_kp X, a_fd X, a_tp X, a_S X) D) (fun n_3 i hI_4 ih_5 => ?_) (min z 9) 0 ⟨by omega, rfl⟩
    obtain ⟨hI, hF⟩ := hI_4
    refine q_iload_n K 0 dX4_load_20 rfl ?_
    refine q_aload_n K 1 dX4_load_21 rfl ?_
    refine q_get (.ref (B 8)) K ws_X4 0 rfl rfl 9 (by decide) fl_X4_31 rfl dX4_load_22 ?_
    refine q_iload_n K 2 dX4_load_25 rfl ?_
    refine q_iald K 8 rfl (vp_in_nI (n := t) (N := 4) (by omega) (by omega)) dX4_load_26 ?_
    refine q_eqi ((m_sz (a_S X)) t) (by rw [nI_clamp (n := t) (by omega)]) ?_
    refine q_eqi (nI z) hz2 ?_
    refine q_icmp_ge 83 K dX4_load_27 (by decide) (fun c_6 => ?_) (fun c_6 => ?_)
    · have c_6n : z ≤ i := (nI_leI (a := z) (b := i) (by omega) (by omega)).mp c_6
      refine q_iload_n K 0 dX4_load_83 rfl ?_
      exact Rt _ _ (nI i) (w_M (k_Z M) B (f_setbs (a_F X) (f_loads (a_F X) (s_nm (a_S X t)) i), a_K X, a_kp X, a_fd X, a_tp X, a_S X) D) dX4_load_84 rfl (⟨D, by simp only [o_load, o_with, if_pos i_r_2, if_neg m_r_2, if_pos c_6, nI_clamp (n := t) (by omega), o_loads, hzz, show o_find (p_load (s_nm (a_S X t))) (min z 9) 0 = i by rw [hF, show n_3 = 0 by omega, o_find]] <;> rfl, by simp only [o_load, o_with, if_pos i_r_2, if_neg m_r_2, if_pos c_6, nI_clamp (n := t) (by omega), o_loads, hzz, show o_find (p_load (s_nm (a_S X t))) (min z 9) 0 = i by rw [hF, show n_3 = 0 by omega, o_find]] <;> rfl⟩)
    · have c_6n : ¬ (z ≤ i) := fun h9 => c_6 ((nI_leI (a := z) (b := i) (by omega) (by omega)).mpr h9)
      refine q_iload_n K 0 dX4_load_30 rfl ?_
      refine q_bipush 9 K dX4_load_31 rfl ?_
      refine q_icmp_ge 83 K dX4_load_33 (by decide) (fun c_7 => ?_) (fun c_7 => ?_)
      · have c_7n : 9 ≤ i := (nI_leI (a := 9) (b := i) (by omega) (by omega)).mp c_7
        refine q_iload_n K 0 dX4_load_83 rfl ?_
        exact Rt _ _ (nI i) (w_M (k_Z M) B (f_setbs (a_F X) (f_loads (a_F X) (s_nm (a_S X t)) i), a_K X, a_kp X, a_fd X, a_tp X, a_S X) D) dX4_load_84 rfl (⟨D, by simp only [o_load, o_with, if_pos i_r_2, if_neg m_r_2, if_neg c_6, if_pos c_7, nI_clamp (n := t) (by omega), o_loads, hzz, show o_find (p_load (s_nm (a_S X t))) (min z 9) 0 = i by rw [hF, show n_3 = 0 by omega, o_find]] <;> rfl, by simp only [o_load, o_with, if_pos i_r_2, if_neg m_r_2, if_neg c_6, if_pos c_7, nI_clamp (n := t) (by omega), o_loads, hzz, show o_find (p_load (s_nm (a_S X t))) (min z 9) 0 = i by rw [hF, show n_3 = 0 by omega, o_find]] <;> rfl⟩)
      · have c_7n : ¬ (9 ≤ i) := fun h9 => c_7 ((nI_leI (a := 9) (b := i) (by omega) (by omega)).mpr h9)
        refine q_aload_n K 1 dX4_load_36 rfl ?_
        refine q_get (.ref (B 9)) K ws_X4 0 rfl rfl 10 (by decide) fl_X4_34 rfl dX4_load_37 ?_
        refine q_bipush 40 K dX4_load_40 rfl ?_
        refine q_iload_n K 2 dX4_load_42 rfl ?_
        refine q_imul K dX4_load_43 ?_
        refine q_eqi (nI (40 * t)) (pk_mul 40 t) ?_
        refine q_iload_n K 0 dX4_load_44 rfl ?_
        refine q_iadd K dX4_load_45 ?_
        refine q_eqi (nI ((40 * t) + i)) (kn_add (40 * t) i) ?_
        refine q_iald K 9 rfl (vp_in_nI (n := (40 * t) + i) (N := 160) (by omega) (by omega)) dX4_load_46 ?_
        refine q_eqi (s_nm (a_S X t) i) (by rw [nI_clamp (n := (40 * t) + i) (by omega)]; exact m_nm_at _ (by omega)) ?_
        refine q_i2l K dX4_load_47 ?_
        refine q_lconst 0 K dX4_load_48 rfl ?_
        refine q_ldc2 K dX4_load_49 ct_X4_56 ?_
        refine q_cp (rest := []) K ks_X4_isIn (c_X4_isIn (k_l M) (k_Z M) ((s_nm (a_S X t) i).toInt64) 0 9999) ml_X4_43 rfl rfl (Nat.le_of_ble_eq_true rfl) ⟨Nat.le_of_ble_eq_true rfl, Nat.le_of_ble_eq_true rfl⟩ dX4_load_52 (fun r_8 e_r_8 => ?_)
        have e_r_8 : r_8 = if inR (s_nm (a_S X t) i) 0 9999 then 1 else 0 := kn_if e_r_8 (kn_i64 (v := (s_nm (a_S X t) i)) (lo := 0) (hi := 9999))
        refine q_if_eq 83 K dX4_load_55 (by decide) (fun c_9 => ?_) (fun c_9 => ?_)
        · have c_9 : ¬ (inR (s_nm (a_S X t) i) 0 9999) := (kn_eq e_r_8).mp c_9
          refine q_iload_n K 0 dX4_load_83 rfl ?_
          exact Rt _ _ (nI i) (w_M (k_Z M) B (f_setbs (a_F X) (f_loads (a_F X) (s_nm (a_S X t)) i), a_K X, a_kp X, a_fd X, a_tp X, a_S X) D) dX4_load_84 rfl (⟨D, by simp only [o_load, o_with, if_pos i_r_2, if_neg m_r_2, if_neg c_6, if_neg c_7, if_neg c_9, nI_clamp (n := t) (by omega), o_loads, hzz, show o_find (p_load (s_nm (a_S X t))) (min z 9) 0 = i by rw [hF, show n_3 = (n_3 - 1) + 1 by omega, o_find, if_pos (by rw [p_load, decide_eq_false c_9] <;> rfl)]] <;> rfl, by simp only [o_load, o_with, if_pos i_r_2, if_neg m_r_2, if_neg c_6, if_neg c_7, if_neg c_9, nI_clamp (n := t) (by omega), o_loads, hzz, show o_find (p_load (s_nm (a_S X t))) (min z 9) 0 = i by rw [hF, show n_3 = (n_3 - 1) + 1 by omega, o_find, if_pos (by rw [p_load, decide_eq_false c_9] <;> rfl)]] <;> rfl⟩)
        · have c_9 : inR (s_nm (a_S X t) i) 0 9999 := (kn_ne e_r_8).mp c_9
          refine q_aload_n K 1 dX4_load_58 rfl ?_
          refine q_get (.ref (B 1)) K ws_X4 0 rfl rfl 0 (by decide) fl_X4_7 rfl dX4_load_59 ?_
          refine q_iconst 4 K dX4_load_62 rfl ?_
          refine q_iload_n K 0 dX4_load_63 rfl ?_
          refine q_iadd K dX4_load_64 ?_
          refine q_eqi (nI (4 + i)) (kn_add 4 i) ?_
          refine q_aload_n K 1 dX4_load_65 rfl ?_
          refine q_get (.ref (B 9)) K ws_X4 0 rfl rfl 10 (by decide) fl_X4_34 rfl dX4_load_66 ?_
          refine q_bipush 40 K dX4_load_69 rfl ?_
          refine q_iload_n K 2 dX4_load_71 rfl ?_
          refine q_imul K dX4_load_72 ?_
          refine q_eqi (nI (40 * t)) (pk_mul 40 t) ?_
          refine q_iload_n K 0 dX4_load_73 rfl ?_
          refine q_iadd K dX4_load_74 ?_
          refine q_eqi (nI ((40 * t) + i)) (kn_add (40 * t) i) ?_
          refine q_iald K 9 rfl (vp_in_nI (n := (40 * t) + i) (N := 160) (by omega) (by omega)) dX4_load_75 ?_
          refine q_eqi (s_nm (a_S X t) i) (by rw [nI_clamp (n := (40 * t) + i) (by omega)]; exact m_nm_at _ (by omega)) ?_
          refine q_iast (ws' := w_M (k_Z M) B (f_setbs (f_setbs (a_F X) (f_loads (a_F X) (s_nm (a_S X t)) i)) (upd (f_bs (f_setbs (a_F X) (f_loads (a_F X) (s_nm (a_S X t)) i))) i (s_nm (a_S X t) i)), a_K X, a_kp X, a_fd X, a_tp X, a_S X) D) K 1 rfl (vp_in_nI (n := 4 + i) (N := 71) (by omega) (by omega)) (by rw [nI_clamp (n := 4 + i) (by omega), up_bs _ (by omega) _]; rfl) dX4_load_76 ?_
          refine q_iinc (nI (i + 1)) (lv' := [(2, .int (nI (i + 1))), (0, .ref (B 0)), (1, .int (nI t))]) K 0 dX4_load_77 rfl (kn_inc i) (by decide) rfl ?_
          refine q_goto 20 K dX4_load_80 (by decide) ?_
          refine q_ws (ws' := w_M (k_Z M) B (f_setbs (a_F X) (f_loads (a_F X) (s_nm (a_S X t)) (i + 1)), a_K X, a_kp X, a_fd X, a_tp X, a_S X) D) rfl ?_
          exact ih_5 (n_3 - 1) (i + 1) (by omega) ⟨by omega, by rw [hF, show n_3 = (n_3 - 1) + 1 by omega, o_find, if_neg (by rw [p_load, decide_eq_true c_9]; decide)] <;> rfl⟩
  · refine q_eqi (-1000006) e_r_2 ?_
    refine q_if_eq 18 K dX4_load_5 (by decide) (fun c_0 => absurd c_0 (by decide)) (fun c_0 => ?_)
    refine q_aload_n K 0 dX4_load_8 rfl ?_
    refine q_aload_n K 0 dX4_load_9 rfl ?_
    refine q_iload_n K 1 dX4_load_10 rfl ?_
    refine q_wI (q0 := 0) (As := [.int s]) (rest := [.ref (B 0)]) K kv_X4_wants (c_X4_wants (k_l M) (k_Z M) B X D hbt s) rfl rfl ml_X4_171 rfl rfl (Nat.le_of_ble_eq_true rfl) ⟨Nat.le_of_ble_eq_true rfl, Nat.le_of_ble_eq_true rfl⟩ dX4_load_11 (fun r_11 w2 h_10 => ?_)
    obtain ⟨h_10, rfl⟩ := h_10
    rcases h_10 with ⟨i_r_11, m_r_11, e_r_11⟩ | ⟨i_r_11, m_r_11, e_r_11⟩ | ⟨i_r_11, e_r_11⟩
    · exact absurd m_r_2 m_r_11
    · refine q_eqi (-1000006) e_r_11 ?_
      refine q_eqi (r_fin 5) (by decide) ?_
      refine q_wI (q0 := 0) (As := [.int (r_fin 5)]) (rest := []) K kv_X4_finds (c_X4_finds (k_l M) (k_Z M) B X D 5 (by omega)) rfl rfl ml_X4_48 rfl rfl (Nat.le_of_ble_eq_true rfl) ⟨Nat.le_of_ble_eq_true rfl, Nat.le_of_ble_eq_true rfl⟩ dX4_load_14 (fun r_13 w2 h_12 => ?_)
      obtain ⟨e_r_13, rfl⟩ := h_12
      refine q_eqi (r_fin 5) e_r_13 ?_
      refine q_ws (ws' := w_M (k_Z M) B (a_F X, a_K X, a_kp X, fd_up (a_fd X) 5, a_tp X, a_S X) D) rfl ?_
      exact Rt _ _ (r_fin 5) (w_M (k_Z M) B (a_F X, a_K X, a_kp X, fd_up (a_fd X) 5, a_tp X, a_S X) D) dX4_load_17 rfl (⟨D, by simp only [o_load, o_with, a_fin, if_pos i_r_2, if_pos m_r_2] <;> rfl, by simp only [o_load, o_with, a_fin, if_pos i_r_2, if_pos m_r_2] <;> rfl⟩)
    · exact absurd i_r_2 i_r_11
  · refine q_eqi (-1000001) e_r_2 ?_
    refine q_if_eq 18 K dX4_load_5 (by decide) (fun c_0 => absurd c_0 (by decide)) (fun c_0 => ?_)
    refine q_aload_n K 0 dX4_load_8 rfl ?_
    refine q_aload_n K 0 dX4_load_9 rfl ?_
    refine q_iload_n K 1 dX4_load_10 rfl ?_
    refine q_wI (q0 := 0) (As := [.int s]) (rest := [.ref (B 0)]) K kv_X4_wants (c_X4_wants (k_l M) (k_Z M) B X D hbt s) rfl rfl ml_X4_171 rfl rfl (Nat.le_of_ble_eq_true rfl) ⟨Nat.le_of_ble_eq_true rfl, Nat.le_of_ble_eq_true rfl⟩ dX4_load_11 (fun r_15 w2 h_14 => ?_)
    obtain ⟨h_14, rfl⟩ := h_14
    rcases h_14 with ⟨i_r_15, m_r_15, e_r_15⟩ | ⟨i_r_15, m_r_15, e_r_15⟩ | ⟨i_r_15, e_r_15⟩
    · exact absurd i_r_15 i_r_2
    · exact absurd i_r_15 i_r_2
    · refine q_eqi (-1000001) e_r_15 ?_
      refine q_eqi (r_fin 0) (by decide) ?_
      refine q_wI (q0 := 0) (As := [.int (r_fin 0)]) (rest := []) K kv_X4_finds (c_X4_finds (k_l M) (k_Z M) B X D 0 (by omega)) rfl rfl ml_X4_48 rfl rfl (Nat.le_of_ble_eq_true rfl) ⟨Nat.le_of_ble_eq_true rfl, Nat.le_of_ble_eq_true rfl⟩ dX4_load_14 (fun r_17 w2 h_16 => ?_)
      obtain ⟨e_r_17, rfl⟩ := h_16
      refine q_eqi (r_fin 0) e_r_17 ?_
      refine q_ws (ws' := w_M (k_Z M) B (a_F X, a_K X, a_kp X, fd_up (a_fd X) 0, a_tp X, a_S X) D) rfl ?_
      exact Rt _ _ (r_fin 0) (w_M (k_Z M) B (a_F X, a_K X, a_kp X, fd_up (a_fd X) 0, a_tp X, a_S X) D) dX4_load_17 rfl (⟨D, by simp only [o_load, o_with, a_fin, if_neg i_r_2] <;> rfl, by simp only [o_load, o_with, a_fin, if_neg i_r_2] <;> rfl⟩)
theorem kv_X4_load : k_iv yX4_load cX4_load 3 (some .int) 1 := ⟨⟨im_X4_load, se_X4_load⟩, in_X4, co_X4_load, by decide +kernel⟩
set_option maxHeartbeats 4000000 in
set_option maxRecDepth 100000 in
theorem c_X4_judge (l : Launch) (Z : kz_Z) (B : Nat → Nat) (X : AS) (D : DJ) (m : Nat) (hm : m ≤ 8) (hm2 : f_wk (a_F X) = nI m) (hok : f_ok (a_F X)) (hsh : a_shok X) (hbt : a_btok X) (s : Int32) : KI l Z yX4_judge cX4_judge 3 .int 2 41 [.ref (B 0), .int s] (w_M Z B X D) (fun r w2 => ∃ D2, r = (o_judge X s).1 ∧ w2 = w_M Z B (o_judge X s).2 D2) := by
  refine ki_of (by decide) [(0, .ref (B 0)), (1, .int s)] (Nat.le_of_ble_eq_true rfl) rfl ?_
  intro M e1 e2 K Rt
  subst e1 e2
  refine q_aload_n K 0 dX4_judge_0 rfl ?_
  refine q_iload_n K 1 dX4_judge_1 rfl ?_
  refine q_wI (q0 := 0) (As := [.int s]) (rest := []) K kv_X4_wants (c_X4_wants (k_l M) (k_Z M) B X D hbt s) rfl rfl ml_X4_171 rfl rfl (Nat.le_of_ble_eq_true rfl) ⟨Nat.le_of_ble_eq_true rfl, Nat.le_of_ble_eq_true rfl⟩ dX4_judge_2 (fun r_2 w2 h_1 => ?_)
  obtain ⟨h_1, rfl⟩ := h_1
  rcases h_1 with ⟨i_r_2, m_r_2, e_r_2⟩ | ⟨i_r_2, m_r_2, e_r_2⟩ | ⟨i_r_2, e_r_2⟩
  · refine q_eqi 0 e_r_2 ?_
    obtain ⟨t, h_t, e_t⟩ := kn_rng (n := 3) i_r_2 rfl
    subst e_t
    obtain ⟨z, hz, hz2⟩ := hsh t (by omega)
    have hzz := a_szz hz hz2
    refine q_if_eq 18 K dX4_judge_5 (by decide) (fun c_0 => ?_) (fun c_0 => absurd c_0 (by decide))
    refine q_iconst 0 K dX4_judge_18 rfl ?_
    refine q_istore_n (lv' := [(2, .int 0), (0, .ref (B 0)), (1, .int (nI t))]) K dX4_judge_19 (by decide) rfl ?_
    refine q_loop (α := Nat) (fun n9 i => (i + n9 = z) ∧ o_find (p_judge (a_F X) (s_nm (a_S X t))) z 0 = o_find (p_judge (a_F X) (s_nm (a_S X t))) n9 i) 20 (fun i => [(2, .int (nI i)), (0, .ref (B 0)), (1, .int (nI t))]) (fun i => w_M (k_Z M) B X D) (fun n_3 i hI_4 ih_5 => ?_) z 0 ⟨by omega, rfl⟩
    obtain ⟨hI, hF⟩ := hI_4
    refine q_iload_n K 0 dX4_judge_20 rfl ?_
    refine q_aload_n K 1 dX4_judge_21 rfl ?_
    refine q_get (.ref (B 8)) K ws_X4 0 rfl rfl 9 (by decide) fl_X4_31 rfl dX4_judge_22 ?_
    refine q_iload_n K 2 dX4_judge_25 rfl ?_
    refine q_iald K 8 rfl (vp_in_nI (n := t) (N := 4) (by omega) (by omega)) dX4_judge_26 ?_
    refine q_eqi ((m_sz (a_S X)) t) (by rw [nI_clamp (n := t) (by omega)]) ?_
    refine q_eqi (nI z) hz2 ?_
    refine q_icmp_ge 65 K dX4_judge_27 (by decide) (fun c_6 => ?_) (fun c_6 => ?_)
    · have c_6n : z ≤ i := (nI_leI (a := z) (b := i) (by omega) (by omega)).mp c_6
      refine q_iload_n K 0 dX4_judge_65 rfl ?_
      refine q_aload_n K 1 dX4_judge_66 rfl ?_
      refine q_get (.ref (B 8)) K ws_X4 0 rfl rfl 9 (by decide) fl_X4_31 rfl dX4_judge_67 ?_
      refine q_iload_n K 2 dX4_judge_70 rfl ?_
      refine q_iald K 8 rfl (vp_in_nI (n := t) (N := 4) (by omega) (by omega)) dX4_judge_71 ?_
      refine q_eqi ((m_sz (a_S X)) t) (by rw [nI_clamp (n := t) (by omega)]) ?_
      refine q_eqi (nI z) hz2 ?_
      refine q_icmp_ge 81 K dX4_judge_72 (by decide) (fun c_7 => ?_) (fun c_7 => ?_)
      · have c_7n : z ≤ i := (nI_leI (a := z) (b := i) (by omega) (by omega)).mp c_7
        refine q_iconst 0 K dX4_judge_81 rfl ?_
        exact Rt _ _ 0 (w_M (k_Z M) B X D) dX4_judge_82 rfl (⟨D, by simp only [o_judge, o_with, if_pos i_r_2, if_neg m_r_2, if_pos c_6, if_pos c_7, nI_clamp (n := t) (by omega), o_judges, hzz, show o_find (p_judge (a_F X) (s_nm (a_S X t))) z 0 = i by rw [hF, show n_3 = 0 by omega, o_find], if_neg (show ¬ i < z by omega)] <;> rfl, by simp only [o_judge, o_with, if_pos i_r_2, if_neg m_r_2, if_pos c_6, if_pos c_7, nI_clamp (n := t) (by omega), o_judges, hzz, show o_find (p_judge (a_F X) (s_nm (a_S X t))) z 0 = i by rw [hF, show n_3 = 0 by omega, o_find], if_neg (show ¬ i < z by omega)] <;> rfl⟩)
      · have c_7n : ¬ (z ≤ i) := fun h9 => c_7 ((nI_leI (a := z) (b := i) (by omega) (by omega)).mpr h9)
        exfalso
        omega
    · have c_6n : ¬ (z ≤ i) := fun h9 => c_6 ((nI_leI (a := z) (b := i) (by omega) (by omega)).mpr h9)
      refine q_iload_n K 0 dX4_judge_30 rfl ?_
      refine q_bipush 8 K dX4_judge_31 rfl ?_
      refine q_icmp_ge 65 K dX4_judge_33 (by decide) (fun c_8 => ?_) (fun c_8 => ?_)
      · have c_8n : 8 ≤ i := (nI_leI (a := 8) (b := i) (by omega) (by omega)).mp c_8
        refine q_iload_n K 0 dX4_judge_65 rfl ?_
        refine q_aload_n K 1 dX4_judge_66 rfl ?_
        refine q_get (.ref (B 8)) K ws_X4 0 rfl rfl 9 (by decide) fl_X4_31 rfl dX4_judge_67 ?_
        refine q_iload_n K 2 dX4_judge_70 rfl ?_
        refine q_iald K 8 rfl (vp_in_nI (n := t) (N := 4) (by omega) (by omega)) dX4_judge_71 ?_
        refine q_eqi ((m_sz (a_S X)) t) (by rw [nI_clamp (n := t) (by omega)]) ?_
        refine q_eqi (nI z) hz2 ?_
        refine q_icmp_ge 81 K dX4_judge_72 (by decide) (fun c_9 => ?_) (fun c_9 => ?_)
        · have c_9n : z ≤ i := (nI_leI (a := z) (b := i) (by omega) (by omega)).mp c_9
          exfalso
          omega
        · have c_9n : ¬ (z ≤ i) := fun h9 => c_9 ((nI_leI (a := z) (b := i) (by omega) (by omega)).mpr h9)
          refine q_iconst 1 K dX4_judge_75 rfl ?_
          refine q_iload_n K 0 dX4_judge_76 rfl ?_
          refine q_iadd K dX4_judge_77 ?_
          refine q_eqi (nI (1 + i)) (kn_add 1 i) ?_
          refine q_goto 82 K dX4_judge_78 (by decide) ?_
          exact Rt _ _ (nI (1 + i)) (w_M (k_Z M) B X D) dX4_judge_82 rfl (⟨D, by simp only [o_judge, o_with, if_pos i_r_2, if_neg m_r_2, if_neg c_6, if_pos c_8, if_neg c_9, nI_clamp (n := t) (by omega), o_judges, hzz, show o_find (p_judge (a_F X) (s_nm (a_S X t))) z 0 = i by rw [hF, show n_3 = (n_3 - 1) + 1 by omega, o_find, if_pos (by rw [p_judge, decide_eq_true (show 8 ≤ i by omega), Bool.true_or])], if_pos (show i < z by omega)] <;> rfl, by simp only [o_judge, o_with, if_pos i_r_2, if_neg m_r_2, if_neg c_6, if_pos c_8, if_neg c_9, nI_clamp (n := t) (by omega), o_judges, hzz, show o_find (p_judge (a_F X) (s_nm (a_S X t))) z 0 = i by rw [hF, show n_3 = (n_3 - 1) + 1 by omega, o_find, if_pos (by rw [p_judge, decide_eq_true (show 8 ≤ i by omega), Bool.true_or])], if_pos (show i < z by omega)] <;> rfl⟩)
      · have c_8n : ¬ (8 ≤ i) := fun h9 => c_8 ((nI_leI (a := 8) (b := i) (by omega) (by omega)).mpr h9)
        refine q_aload_n K 1 dX4_judge_36 rfl ?_
        refine q_get (.ref (B 9)) K ws_X4 0 rfl rfl 10 (by decide) fl_X4_34 rfl dX4_judge_37 ?_
        refine q_bipush 40 K dX4_judge_40 rfl ?_
        refine q_iload_n K 2 dX4_judge_42 rfl ?_
        refine q_imul K dX4_judge_43 ?_
        refine q_eqi (nI (40 * t)) (pk_mul 40 t) ?_
        refine q_iload_n K 0 dX4_judge_44 rfl ?_
        refine q_iadd K dX4_judge_45 ?_
        refine q_eqi (nI ((40 * t) + i)) (kn_add (40 * t) i) ?_
        refine q_iald K 9 rfl (vp_in_nI (n := (40 * t) + i) (N := 160) (by omega) (by omega)) dX4_judge_46 ?_
        refine q_eqi (s_nm (a_S X t) i) (by rw [nI_clamp (n := (40 * t) + i) (by omega)]; exact m_nm_at _ (by omega)) ?_
        refine q_aload_n K 1 dX4_judge_47 rfl ?_
        refine q_get (.ref (B 1)) K ws_X4 0 rfl rfl 0 (by decide) fl_X4_7 rfl dX4_judge_48 ?_
        refine q_bipush 13 K dX4_judge_51 rfl ?_
        refine q_iload_n K 0 dX4_judge_53 rfl ?_
        refine q_iadd K dX4_judge_54 ?_
        refine q_eqi (nI (13 + i)) (kn_add 13 i) ?_
        refine q_iald K 1 rfl (vp_in_nI (n := 13 + i) (N := 71) (by omega) (by omega)) dX4_judge_55 ?_
        refine q_eqi (f_gs (a_F X) i) (by rw [nI_clamp (n := 13 + i) (by omega)]; exact rw_gs _ (by omega)) ?_
        refine q_icmp_ne 65 K dX4_judge_56 (by decide) (fun c_10 => ?_) (fun c_10 => ?_)
        · refine q_iload_n K 0 dX4_judge_65 rfl ?_
          refine q_aload_n K 1 dX4_judge_66 rfl ?_
          refine q_get (.ref (B 8)) K ws_X4 0 rfl rfl 9 (by decide) fl_X4_31 rfl dX4_judge_67 ?_
          refine q_iload_n K 2 dX4_judge_70 rfl ?_
          refine q_iald K 8 rfl (vp_in_nI (n := t) (N := 4) (by omega) (by omega)) dX4_judge_71 ?_
          refine q_eqi ((m_sz (a_S X)) t) (by rw [nI_clamp (n := t) (by omega)]) ?_
          refine q_eqi (nI z) hz2 ?_
          refine q_icmp_ge 81 K dX4_judge_72 (by decide) (fun c_11 => ?_) (fun c_11 => ?_)
          · have c_11n : z ≤ i := (nI_leI (a := z) (b := i) (by omega) (by omega)).mp c_11
            exfalso
            omega
          · have c_11n : ¬ (z ≤ i) := fun h9 => c_11 ((nI_leI (a := z) (b := i) (by omega) (by omega)).mpr h9)
            refine q_iconst 1 K dX4_judge_75 rfl ?_
            refine q_iload_n K 0 dX4_judge_76 rfl ?_
            refine q_iadd K dX4_judge_77 ?_
            refine q_eqi (nI (1 + i)) (kn_add 1 i) ?_
            refine q_goto 82 K dX4_judge_78 (by decide) ?_
            exact Rt _ _ (nI (1 + i)) (w_M (k_Z M) B X D) dX4_judge_82 rfl (⟨D, by simp only [o_judge, o_with, if_pos i_r_2, if_neg m_r_2, if_neg c_6, if_neg c_8, if_neg c_10, if_neg c_11, nI_clamp (n := t) (by omega), o_judges, hzz, show o_find (p_judge (a_F X) (s_nm (a_S X t))) z 0 = i by rw [hF, show n_3 = (n_3 - 1) + 1 by omega, o_find, if_pos (by rw [p_judge, decide_eq_false c_10, Bool.not_false, Bool.or_true])], if_pos (show i < z by omega)] <;> rfl, by simp only [o_judge, o_with, if_pos i_r_2, if_neg m_r_2, if_neg c_6, if_neg c_8, if_neg c_10, if_neg c_11, nI_clamp (n := t) (by omega), o_judges, hzz, show o_find (p_judge (a_F X) (s_nm (a_S X t))) z 0 = i by rw [hF, show n_3 = (n_3 - 1) + 1 by omega, o_find, if_pos (by rw [p_judge, decide_eq_false c_10, Bool.not_false, Bool.or_true])], if_pos (show i < z by omega)] <;> rfl⟩)
        · refine q_iinc (nI (i + 1)) (lv' := [(2, .int (nI (i + 1))), (0, .ref (B 0)), (1, .int (nI t))]) K 0 dX4_judge_59 rfl (kn_inc i) (by decide) rfl ?_
          refine q_goto 20 K dX4_judge_62 (by decide) ?_
          exact ih_5 (n_3 - 1) (i + 1) (by omega) ⟨by omega, by rw [hF, show n_3 = (n_3 - 1) + 1 by omega, o_find, if_neg (by rw [p_judge, decide_eq_false (show ¬ 8 ≤ i by omega), decide_eq_true c_10]; decide)] <;> rfl⟩
  · refine q_eqi (-1000006) e_r_2 ?_
    refine q_if_eq 18 K dX4_judge_5 (by decide) (fun c_0 => absurd c_0 (by decide)) (fun c_0 => ?_)
    refine q_aload_n K 0 dX4_judge_8 rfl ?_
    refine q_aload_n K 0 dX4_judge_9 rfl ?_
    refine q_iload_n K 1 dX4_judge_10 rfl ?_
    refine q_wI (q0 := 0) (As := [.int s]) (rest := [.ref (B 0)]) K kv_X4_wants (c_X4_wants (k_l M) (k_Z M) B X D hbt s) rfl rfl ml_X4_171 rfl rfl (Nat.le_of_ble_eq_true rfl) ⟨Nat.le_of_ble_eq_true rfl, Nat.le_of_ble_eq_true rfl⟩ dX4_judge_11 (fun r_13 w2 h_12 => ?_)
    obtain ⟨h_12, rfl⟩ := h_12
    rcases h_12 with ⟨i_r_13, m_r_13, e_r_13⟩ | ⟨i_r_13, m_r_13, e_r_13⟩ | ⟨i_r_13, e_r_13⟩
    · exact absurd m_r_2 m_r_13
    · refine q_eqi (-1000006) e_r_13 ?_
      refine q_eqi (r_fin 5) (by decide) ?_
      refine q_wI (q0 := 0) (As := [.int (r_fin 5)]) (rest := []) K kv_X4_finds (c_X4_finds (k_l M) (k_Z M) B X D 5 (by omega)) rfl rfl ml_X4_48 rfl rfl (Nat.le_of_ble_eq_true rfl) ⟨Nat.le_of_ble_eq_true rfl, Nat.le_of_ble_eq_true rfl⟩ dX4_judge_14 (fun r_15 w2 h_14 => ?_)
      obtain ⟨e_r_15, rfl⟩ := h_14
      refine q_eqi (r_fin 5) e_r_15 ?_
      refine q_ws (ws' := w_M (k_Z M) B (a_F X, a_K X, a_kp X, fd_up (a_fd X) 5, a_tp X, a_S X) D) rfl ?_
      exact Rt _ _ (r_fin 5) (w_M (k_Z M) B (a_F X, a_K X, a_kp X, fd_up (a_fd X) 5, a_tp X, a_S X) D) dX4_judge_17 rfl (⟨D, by simp only [o_judge, o_with, a_fin, if_pos i_r_2, if_pos m_r_2] <;> rfl, by simp only [o_judge, o_with, a_fin, if_pos i_r_2, if_pos m_r_2] <;> rfl⟩)
    · exact absurd i_r_2 i_r_13
  · refine q_eqi (-1000001) e_r_2 ?_
    refine q_if_eq 18 K dX4_judge_5 (by decide) (fun c_0 => absurd c_0 (by decide)) (fun c_0 => ?_)
    refine q_aload_n K 0 dX4_judge_8 rfl ?_
    refine q_aload_n K 0 dX4_judge_9 rfl ?_
    refine q_iload_n K 1 dX4_judge_10 rfl ?_
    refine q_wI (q0 := 0) (As := [.int s]) (rest := [.ref (B 0)]) K kv_X4_wants (c_X4_wants (k_l M) (k_Z M) B X D hbt s) rfl rfl ml_X4_171 rfl rfl (Nat.le_of_ble_eq_true rfl) ⟨Nat.le_of_ble_eq_true rfl, Nat.le_of_ble_eq_true rfl⟩ dX4_judge_11 (fun r_17 w2 h_16 => ?_)
    obtain ⟨h_16, rfl⟩ := h_16
    rcases h_16 with ⟨i_r_17, m_r_17, e_r_17⟩ | ⟨i_r_17, m_r_17, e_r_17⟩ | ⟨i_r_17, e_r_17⟩
    · exact absurd i_r_17 i_r_2
    · exact absurd i_r_17 i_r_2
    · refine q_eqi (-1000001) e_r_17 ?_
      refine q_eqi (r_fin 0) (by decide) ?_
      refine q_wI (q0 := 0) (As := [.int (r_fin 0)]) (rest := []) K kv_X4_finds (c_X4_finds (k_l M) (k_Z M) B X D 0 (by omega)) rfl rfl ml_X4_48 rfl rfl (Nat.le_of_ble_eq_true rfl) ⟨Nat.le_of_ble_eq_true rfl, Nat.le_of_ble_eq_true rfl⟩ dX4_judge_14 (fun r_19 w2 h_18 => ?_)
      obtain ⟨e_r_19, rfl⟩ := h_18
      refine q_eqi (r_fin 0) e_r_19 ?_
      refine q_ws (ws' := w_M (k_Z M) B (a_F X, a_K X, a_kp X, fd_up (a_fd X) 0, a_tp X, a_S X) D) rfl ?_
      exact Rt _ _ (r_fin 0) (w_M (k_Z M) B (a_F X, a_K X, a_kp X, fd_up (a_fd X) 0, a_tp X, a_S X) D) dX4_judge_17 rfl (⟨D, by simp only [o_judge, o_with, a_fin, if_neg i_r_2] <;> rfl, by simp only [o_judge, o_with, a_fin, if_neg i_r_2] <;> rfl⟩)
theorem kv_X4_judge : k_iv yX4_judge cX4_judge 3 (some .int) 1 := ⟨⟨im_X4_judge, se_X4_judge⟩, in_X4, co_X4_judge, by decide +kernel⟩
