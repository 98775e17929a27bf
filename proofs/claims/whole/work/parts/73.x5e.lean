set_option maxHeartbeats 4000000 in
set_option maxRecDepth 100000 in
theorem c_X2_takeWalker (l : Launch) (Z : kz_Z) (a c : Nat → Nat) (p : TP) (J : TJ) (F : FS) (t n : Nat) (hq : p.2 ≤ 120) (hJ : k_all p J n) (ht1 : t + 1 ≤ n) (D : DJ) (m : Nat) (hm : m ≤ 8) (hm2 : f_wk F = nI m) (kind : Int32) : KI l Z yX2_takeWalker cX2_takeWalker 5 .boolean 3 65 [.ref (c 0), .ref (a 0), .int kind] (w_F Z a F ++ (w_T Z c (t_of p (j_at J t)))) (fun r w2 => k_res Z a c p J n D (i_walker p kind F (d_sq p D t)) r w2) := by
  refine ki_of (by decide) [(0, .ref (c 0)), (1, .ref (a 0)), (2, .int kind)] (Nat.le_of_ble_eq_true rfl) rfl ?_
  intro M e1 e2 K Rt
  subst e1 e2
  refine q_aload_n K 1 dX2_takeWalker_0 rfl ?_
  refine q_iload_n K 2 dX2_takeWalker_1 rfl ?_
  refine q_iconst 0 K dX2_takeWalker_2 rfl ?_
  refine q_cvI (q0 := 0) (As := [.int kind, .int 0]) (rest := []) K kv_X0_addWalker (c_X0_addWalker (k_l M) (k_Z M) a F m hm hm2 kind 0) [] (w_T (k_Z M) c (t_of p (j_at J t))) rfl rfl rfl ml_X2_76 rfl rfl (Nat.le_of_ble_eq_true rfl) ⟨Nat.le_of_ble_eq_true rfl, Nat.le_of_ble_eq_true rfl⟩ dX2_takeWalker_3 (fun r_2 w2 h_1 => ?_)
  rcases h_1 with ⟨hm8, e_r_2, rfl⟩ | ⟨hm8, e_r_2, rfl⟩
  · refine q_ws (ws' := w_F (k_Z M) a F ++ (w_T (k_Z M) c (t_of p (j_at J t)))) rfl ?_
    refine q_eqi (-1) e_r_2 ?_
    refine q_istore_n (lv' := [(3, .int (-1)), (0, .ref (c 0)), (1, .ref (a 0)), (2, .int kind)]) K dX2_takeWalker_6 (by decide) rfl ?_
    refine q_iload_n K 0 dX2_takeWalker_7 rfl ?_
    refine q_if_ge 13 K dX2_takeWalker_8 (by decide) (fun c_0 => absurd c_0 (by decide)) (fun c_0 => ?_)
    refine q_iconst 0 K dX2_takeWalker_11 rfl ?_
    exact Rt _ _ 0 (w_F (k_Z M) a F ++ (w_T (k_Z M) c (t_of p (j_at J t)))) dX2_takeWalker_12 rfl (k_res_f (i_walker_full hm hm2 hm8) (by omega))
  · refine q_ws (ws' := w_F (k_Z M) a (f_add F kind 0 m) ++ (w_T (k_Z M) c (t_of p (j_at J t)))) rfl ?_
    refine q_eqi (nI m) e_r_2 ?_
    refine q_istore_n (lv' := [(3, .int (nI m)), (0, .ref (c 0)), (1, .ref (a 0)), (2, .int kind)]) K dX2_takeWalker_6 (by decide) rfl ?_
    refine q_iload_n K 0 dX2_takeWalker_7 rfl ?_
    refine q_if_ge 13 K dX2_takeWalker_8 (by decide) (fun c_3 => ?_) (fun c_3 => ?_)
    · have c_3n : 0 ≤ m := (nI_leI (a := 0) (b := m) (by omega) (by omega)).mp c_3
      refine q_aload_n K 1 dX2_takeWalker_13 rfl ?_
      refine q_dup K dX2_takeWalker_14 rfl ?_
      refine q_get (.int (nI t)) K ws_X2 10 rfl rfl 6 (by decide) fl_X2_41 rfl dX2_takeWalker_15 ?_
      refine q_iconst 1 K dX2_takeWalker_18 rfl ?_
      refine q_iadd K dX2_takeWalker_19 ?_
      refine q_eqi (nI (t + 1)) (kn_add t 1) ?_
      refine q_put (ty := .int) (ws' := w_F (k_Z M) a (f_add F kind 0 m) ++ (w_T (k_Z M) c (t_of p (j_at J (t + 1))))) K ws_X2 tyX2 tyX2_ok nmX2 10 rfl rfl 6 (by decide) fl_X2_41 rfl (by decide +kernel) rfl rfl (Nat.le_of_ble_eq_true rfl) rfl dX2_takeWalker_20 ?_
      have J75 : ∀ (F1 : FS) (t1 : Nat), t1 ≤ n → i_walker p kind F (d_sq p D t) = i_mood p m F1 (d_sq p D t1) → kJ M 5 75 [(3, .int (nI m)), (0, .ref (c 0)), (1, .ref (a 0)), (2, .int kind)] [] (w_F (k_Z M) a F1 ++ (w_T (k_Z M) c (t_of p (j_at J t1)))) := by
        intro F1 t1 ht1 eT
        refine q_aload_n K 1 dX2_takeWalker_75 rfl ?_
        refine q_bipush 15 K dX2_takeWalker_76 rfl ?_
        refine q_cvI (q0 := 0) (As := [.int 15]) (rest := []) K kv_X2_takeWord (c_X2_takeWord (k_l M) (k_Z M) c p J t1 n hq hJ ht1 15 (by omega)) (w_F (k_Z M) a F1) [] rfl rfl rfl ml_X2_82 rfl rfl (Nat.le_of_ble_eq_true rfl) ⟨Nat.le_of_ble_eq_true rfl, Nat.le_of_ble_eq_true rfl⟩ dX2_takeWalker_78 (fun r_5 w2 h_4 => ?_)
        rcases h_4 with ⟨hw_r_5, e_r_5, rfl⟩ | ⟨hw_r_5, e_r_5, rfl⟩
        · have ht_r_5 := k_all_lt hJ ht1 (k_so1 hw_r_5)
          refine q_ws (ws' := w_F (k_Z M) a F1 ++ (w_T (k_Z M) c (t_of p (j_at J (t1 + 1))))) rfl ?_
          refine q_eqi 1 e_r_5 ?_
          refine q_if_eq 109 K dX2_takeWalker_81 (by decide) (fun c_0 => absurd c_0 (by decide)) (fun c_0 => ?_)
          refine q_aload_n K 1 dX2_takeWalker_84 rfl ?_
          refine q_bipush 9 K dX2_takeWalker_85 rfl ?_
          refine q_cvI (q0 := 0) (As := [.int 9]) (rest := []) K kv_X2_takeNumber (c_X2_takeNumber (k_l M) (k_Z M) c p J (t1 + 1) n hq hJ ht_r_5 9 (by omega) 9 rfl) (w_F (k_Z M) a F1) [] rfl rfl rfl ml_X2_86 rfl rfl (Nat.le_of_ble_eq_true rfl) ⟨Nat.le_of_ble_eq_true rfl, Nat.le_of_ble_eq_true rfl⟩ dX2_takeWalker_87 (fun r_7 w2 h_6 => ?_)
          rcases h_6 with ⟨hn_r_7, e_r_7, rfl⟩ | ⟨hn_r_7, e_r_7, rfl⟩
          · have hn_r_7 : n_sq p (t1 + 1) 9 := hn_r_7
            obtain ⟨g_r_7, hg_r_7, eg_r_7⟩ := kn_rng (n := 9) hn_r_7.2 rfl
            have ht_r_7 := k_all_lt hJ ht_r_5 (k_so2 hn_r_7)
            refine q_ws (ws' := w_F (k_Z M) a F1 ++ (w_T (k_Z M) c (t_of p (j_at J (t1 + 1 + 1))))) rfl ?_
            refine q_eqi (nI g_r_7) (e_r_7.trans eg_r_7) ?_
            refine q_istore (lv' := [(4, .int (nI g_r_7)), (3, .int (nI m)), (0, .ref (c 0)), (1, .ref (a 0)), (2, .int kind)]) K dX2_takeWalker_90 (by decide) rfl ?_
            refine q_iload K 0 dX2_takeWalker_92 rfl ?_
            refine q_if_ge 99 K dX2_takeWalker_94 (by decide) (fun c_8 => ?_) (fun c_8 => ?_)
            · have c_8n : 0 ≤ g_r_7 := (nI_leI (a := 0) (b := g_r_7) (by omega) (by omega)).mp c_8
              refine q_aload_n K 3 dX2_takeWalker_99 rfl ?_
              refine q_get (.ref (a 3)) K ws_X0 0 rfl rfl 2 (by decide) fl_X2_90 rfl dX2_takeWalker_100 ?_
              refine q_iconst 3 K dX2_takeWalker_103 rfl ?_
              refine q_aldg (y := a 8) K 3 rfl (vp_in_nI (n := 3) (N := 5) (by omega) (by omega)) rfl dX2_takeWalker_104 ?_
              refine q_iload_n K 1 dX2_takeWalker_105 rfl ?_
              refine q_iload K 0 dX2_takeWalker_106 rfl ?_
              refine q_iast (ws' := w_F (k_Z M) a (f_bs F1, f_gs F1, f_kd F1, f_fd F1, f_wy F1, upd (f_md F1) m (nI g_r_7), f_ps F1, f_hd F1, f_wk F1, f_wd F1, f_hr F1, f_zz F1) ++ (w_T (k_Z M) c (t_of p (j_at J (t1 + 1 + 1))))) K 8 rfl (vp_in_nI (n := m) (N := 8) (by omega) (by omega)) (by rw [nI_clamp (n := m) (by omega)] <;> rfl) dX2_takeWalker_108 ?_
              refine q_iconst 1 K dX2_takeWalker_109 rfl ?_
              exact Rt _ _ 1 (w_F (k_Z M) a (f_bs F1, f_gs F1, f_kd F1, f_fd F1, f_wy F1, upd (f_md F1) m (nI g_r_7), f_ps F1, f_hd F1, f_wk F1, f_wd F1, f_hr F1, f_zz F1) ++ (w_T (k_Z M) c (t_of p (j_at J (t1 + 1 + 1))))) dX2_takeWalker_110 rfl (k_res_t (by rw [eT, mood_y hq hw_r_5 hn_r_7, eg_r_7]; rfl) ht_r_7)
            · have c_8n : ¬ (0 ≤ g_r_7) := fun h9 => c_8 ((nI_leI (a := 0) (b := g_r_7) (by omega) (by omega)).mpr h9)
              exact absurd (Nat.zero_le _) c_8n
          · have hn_r_7 : ¬ n_sq p (t1 + 1) 9 := hn_r_7
            refine q_ws (ws' := w_F (k_Z M) a F1 ++ (w_T (k_Z M) c (t_of p (j_at J (t1 + 1))))) rfl ?_
            refine q_eqi (-1) e_r_7 ?_
            refine q_istore (lv' := [(4, .int (-1)), (3, .int (nI m)), (0, .ref (c 0)), (1, .ref (a 0)), (2, .int kind)]) K dX2_takeWalker_90 (by decide) rfl ?_
            refine q_iload K 0 dX2_takeWalker_92 rfl ?_
            refine q_if_ge 99 K dX2_takeWalker_94 (by decide) (fun c_0 => absurd c_0 (by decide)) (fun c_0 => ?_)
            refine q_iconst 0 K dX2_takeWalker_97 rfl ?_
            exact Rt _ _ 0 (w_F (k_Z M) a F1 ++ (w_T (k_Z M) c (t_of p (j_at J (t1 + 1))))) dX2_takeWalker_98 rfl (k_res_f (eT.trans (mood_b hq hw_r_5 hn_r_7)) ht_r_5)
        · refine q_ws (ws' := w_F (k_Z M) a F1 ++ (w_T (k_Z M) c (t_of p (j_at J t1)))) rfl ?_
          refine q_eqi 0 e_r_5 ?_
          refine q_if_eq 109 K dX2_takeWalker_81 (by decide) (fun c_0 => ?_) (fun c_0 => absurd c_0 (by decide))
          refine q_iconst 1 K dX2_takeWalker_109 rfl ?_
          exact Rt _ _ 1 (w_F (k_Z M) a F1 ++ (w_T (k_Z M) c (t_of p (j_at J t1)))) dX2_takeWalker_110 rfl (k_res_t (eT.trans (mood_n hq hw_r_5)) ht1)
      have J57 : ∀ (F1 : FS) (t1 : Nat), t1 ≤ n → i_walker p kind F (d_sq p D t) = b_m p m F1 (d_sq p D t1) → kJ M 5 57 [(3, .int (nI m)), (0, .ref (c 0)), (1, .ref (a 0)), (2, .int kind)] [] (w_F (k_Z M) a F1 ++ (w_T (k_Z M) c (t_of p (j_at J t1)))) := by
        intro F1 t1 ht1 eT
        refine q_aload_n K 1 dX2_takeWalker_57 rfl ?_
        refine q_bipush 14 K dX2_takeWalker_58 rfl ?_
        refine q_cvI (q0 := 0) (As := [.int 14]) (rest := []) K kv_X2_takeWord (c_X2_takeWord (k_l M) (k_Z M) c p J t1 n hq hJ ht1 14 (by omega)) (w_F (k_Z M) a F1) [] rfl rfl rfl ml_X2_82 rfl rfl (Nat.le_of_ble_eq_true rfl) ⟨Nat.le_of_ble_eq_true rfl, Nat.le_of_ble_eq_true rfl⟩ dX2_takeWalker_60 (fun r_10 w2 h_9 => ?_)
        rcases h_9 with ⟨hw_r_10, e_r_10, rfl⟩ | ⟨hw_r_10, e_r_10, rfl⟩
        · have ht_r_10 := k_all_lt hJ ht1 (k_so1 hw_r_10)
          refine q_ws (ws' := w_F (k_Z M) a F1 ++ (w_T (k_Z M) c (t_of p (j_at J (t1 + 1))))) rfl ?_
          refine q_eqi 1 e_r_10 ?_
          refine q_if_eq 75 K dX2_takeWalker_63 (by decide) (fun c_0 => absurd c_0 (by decide)) (fun c_0 => ?_)
          refine q_aload_n K 2 dX2_takeWalker_66 rfl ?_
          refine q_get (.ref (a 3)) K ws_X0 0 rfl rfl 2 (by decide) fl_X2_90 rfl dX2_takeWalker_67 ?_
          refine q_iconst 2 K dX2_takeWalker_70 rfl ?_
          refine q_aldg (y := a 7) K 3 rfl (vp_in_nI (n := 2) (N := 5) (by omega) (by omega)) rfl dX2_takeWalker_71 ?_
          refine q_iload_n K 0 dX2_takeWalker_72 rfl ?_
          refine q_iconst 1 K dX2_takeWalker_73 rfl ?_
          refine q_iast (ws' := w_F (k_Z M) a (f_bs F1, f_gs F1, f_kd F1, f_fd F1, upd (f_wy F1) m 1, f_md F1, f_ps F1, f_hd F1, f_wk F1, f_wd F1, f_hr F1, f_zz F1) ++ (w_T (k_Z M) c (t_of p (j_at J (t1 + 1))))) K 7 rfl (vp_in_nI (n := m) (N := 8) (by omega) (by omega)) (by rw [nI_clamp (n := m) (by omega)] <;> rfl) dX2_takeWalker_74 ?_
          exact J75 (f_bs F1, f_gs F1, f_kd F1, f_fd F1, upd (f_wy F1) m 1, f_md F1, f_ps F1, f_hd F1, f_wk F1, f_wd F1, f_hr F1, f_zz F1) (t1 + 1) ht_r_10 (eT.trans (back_y hq hw_r_10))
        · refine q_ws (ws' := w_F (k_Z M) a F1 ++ (w_T (k_Z M) c (t_of p (j_at J t1)))) rfl ?_
          refine q_eqi 0 e_r_10 ?_
          refine q_if_eq 75 K dX2_takeWalker_63 (by decide) (fun c_0 => ?_) (fun c_0 => absurd c_0 (by decide))
          exact J75 F1 t1 ht1 (eT.trans (back_n hq hw_r_10))
      refine q_aload_n K 1 dX2_takeWalker_23 rfl ?_
      refine q_bipush 13 K dX2_takeWalker_24 rfl ?_
      refine q_cvI (q0 := 0) (As := [.int 13]) (rest := []) K kv_X2_takeWord (c_X2_takeWord (k_l M) (k_Z M) c p J (t + 1) n hq hJ ht1 13 (by omega)) (w_F (k_Z M) a (f_add F kind 0 m)) [] rfl rfl rfl ml_X2_82 rfl rfl (Nat.le_of_ble_eq_true rfl) ⟨Nat.le_of_ble_eq_true rfl, Nat.le_of_ble_eq_true rfl⟩ dX2_takeWalker_26 (fun r_12 w2 h_11 => ?_)
      rcases h_11 with ⟨hw_r_12, e_r_12, rfl⟩ | ⟨hw_r_12, e_r_12, rfl⟩
      · have ht_r_12 := k_all_lt hJ ht1 (k_so1 hw_r_12)
        refine q_ws (ws' := w_F (k_Z M) a (f_add F kind 0 m) ++ (w_T (k_Z M) c (t_of p (j_at J (t + 1 + 1))))) rfl ?_
        refine q_eqi 1 e_r_12 ?_
        refine q_if_eq 57 K dX2_takeWalker_29 (by decide) (fun c_0 => absurd c_0 (by decide)) (fun c_0 => ?_)
        refine q_aload_n K 1 dX2_takeWalker_32 rfl ?_
        refine q_bipush 8 K dX2_takeWalker_33 rfl ?_
        refine q_cvI (q0 := 0) (As := [.int 8]) (rest := []) K kv_X2_takeNumber (c_X2_takeNumber (k_l M) (k_Z M) c p J (t + 1 + 1) n hq hJ ht_r_12 8 (by omega) 8 rfl) (w_F (k_Z M) a (f_add F kind 0 m)) [] rfl rfl rfl ml_X2_86 rfl rfl (Nat.le_of_ble_eq_true rfl) ⟨Nat.le_of_ble_eq_true rfl, Nat.le_of_ble_eq_true rfl⟩ dX2_takeWalker_35 (fun r_14 w2 h_13 => ?_)
        rcases h_13 with ⟨hn_r_14, e_r_14, rfl⟩ | ⟨hn_r_14, e_r_14, rfl⟩
        · have hn_r_14 : n_sq p (t + 1 + 1) 8 := hn_r_14
          obtain ⟨g_r_14, hg_r_14, eg_r_14⟩ := kn_rng (n := 8) hn_r_14.2 rfl
          have ht_r_14 := k_all_lt hJ ht_r_12 (k_so2 hn_r_14)
          refine q_ws (ws' := w_F (k_Z M) a (f_add F kind 0 m) ++ (w_T (k_Z M) c (t_of p (j_at J (t + 1 + 1 + 1))))) rfl ?_
          refine q_eqi (nI g_r_14) (e_r_14.trans eg_r_14) ?_
          refine q_istore (lv' := [(4, .int (nI g_r_14)), (3, .int (nI m)), (0, .ref (c 0)), (1, .ref (a 0)), (2, .int kind)]) K dX2_takeWalker_38 (by decide) rfl ?_
          refine q_iload K 0 dX2_takeWalker_40 rfl ?_
          refine q_if_ge 47 K dX2_takeWalker_42 (by decide) (fun c_15 => ?_) (fun c_15 => ?_)
          · have c_15n : 0 ≤ g_r_14 := (nI_leI (a := 0) (b := g_r_14) (by omega) (by omega)).mp c_15
            refine q_aload_n K 3 dX2_takeWalker_47 rfl ?_
            refine q_get (.ref (a 3)) K ws_X0 0 rfl rfl 2 (by decide) fl_X2_90 rfl dX2_takeWalker_48 ?_
            refine q_iconst 1 K dX2_takeWalker_51 rfl ?_
            refine q_aldg (y := a 6) K 3 rfl (vp_in_nI (n := 1) (N := 5) (by omega) (by omega)) rfl dX2_takeWalker_52 ?_
            refine q_iload_n K 1 dX2_takeWalker_53 rfl ?_
            refine q_iload K 0 dX2_takeWalker_54 rfl ?_
            refine q_iast (ws' := w_F (k_Z M) a (f_bs (f_add F kind 0 m), f_gs (f_add F kind 0 m), f_kd (f_add F kind 0 m), upd (f_fd (f_add F kind 0 m)) m (nI g_r_14), f_wy (f_add F kind 0 m), f_md (f_add F kind 0 m), f_ps (f_add F kind 0 m), f_hd (f_add F kind 0 m), f_wk (f_add F kind 0 m), f_wd (f_add F kind 0 m), f_hr (f_add F kind 0 m), f_zz (f_add F kind 0 m)) ++ (w_T (k_Z M) c (t_of p (j_at J (t + 1 + 1 + 1))))) K 6 rfl (vp_in_nI (n := m) (N := 8) (by omega) (by omega)) (by rw [nI_clamp (n := m) (by omega)] <;> rfl) dX2_takeWalker_56 ?_
            refine q_lv [1, 2, 3, 4] rfl ?_
            exact J57 (f_bs (f_add F kind 0 m), f_gs (f_add F kind 0 m), f_kd (f_add F kind 0 m), upd (f_fd (f_add F kind 0 m)) m (nI g_r_14), f_wy (f_add F kind 0 m), f_md (f_add F kind 0 m), f_ps (f_add F kind 0 m), f_hd (f_add F kind 0 m), f_wk (f_add F kind 0 m), f_wd (f_add F kind 0 m), f_hr (f_add F kind 0 m), f_zz (f_add F kind 0 m)) (t + 1 + 1 + 1) ht_r_14 (by rw [walk_in hq (by omega) hm2 (by omega) hw_r_12 hn_r_14, eg_r_14]; rfl)
          · have c_15n : ¬ (0 ≤ g_r_14) := fun h9 => c_15 ((nI_leI (a := 0) (b := g_r_14) (by omega) (by omega)).mpr h9)
            exact absurd (Nat.zero_le _) c_15n
        · have hn_r_14 : ¬ n_sq p (t + 1 + 1) 8 := hn_r_14
          refine q_ws (ws' := w_F (k_Z M) a (f_add F kind 0 m) ++ (w_T (k_Z M) c (t_of p (j_at J (t + 1 + 1))))) rfl ?_
          refine q_eqi (-1) e_r_14 ?_
          refine q_istore (lv' := [(4, .int (-1)), (3, .int (nI m)), (0, .ref (c 0)), (1, .ref (a 0)), (2, .int kind)]) K dX2_takeWalker_38 (by decide) rfl ?_
          refine q_iload K 0 dX2_takeWalker_40 rfl ?_
          refine q_if_ge 47 K dX2_takeWalker_42 (by decide) (fun c_0 => absurd c_0 (by decide)) (fun c_0 => ?_)
          refine q_iconst 0 K dX2_takeWalker_45 rfl ?_
          exact Rt _ _ 0 (w_F (k_Z M) a (f_add F kind 0 m) ++ (w_T (k_Z M) c (t_of p (j_at J (t + 1 + 1))))) dX2_takeWalker_46 rfl (k_res_f (walk_bad hq (by omega) hm2 (by omega) hw_r_12 hn_r_14) ht_r_12)
      · refine q_ws (ws' := w_F (k_Z M) a (f_add F kind 0 m) ++ (w_T (k_Z M) c (t_of p (j_at J (t + 1))))) rfl ?_
        refine q_eqi 0 e_r_12 ?_
        refine q_if_eq 57 K dX2_takeWalker_29 (by decide) (fun c_0 => ?_) (fun c_0 => absurd c_0 (by decide))
        exact J57 (f_add F kind 0 m) (t + 1) ht1 (walk_go hq (by omega) hm2 (by omega) hw_r_12)
    · have c_3n : ¬ (0 ≤ m) := fun h9 => c_3 ((nI_leI (a := 0) (b := m) (by omega) (by omega)).mpr h9)
      exact absurd (Nat.zero_le _) c_3n
theorem kv_X2_takeWalker : k_iv yX2_takeWalker cX2_takeWalker 5 (some .boolean) 2 := ⟨⟨im_X2_takeWalker, se_X2_takeWalker⟩, in_X2, co_X2_takeWalker, by decide +kernel⟩
set_option maxHeartbeats 4000000 in
set_option maxRecDepth 100000 in
theorem c_X2_takeItem (l : Launch) (Z : kz_Z) (a c : Nat → Nat) (p : TP) (J : TJ) (F : FS) (t n : Nat) (hq : p.2 ≤ 120) (hJ : k_all p J n) (ht : t ≤ n) (D : DJ) (m : Nat) (hm : m ≤ 8) (hm2 : f_wk F = nI m) : KI l Z yX2_takeItem cX2_takeItem 3 .boolean 4 89 [.ref (c 0), .ref (a 0)] (w_F Z a F ++ (w_T Z c (t_of p (j_at J t)))) (fun r w2 => k_res Z a c p J n D (i_item p F (d_sq p D t)) r w2) := by
  refine ki_of (by decide) [(0, .ref (c 0)), (1, .ref (a 0))] (Nat.le_of_ble_eq_true rfl) rfl ?_
  intro M e1 e2 K Rt
  subst e1 e2
  refine q_aload_n K 0 dX2_takeItem_0 rfl ?_
  refine q_cvI (q0 := 0) (As := []) (rest := []) K kv_X2_wordAhead (c_X2_wordAhead (k_l M) (k_Z M) c p J t n hq hJ ht) (w_F (k_Z M) a F) [] rfl rfl rfl ml_X2_59 rfl rfl (Nat.le_of_ble_eq_true rfl) ⟨Nat.le_of_ble_eq_true rfl, Nat.le_of_ble_eq_true rfl⟩ dX2_takeItem_1 (fun r_2 w2 h_1 => ?_)
  obtain ⟨⟨k, hk, hw, hl, e_r_2⟩ | ⟨hn, e_r_2⟩, rfl⟩ := h_1
  · refine q_ws (ws' := w_F (k_Z M) a F ++ (w_T (k_Z M) c (t_of p (j_at J t)))) rfl ?_
    have ht1 := k_all_lt hJ ht (k_so1 hw)
    refine q_eqi (nI k) e_r_2 ?_
    refine q_istore_n (lv' := [(2, .int (nI k)), (0, .ref (c 0)), (1, .ref (a 0))]) K dX2_takeItem_4 (by decide) rfl ?_
    refine q_iload_n K 0 dX2_takeItem_5 rfl ?_
    refine q_if_ge 11 K dX2_takeItem_6 (by decide) (fun c_3 => ?_) (fun c_3 => ?_)
    · have c_3n : 0 ≤ k := (nI_leI (a := 0) (b := k) (by omega) (by omega)).mp c_3
      refine q_iload_n K 0 dX2_takeItem_11 rfl ?_
      refine q_bipush 7 K dX2_takeItem_12 rfl ?_
      refine q_icmp_ge 24 K dX2_takeItem_14 (by decide) (fun c_4 => ?_) (fun c_4 => ?_)
      · have c_4n : 7 ≤ k := (nI_leI (a := 7) (b := k) (by omega) (by omega)).mp c_4
        refine q_iload_n K 0 dX2_takeItem_24 rfl ?_
        refine q_bipush 10 K dX2_takeItem_25 rfl ?_
        refine q_icmp_gt 40 K dX2_takeItem_27 (by decide) (fun c_5 => ?_) (fun c_5 => ?_)
        · have c_5n : 10 < k := (nI_ltI (a := 10) (b := k) (by omega) (by omega)).mp c_5
          refine q_iload_n K 0 dX2_takeItem_40 rfl ?_
          refine q_bipush 11 K dX2_takeItem_41 rfl ?_
          refine q_icmp_ne 52 K dX2_takeItem_43 (by decide) (fun c_6 => ?_) (fun c_6 => ?_)
          · have c_6n : ¬ (k = 11) := fun h9 => c_6 ((nI_eq (a := k) (b := 11) (by omega) (by omega)).mpr h9)
            refine q_iload_n K 0 dX2_takeItem_52 rfl ?_
            refine q_bipush 12 K dX2_takeItem_53 rfl ?_
            refine q_icmp_ne 70 K dX2_takeItem_55 (by decide) (fun c_7 => ?_) (fun c_7 => ?_)
            · have c_7n : ¬ (k = 12) := fun h9 => c_7 ((nI_eq (a := k) (b := 12) (by omega) (by omega)).mpr h9)
              refine q_iconst 0 K dX2_takeItem_70 rfl ?_
              exact Rt _ _ 0 (w_F (k_Z M) a F ++ (w_T (k_Z M) c (t_of p (j_at J t)))) dX2_takeItem_71 rfl (k_res_f (item_none hq (fun j hj h9 => by have := k_w_one hk (by omega) hw h9; omega)) (by omega))
            · have c_7n : k = 12 := (nI_eq (a := k) (b := 12) (by omega) (by omega)).mp c_7
              refine q_aload_n K 1 dX2_takeItem_58 rfl ?_
              refine q_aload_n K 2 dX2_takeItem_59 rfl ?_
              have hk12 : k = 12 := by omega
              have wind9 : i_item p F (d_sq p D t) = i_wind p F (d_sq p D t) := item_wind hq (hk12 ▸ hw) (hk12 ▸ hl)
              refine q_wI (q0 := 10) (As := [.ref (a 0)]) (rest := []) K kv_X2_takeWind (c_X2_takeWind (k_l M) (k_Z M) a c p J F t n hq hJ ht1 D ) rfl rfl ml_X2_73 rfl rfl (Nat.le_of_ble_eq_true rfl) ⟨Nat.le_of_ble_eq_true rfl, Nat.le_of_ble_eq_true rfl⟩ dX2_takeItem_60 (fun r_9 w2 h_8 => ?_)
              have h_8 : k_res (k_Z M) a c p J n D (i_item p F (d_sq p D t)) r_9 w2 := (wind9).symm ▸ h_8
              have e_r_9 := h_8.1
              refine q_if_eq 70 K dX2_takeItem_63 (by decide) (fun c_10 => ?_) (fun c_10 => ?_)
              · have c_10 : ¬ ((i_item p F (d_sq p D t)).1 = true) := (kn_eq e_r_9).mp c_10
                refine q_iconst 0 K dX2_takeItem_70 rfl ?_
                exact Rt _ _ 0 (w2) dX2_takeItem_71 rfl (⟨(if_neg c_10).symm, h_8.2⟩)
              · have c_10 : (i_item p F (d_sq p D t)).1 = true := (kn_ne e_r_9).mp c_10
                refine q_iconst 1 K dX2_takeItem_66 rfl ?_
                refine q_goto 71 K dX2_takeItem_67 (by decide) ?_
                exact Rt _ _ 1 (w2) dX2_takeItem_71 rfl (⟨(if_pos c_10).symm, h_8.2⟩)
          · have c_6n : k = 11 := (nI_eq (a := k) (b := 11) (by omega) (by omega)).mp c_6
            refine q_aload_n K 1 dX2_takeItem_46 rfl ?_
            refine q_aload_n K 2 dX2_takeItem_47 rfl ?_
            have hk11 : k = 11 := by omega
            have beasts9 : i_item p F (d_sq p D t) = i_beasts p F (d_sq p D t) := item_beasts hq (hk11 ▸ hw) (hk11 ▸ hl)
            refine q_wI (q0 := 10) (As := [.ref (a 0)]) (rest := []) K kv_X2_takeBeasts (c_X2_takeBeasts (k_l M) (k_Z M) a c p J F t n hq hJ ht1 D ) rfl rfl ml_X2_70 rfl rfl (Nat.le_of_ble_eq_true rfl) ⟨Nat.le_of_ble_eq_true rfl, Nat.le_of_ble_eq_true rfl⟩ dX2_takeItem_48 (fun r_12 w2 h_11 => ?_)
            have h_11 : k_res (k_Z M) a c p J n D (i_item p F (d_sq p D t)) r_12 w2 := (beasts9).symm ▸ h_11
            have e_r_12 := h_11.1
            exact Rt _ _ r_12 (w2) dX2_takeItem_51 (kn_narZ e_r_12) (h_11)
        · have c_5n : ¬ (10 < k) := fun h9 => c_5 ((nI_ltI (a := 10) (b := k) (by omega) (by omega)).mpr h9)
          refine q_aload_n K 1 dX2_takeItem_30 rfl ?_
          refine q_aload_n K 2 dX2_takeItem_31 rfl ?_
          refine q_iload_n K 0 dX2_takeItem_32 rfl ?_
          refine q_bipush 7 K dX2_takeItem_33 rfl ?_
          refine q_isub K dX2_takeItem_35 ?_
          obtain ⟨g, hg⟩ : ∃ g, k = g + 7 := ⟨k - 7, by omega⟩
          have gate9 : i_item p F (d_sq p D t) = i_gate p (nI g) F (d_sq p D t) := item_gate hq (by omega) (hg ▸ hw) (hg ▸ hl)
          refine q_eqi (nI g) (by rw [hg, show (7 : Int32) = nI 7 from rfl, pk_sub (by omega)]; exact congrArg nI (by omega)) ?_
          refine q_wI (q0 := 10) (As := [.ref (a 0), .int (nI g)]) (rest := []) K kv_X2_takeGate (c_X2_takeGate (k_l M) (k_Z M) a c p J F t n hq hJ ht1 D (nI g)) rfl rfl ml_X2_67 rfl rfl (Nat.le_of_ble_eq_true rfl) ⟨Nat.le_of_ble_eq_true rfl, Nat.le_of_ble_eq_true rfl⟩ dX2_takeItem_36 (fun r_14 w2 h_13 => ?_)
          have h_13 : k_res (k_Z M) a c p J n D (i_item p F (d_sq p D t)) r_14 w2 := (gate9).symm ▸ h_13
          have e_r_14 := h_13.1
          exact Rt _ _ r_14 (w2) dX2_takeItem_39 (kn_narZ e_r_14) (h_13)
      · have c_4n : ¬ (7 ≤ k) := fun h9 => c_4 ((nI_leI (a := 7) (b := k) (by omega) (by omega)).mpr h9)
        refine q_aload_n K 1 dX2_takeItem_17 rfl ?_
        refine q_aload_n K 2 dX2_takeItem_18 rfl ?_
        refine q_iload_n K 0 dX2_takeItem_19 rfl ?_
        refine q_wI (q0 := 10) (As := [.ref (a 0), .int (nI k)]) (rest := []) K kv_X2_takeWalker (c_X2_takeWalker (k_l M) (k_Z M) a c p J F t n hq hJ ht1 D m hm hm2 (nI k)) rfl rfl ml_X2_63 rfl rfl (Nat.le_of_ble_eq_true rfl) ⟨Nat.le_of_ble_eq_true rfl, Nat.le_of_ble_eq_true rfl⟩ dX2_takeItem_20 (fun r_16 w2 h_15 => ?_)
        have h_15 : k_res (k_Z M) a c p J n D (i_item p F (d_sq p D t)) r_16 w2 := (item_walker hq (by omega) hw hl).symm ▸ h_15
        have e_r_16 := h_15.1
        exact Rt _ _ r_16 (w2) dX2_takeItem_23 (kn_narZ e_r_16) (h_15)
    · have c_3n : ¬ (0 ≤ k) := fun h9 => c_3 ((nI_leI (a := 0) (b := k) (by omega) (by omega)).mpr h9)
      exact absurd (Nat.zero_le _) c_3n
  · refine q_ws (ws' := w_F (k_Z M) a F ++ (w_T (k_Z M) c (t_of p (j_at J t)))) rfl ?_
    refine q_eqi (-1) e_r_2 ?_
    refine q_istore_n (lv' := [(2, .int (-1)), (0, .ref (c 0)), (1, .ref (a 0))]) K dX2_takeItem_4 (by decide) rfl ?_
    refine q_iload_n K 0 dX2_takeItem_5 rfl ?_
    refine q_if_ge 11 K dX2_takeItem_6 (by decide) (fun c_0 => absurd c_0 (by decide)) (fun c_0 => ?_)
    refine q_iconst 0 K dX2_takeItem_9 rfl ?_
    exact Rt _ _ 0 (w_F (k_Z M) a F ++ (w_T (k_Z M) c (t_of p (j_at J t)))) dX2_takeItem_10 rfl (k_res_f (item_none hq (fun j hj => hn j (by omega))) (by omega))
theorem kv_X2_takeItem : k_iv yX2_takeItem cX2_takeItem 3 (some .boolean) 1 := ⟨⟨im_X2_takeItem, se_X2_takeItem⟩, in_X2, co_X2_takeItem, by decide +kernel⟩
