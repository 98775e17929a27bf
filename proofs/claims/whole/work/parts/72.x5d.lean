set_option maxHeartbeats 4000000 in
set_option maxRecDepth 100000 in
theorem c_X2_takeWind (l : Launch) (Z : kz_Z) (a c : Nat → Nat) (p : TP) (J : TJ) (F : FS) (t n : Nat) (hq : p.2 ≤ 120) (hJ : k_all p J n) (ht1 : t + 1 ≤ n) (D : DJ) : KI l Z yX2_takeWind cX2_takeWind 3 .boolean 2 37 [.ref (c 0), .ref (a 0)] (w_F Z a F ++ (w_T Z c (t_of p (j_at J t)))) (fun r w2 => k_res Z a c p J n D (i_wind p F (d_sq p D t)) r w2) := by
  refine ki_of (by decide) [(0, .ref (c 0)), (1, .ref (a 0))] (Nat.le_of_ble_eq_true rfl) rfl ?_
  intro M e1 e2 K Rt
  subst e1 e2
  refine q_aload_n K 0 dX2_takeWind_0 rfl ?_
  refine q_dup K dX2_takeWind_1 rfl ?_
  refine q_get (.int (nI t)) K ws_X2 10 rfl rfl 6 (by decide) fl_X2_41 rfl dX2_takeWind_2 ?_
  refine q_iconst 1 K dX2_takeWind_5 rfl ?_
  refine q_iadd K dX2_takeWind_6 ?_
  refine q_eqi (nI (t + 1)) (kn_add t 1) ?_
  refine q_put (ty := .int) (ws' := w_F (k_Z M) a F ++ (w_T (k_Z M) c (t_of p (j_at J (t + 1))))) K ws_X2 tyX2 tyX2_ok nmX2 10 rfl rfl 6 (by decide) fl_X2_41 rfl (by decide +kernel) rfl rfl (Nat.le_of_ble_eq_true rfl) rfl dX2_takeWind_7 ?_
  refine q_aload_n K 0 dX2_takeWind_10 rfl ?_
  refine q_bipush 9 K dX2_takeWind_11 rfl ?_
  refine q_cvI (q0 := 0) (As := [.int 9]) (rest := []) K kv_X2_takeNumber (c_X2_takeNumber (k_l M) (k_Z M) c p J (t + 1) n hq hJ ht1 9 (by omega) 9 rfl) (w_F (k_Z M) a F) [] rfl rfl rfl ml_X2_86 rfl rfl (Nat.le_of_ble_eq_true rfl) ⟨Nat.le_of_ble_eq_true rfl, Nat.le_of_ble_eq_true rfl⟩ dX2_takeWind_13 (fun r_2 w2 h_1 => ?_)
  rcases h_1 with ⟨hn_r_2, e_r_2, rfl⟩ | ⟨hn_r_2, e_r_2, rfl⟩
  · have hn_r_2 : n_sq p (t + 1) 9 := hn_r_2
    obtain ⟨g_r_2, hg_r_2, eg_r_2⟩ := kn_rng (n := 9) hn_r_2.2 rfl
    have ht_r_2 := k_all_lt hJ ht1 (k_so2 hn_r_2)
    refine q_ws (ws' := w_F (k_Z M) a F ++ (w_T (k_Z M) c (t_of p (j_at J (t + 1 + 1))))) rfl ?_
    refine q_eqi (nI g_r_2) (e_r_2.trans eg_r_2) ?_
    refine q_istore_n (lv' := [(2, .int (nI g_r_2)), (0, .ref (c 0)), (1, .ref (a 0))]) K dX2_takeWind_16 (by decide) rfl ?_
    refine q_iload_n K 0 dX2_takeWind_17 rfl ?_
    refine q_if_ge 23 K dX2_takeWind_18 (by decide) (fun c_3 => ?_) (fun c_3 => ?_)
    · have c_3n : 0 ≤ g_r_2 := (nI_leI (a := 0) (b := g_r_2) (by omega) (by omega)).mp c_3
      refine q_aload_n K 2 dX2_takeWind_23 rfl ?_
      refine q_iload_n K 0 dX2_takeWind_24 rfl ?_
      refine q_put (ty := .int) (ws' := w_F (k_Z M) a (f_bs F, f_gs F, f_kd F, f_fd F, f_wy F, f_md F, f_ps F, f_hd F, f_wk F, nI g_r_2, f_hr F, f_zz F) ++ (w_T (k_Z M) c (t_of p (j_at J (t + 1 + 1))))) K ws_X0 tyX0 tyX0_ok nmX0 0 rfl rfl 5 (by decide) fl_X2_100 rfl (by decide +kernel) rfl rfl (Nat.le_of_ble_eq_true rfl) rfl dX2_takeWind_25 ?_
      refine q_iconst 1 K dX2_takeWind_28 rfl ?_
      exact Rt _ _ 1 (w_F (k_Z M) a (f_bs F, f_gs F, f_kd F, f_fd F, f_wy F, f_md F, f_ps F, f_hd F, f_wk F, nI g_r_2, f_hr F, f_zz F) ++ (w_T (k_Z M) c (t_of p (j_at J (t + 1 + 1))))) dX2_takeWind_29 rfl (k_res_t (by rw [wind_y hq hn_r_2, eg_r_2]; rfl) ht_r_2)
    · have c_3n : ¬ (0 ≤ g_r_2) := fun h9 => c_3 ((nI_leI (a := 0) (b := g_r_2) (by omega) (by omega)).mpr h9)
      exact absurd (Nat.zero_le _) c_3n
  · have hn_r_2 : ¬ n_sq p (t + 1) 9 := hn_r_2
    refine q_ws (ws' := w_F (k_Z M) a F ++ (w_T (k_Z M) c (t_of p (j_at J (t + 1))))) rfl ?_
    refine q_eqi (-1) e_r_2 ?_
    refine q_istore_n (lv' := [(2, .int (-1)), (0, .ref (c 0)), (1, .ref (a 0))]) K dX2_takeWind_16 (by decide) rfl ?_
    refine q_iload_n K 0 dX2_takeWind_17 rfl ?_
    refine q_if_ge 23 K dX2_takeWind_18 (by decide) (fun c_0 => absurd c_0 (by decide)) (fun c_0 => ?_)
    refine q_iconst 0 K dX2_takeWind_21 rfl ?_
    exact Rt _ _ 0 (w_F (k_Z M) a F ++ (w_T (k_Z M) c (t_of p (j_at J (t + 1))))) dX2_takeWind_22 rfl (k_res_f (wind_n hq hn_r_2) ht1)
theorem kv_X2_takeWind : k_iv yX2_takeWind cX2_takeWind 3 (some .boolean) 1 := ⟨⟨im_X2_takeWind, se_X2_takeWind⟩, in_X2, co_X2_takeWind, by decide +kernel⟩
set_option maxHeartbeats 4000000 in
set_option maxRecDepth 100000 in
theorem c_X2_takeGate (l : Launch) (Z : kz_Z) (a c : Nat → Nat) (p : TP) (J : TJ) (F : FS) (t n : Nat) (hq : p.2 ≤ 120) (hJ : k_all p J n) (ht1 : t + 1 ≤ n) (D : DJ) (v : Int32) : KI l Z yX2_takeGate cX2_takeGate 4 .boolean 2 37 [.ref (c 0), .ref (a 0), .int v] (w_F Z a F ++ (w_T Z c (t_of p (j_at J t)))) (fun r w2 => k_res Z a c p J n D (i_gate p v F (d_sq p D t)) r w2) := by
  refine ki_of (by decide) [(0, .ref (c 0)), (1, .ref (a 0)), (2, .int v)] (Nat.le_of_ble_eq_true rfl) rfl ?_
  intro M e1 e2 K Rt
  subst e1 e2
  refine q_aload_n K 0 dX2_takeGate_0 rfl ?_
  refine q_dup K dX2_takeGate_1 rfl ?_
  refine q_get (.int (nI t)) K ws_X2 10 rfl rfl 6 (by decide) fl_X2_41 rfl dX2_takeGate_2 ?_
  refine q_iconst 1 K dX2_takeGate_5 rfl ?_
  refine q_iadd K dX2_takeGate_6 ?_
  refine q_eqi (nI (t + 1)) (kn_add t 1) ?_
  refine q_put (ty := .int) (ws' := w_F (k_Z M) a F ++ (w_T (k_Z M) c (t_of p (j_at J (t + 1))))) K ws_X2 tyX2 tyX2_ok nmX2 10 rfl rfl 6 (by decide) fl_X2_41 rfl (by decide +kernel) rfl rfl (Nat.le_of_ble_eq_true rfl) rfl dX2_takeGate_7 ?_
  refine q_aload_n K 0 dX2_takeGate_10 rfl ?_
  refine q_bipush 7 K dX2_takeGate_11 rfl ?_
  refine q_cvI (q0 := 0) (As := [.int 7]) (rest := []) K kv_X2_takeNumber (c_X2_takeNumber (k_l M) (k_Z M) c p J (t + 1) n hq hJ ht1 7 (by omega) 7 rfl) (w_F (k_Z M) a F) [] rfl rfl rfl ml_X2_86 rfl rfl (Nat.le_of_ble_eq_true rfl) ⟨Nat.le_of_ble_eq_true rfl, Nat.le_of_ble_eq_true rfl⟩ dX2_takeGate_13 (fun r_2 w2 h_1 => ?_)
  rcases h_1 with ⟨hn_r_2, e_r_2, rfl⟩ | ⟨hn_r_2, e_r_2, rfl⟩
  · have hn_r_2 : n_sq p (t + 1) 7 := hn_r_2
    obtain ⟨g_r_2, hg_r_2, eg_r_2⟩ := kn_rng (n := 7) hn_r_2.2 rfl
    have ht_r_2 := k_all_lt hJ ht1 (k_so2 hn_r_2)
    refine q_ws (ws' := w_F (k_Z M) a F ++ (w_T (k_Z M) c (t_of p (j_at J (t + 1 + 1))))) rfl ?_
    refine q_eqi (nI g_r_2) (e_r_2.trans eg_r_2) ?_
    refine q_istore_n (lv' := [(3, .int (nI g_r_2)), (0, .ref (c 0)), (1, .ref (a 0)), (2, .int v)]) K dX2_takeGate_16 (by decide) rfl ?_
    refine q_iload_n K 0 dX2_takeGate_17 rfl ?_
    refine q_if_ge 23 K dX2_takeGate_18 (by decide) (fun c_3 => ?_) (fun c_3 => ?_)
    · have c_3n : 0 ≤ g_r_2 := (nI_leI (a := 0) (b := g_r_2) (by omega) (by omega)).mp c_3
      refine q_aload_n K 2 dX2_takeGate_23 rfl ?_
      refine q_get (.ref (a 2)) K ws_X0 0 rfl rfl 1 (by decide) fl_X2_94 rfl dX2_takeGate_24 ?_
      refine q_iload_n K 0 dX2_takeGate_27 rfl ?_
      refine q_iload_n K 3 dX2_takeGate_28 rfl ?_
      refine q_iast (ws' := w_F (k_Z M) a (f_bs F, upd (f_gs F) g_r_2 v, f_kd F, f_fd F, f_wy F, f_md F, f_ps F, f_hd F, f_wk F, f_wd F, f_hr F, f_zz F) ++ (w_T (k_Z M) c (t_of p (j_at J (t + 1 + 1))))) K 2 rfl (vp_in_nI (n := g_r_2) (N := 8) (by omega) (by omega)) (by rw [nI_clamp (n := g_r_2) (by omega)] <;> rfl) dX2_takeGate_29 ?_
      refine q_iconst 1 K dX2_takeGate_30 rfl ?_
      exact Rt _ _ 1 (w_F (k_Z M) a (f_bs F, upd (f_gs F) g_r_2 v, f_kd F, f_fd F, f_wy F, f_md F, f_ps F, f_hd F, f_wk F, f_wd F, f_hr F, f_zz F) ++ (w_T (k_Z M) c (t_of p (j_at J (t + 1 + 1))))) dX2_takeGate_31 rfl (k_res_t (by rw [gate_y hq hn_r_2, eg_r_2, nI_clamp (n := g_r_2) (by omega)]; rfl) ht_r_2)
    · have c_3n : ¬ (0 ≤ g_r_2) := fun h9 => c_3 ((nI_leI (a := 0) (b := g_r_2) (by omega) (by omega)).mpr h9)
      exact absurd (Nat.zero_le _) c_3n
  · have hn_r_2 : ¬ n_sq p (t + 1) 7 := hn_r_2
    refine q_ws (ws' := w_F (k_Z M) a F ++ (w_T (k_Z M) c (t_of p (j_at J (t + 1))))) rfl ?_
    refine q_eqi (-1) e_r_2 ?_
    refine q_istore_n (lv' := [(3, .int (-1)), (0, .ref (c 0)), (1, .ref (a 0)), (2, .int v)]) K dX2_takeGate_16 (by decide) rfl ?_
    refine q_iload_n K 0 dX2_takeGate_17 rfl ?_
    refine q_if_ge 23 K dX2_takeGate_18 (by decide) (fun c_0 => absurd c_0 (by decide)) (fun c_0 => ?_)
    refine q_iconst 0 K dX2_takeGate_21 rfl ?_
    exact Rt _ _ 0 (w_F (k_Z M) a F ++ (w_T (k_Z M) c (t_of p (j_at J (t + 1))))) dX2_takeGate_22 rfl (k_res_f (gate_n hq hn_r_2) ht1)
theorem kv_X2_takeGate : k_iv yX2_takeGate cX2_takeGate 4 (some .boolean) 2 := ⟨⟨im_X2_takeGate, se_X2_takeGate⟩, in_X2, co_X2_takeGate, by decide +kernel⟩
set_option maxHeartbeats 4000000 in
set_option maxRecDepth 100000 in
theorem c_X2_takeBeasts (l : Launch) (Z : kz_Z) (a c : Nat → Nat) (p : TP) (J : TJ) (F : FS) (t n : Nat) (hq : p.2 ≤ 120) (hJ : k_all p J n) (ht1 : t + 1 ≤ n) (D : DJ) : KI l Z yX2_takeBeasts cX2_takeBeasts 4 .boolean 2 37 [.ref (c 0), .ref (a 0)] (w_F Z a F ++ (w_T Z c (t_of p (j_at J t)))) (fun r w2 => k_res Z a c p J n D (i_beasts p F (d_sq p D t)) r w2) := by
  refine ki_of (by decide) [(0, .ref (c 0)), (1, .ref (a 0))] (Nat.le_of_ble_eq_true rfl) rfl ?_
  intro M e1 e2 K Rt
  subst e1 e2
  refine q_aload_n K 0 dX2_takeBeasts_0 rfl ?_
  refine q_dup K dX2_takeBeasts_1 rfl ?_
  refine q_get (.int (nI t)) K ws_X2 10 rfl rfl 6 (by decide) fl_X2_41 rfl dX2_takeBeasts_2 ?_
  refine q_iconst 1 K dX2_takeBeasts_5 rfl ?_
  refine q_iadd K dX2_takeBeasts_6 ?_
  refine q_eqi (nI (t + 1)) (kn_add t 1) ?_
  refine q_put (ty := .int) (ws' := w_F (k_Z M) a F ++ (w_T (k_Z M) c (t_of p (j_at J (t + 1))))) K ws_X2 tyX2 tyX2_ok nmX2 10 rfl rfl 6 (by decide) fl_X2_41 rfl (by decide +kernel) rfl rfl (Nat.le_of_ble_eq_true rfl) rfl dX2_takeBeasts_7 ?_
  refine q_aload_n K 0 dX2_takeBeasts_10 rfl ?_
  refine q_bipush 8 K dX2_takeBeasts_11 rfl ?_
  refine q_cvI (q0 := 0) (As := [.int 8]) (rest := []) K kv_X2_takeNumber (c_X2_takeNumber (k_l M) (k_Z M) c p J (t + 1) n hq hJ ht1 8 (by omega) 8 rfl) (w_F (k_Z M) a F) [] rfl rfl rfl ml_X2_86 rfl rfl (Nat.le_of_ble_eq_true rfl) ⟨Nat.le_of_ble_eq_true rfl, Nat.le_of_ble_eq_true rfl⟩ dX2_takeBeasts_13 (fun r_2 w2 h_1 => ?_)
  rcases h_1 with ⟨hn_r_2, e_r_2, rfl⟩ | ⟨hn_r_2, e_r_2, rfl⟩
  · have hn_r_2 : n_sq p (t + 1) 8 := hn_r_2
    obtain ⟨g_r_2, hg_r_2, eg_r_2⟩ := kn_rng (n := 8) hn_r_2.2 rfl
    have ht_r_2 := k_all_lt hJ ht1 (k_so2 hn_r_2)
    refine q_ws (ws' := w_F (k_Z M) a F ++ (w_T (k_Z M) c (t_of p (j_at J (t + 1 + 1))))) rfl ?_
    refine q_eqi (nI g_r_2) (e_r_2.trans eg_r_2) ?_
    refine q_istore_n (lv' := [(2, .int (nI g_r_2)), (0, .ref (c 0)), (1, .ref (a 0))]) K dX2_takeBeasts_16 (by decide) rfl ?_
    refine q_iload_n K 0 dX2_takeBeasts_17 rfl ?_
    refine q_if_ge 23 K dX2_takeBeasts_18 (by decide) (fun c_3 => ?_) (fun c_3 => ?_)
    · have c_3n : 0 ≤ g_r_2 := (nI_leI (a := 0) (b := g_r_2) (by omega) (by omega)).mp c_3
      refine q_aload_n K 1 dX2_takeBeasts_23 rfl ?_
      refine q_sipush 9999 K dX2_takeBeasts_24 rfl ?_
      refine q_cvI (q0 := 0) (As := [.int 9999]) (rest := []) K kv_X2_takeNumber (c_X2_takeNumber (k_l M) (k_Z M) c p J (t + 1 + 1) n hq hJ ht_r_2 9999 (by omega) 9999 rfl) (w_F (k_Z M) a F) [] rfl rfl rfl ml_X2_86 rfl rfl (Nat.le_of_ble_eq_true rfl) ⟨Nat.le_of_ble_eq_true rfl, Nat.le_of_ble_eq_true rfl⟩ dX2_takeBeasts_27 (fun r_5 w2 h_4 => ?_)
      rcases h_4 with ⟨hn_r_5, e_r_5, rfl⟩ | ⟨hn_r_5, e_r_5, rfl⟩
      · have hn_r_5 : n_sq p (t + 1 + 1) 9999 := hn_r_5
        obtain ⟨g_r_5, hg_r_5, eg_r_5⟩ := kn_rng (n := 9999) hn_r_5.2 rfl
        have ht_r_5 := k_all_lt hJ ht_r_2 (k_so2 hn_r_5)
        refine q_ws (ws' := w_F (k_Z M) a F ++ (w_T (k_Z M) c (t_of p (j_at J (t + 1 + 1 + 1))))) rfl ?_
        refine q_eqi (nI g_r_5) (e_r_5.trans eg_r_5) ?_
        refine q_istore_n (lv' := [(3, .int (nI g_r_5)), (2, .int (nI g_r_2)), (0, .ref (c 0)), (1, .ref (a 0))]) K dX2_takeBeasts_30 (by decide) rfl ?_
        refine q_iload_n K 0 dX2_takeBeasts_31 rfl ?_
        refine q_if_ge 37 K dX2_takeBeasts_32 (by decide) (fun c_6 => ?_) (fun c_6 => ?_)
        · have c_6n : 0 ≤ g_r_5 := (nI_leI (a := 0) (b := g_r_5) (by omega) (by omega)).mp c_6
          refine q_aload_n K 3 dX2_takeBeasts_37 rfl ?_
          refine q_get (.ref (a 1)) K ws_X0 0 rfl rfl 0 (by decide) fl_X2_97 rfl dX2_takeBeasts_38 ?_
          refine q_iload_n K 1 dX2_takeBeasts_41 rfl ?_
          refine q_iload_n K 0 dX2_takeBeasts_42 rfl ?_
          refine q_iast (ws' := w_F (k_Z M) a (upd (f_bs F) g_r_2 (nI g_r_5), f_gs F, f_kd F, f_fd F, f_wy F, f_md F, f_ps F, f_hd F, f_wk F, f_wd F, f_hr F, f_zz F) ++ (w_T (k_Z M) c (t_of p (j_at J (t + 1 + 1 + 1))))) K 1 rfl (vp_in_nI (n := g_r_2) (N := 9) (by omega) (by omega)) (by rw [nI_clamp (n := g_r_2) (by omega)] <;> rfl) dX2_takeBeasts_43 ?_
          refine q_iconst 1 K dX2_takeBeasts_44 rfl ?_
          exact Rt _ _ 1 (w_F (k_Z M) a (upd (f_bs F) g_r_2 (nI g_r_5), f_gs F, f_kd F, f_fd F, f_wy F, f_md F, f_ps F, f_hd F, f_wk F, f_wd F, f_hr F, f_zz F) ++ (w_T (k_Z M) c (t_of p (j_at J (t + 1 + 1 + 1))))) dX2_takeBeasts_45 rfl (k_res_t (by rw [beasts_y hq hn_r_2 hn_r_5, eg_r_2, eg_r_5, nI_clamp (n := g_r_2) (by omega)]; rfl) ht_r_5)
        · have c_6n : ¬ (0 ≤ g_r_5) := fun h9 => c_6 ((nI_leI (a := 0) (b := g_r_5) (by omega) (by omega)).mpr h9)
          exact absurd (Nat.zero_le _) c_6n
      · have hn_r_5 : ¬ n_sq p (t + 1 + 1) 9999 := hn_r_5
        refine q_ws (ws' := w_F (k_Z M) a F ++ (w_T (k_Z M) c (t_of p (j_at J (t + 1 + 1))))) rfl ?_
        refine q_eqi (-1) e_r_5 ?_
        refine q_istore_n (lv' := [(3, .int (-1)), (2, .int (nI g_r_2)), (0, .ref (c 0)), (1, .ref (a 0))]) K dX2_takeBeasts_30 (by decide) rfl ?_
        refine q_iload_n K 0 dX2_takeBeasts_31 rfl ?_
        refine q_if_ge 37 K dX2_takeBeasts_32 (by decide) (fun c_0 => absurd c_0 (by decide)) (fun c_0 => ?_)
        refine q_iconst 0 K dX2_takeBeasts_35 rfl ?_
        exact Rt _ _ 0 (w_F (k_Z M) a F ++ (w_T (k_Z M) c (t_of p (j_at J (t + 1 + 1))))) dX2_takeBeasts_36 rfl (k_res_f (beasts_2 hq hn_r_2 hn_r_5) ht_r_2)
    · have c_3n : ¬ (0 ≤ g_r_2) := fun h9 => c_3 ((nI_leI (a := 0) (b := g_r_2) (by omega) (by omega)).mpr h9)
      exact absurd (Nat.zero_le _) c_3n
  · have hn_r_2 : ¬ n_sq p (t + 1) 8 := hn_r_2
    refine q_ws (ws' := w_F (k_Z M) a F ++ (w_T (k_Z M) c (t_of p (j_at J (t + 1))))) rfl ?_
    refine q_eqi (-1) e_r_2 ?_
    refine q_istore_n (lv' := [(2, .int (-1)), (0, .ref (c 0)), (1, .ref (a 0))]) K dX2_takeBeasts_16 (by decide) rfl ?_
    refine q_iload_n K 0 dX2_takeBeasts_17 rfl ?_
    refine q_if_ge 23 K dX2_takeBeasts_18 (by decide) (fun c_0 => absurd c_0 (by decide)) (fun c_0 => ?_)
    refine q_iconst 0 K dX2_takeBeasts_21 rfl ?_
    exact Rt _ _ 0 (w_F (k_Z M) a F ++ (w_T (k_Z M) c (t_of p (j_at J (t + 1))))) dX2_takeBeasts_22 rfl (k_res_f (beasts_n hq hn_r_2) ht1)
theorem kv_X2_takeBeasts : k_iv yX2_takeBeasts cX2_takeBeasts 4 (some .boolean) 1 := ⟨⟨im_X2_takeBeasts, se_X2_takeBeasts⟩, in_X2, co_X2_takeBeasts, by decide +kernel⟩
