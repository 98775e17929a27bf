set_option maxHeartbeats 4000000 in
set_option maxRecDepth 100000 in
theorem c_X0_moveBeasts (l : Launch) (Z : kz_Z) (a : Nat → Nat) (F : FS) : KV l Z yX0_moveBeasts cX0_moveBeasts 5 1 21 [.ref (a 0)] (w_F Z a F) (fun w2 => w2 = w_F Z a (f_move F)) := by
  refine kv_of (by decide) [(0, .ref (a 0))] (Nat.le_of_ble_eq_true rfl) rfl ?_
  intro M e1 e2 K Rt
  subst e1 e2
  refine q_aload_n K 0 dX0_moveBeasts_0 rfl ?_
  refine q_get (.ref (a 1)) K ws_X0 0 rfl rfl 0 (by decide) fl_X0_9 rfl dX0_moveBeasts_1 ?_
  refine q_iconst 0 K dX0_moveBeasts_4 rfl ?_
  refine q_iald K 1 rfl (vp_in_nI (n := 0) (N := 9) (by omega) (by omega)) dX0_moveBeasts_5 ?_
  refine q_eqi ((f_bs F) 0) rfl ?_
  refine q_istore_n (lv' := [(1, .int ((f_bs F) 0)), (0, .ref (a 0))]) K dX0_moveBeasts_6 (by decide) rfl ?_
  refine q_iconst 0 K dX0_moveBeasts_7 rfl ?_
  refine q_istore_n (lv' := [(2, .int 0), (1, .int ((f_bs F) 0)), (0, .ref (a 0))]) K dX0_moveBeasts_8 (by decide) rfl ?_
  refine q_lv [0, 1, 2] rfl ?_
  refine q_loop (α := Nat) (fun n9 g => g + n9 = 8) 9 (fun g => [(2, .int (nI g)), (1, .int (f_bs F g)), (0, .ref (a 0))]) (fun g => w_F (k_Z M) a (f_mvs F g, f_gs F, f_kd F, f_fd F, f_wy F, f_md F, f_ps F, f_hd F, f_wk F, f_wd F, f_hr F, f_zz F)) (fun n_1 g hI_2 ih_3 => ?_) 8 0 rfl
  refine q_iload_n K 0 dX0_moveBeasts_9 rfl ?_
  refine q_bipush 8 K dX0_moveBeasts_10 rfl ?_
  refine q_icmp_ge 70 K dX0_moveBeasts_12 (by decide) (fun c_4 => ?_) (fun c_4 => ?_)
  · have c_4n : 8 ≤ g := (nI_leI (a := 8) (b := g) (by omega) (by omega)).mp c_4
    exact Rt _ _ (w_F (k_Z M) a (f_mvs F g, f_gs F, f_kd F, f_fd F, f_wy F, f_md F, f_ps F, f_hd F, f_wk F, f_wd F, f_hr F, f_zz F)) dX0_moveBeasts_70 (by rw [show g = 8 by omega]; rfl)
  · have c_4n : ¬ (8 ≤ g) := fun h9 => c_4 ((nI_leI (a := 8) (b := g) (by omega) (by omega)).mpr h9)
    refine q_aload_n K 2 dX0_moveBeasts_15 rfl ?_
    refine q_get (.ref (a 1)) K ws_X0 0 rfl rfl 0 (by decide) fl_X0_9 rfl dX0_moveBeasts_16 ?_
    refine q_iload_n K 0 dX0_moveBeasts_19 rfl ?_
    refine q_iconst 1 K dX0_moveBeasts_20 rfl ?_
    refine q_iadd K dX0_moveBeasts_21 ?_
    refine q_eqi (nI (g + 1)) (kn_add g 1) ?_
    refine q_iald K 1 rfl (vp_in_nI (n := g + 1) (N := 9) (by omega) (by omega)) dX0_moveBeasts_22 ?_
    refine q_eqi ((f_mvs F g) (g + 1)) (by rw [nI_clamp (n := g + 1) (by omega)]) ?_
    refine q_eqi (f_bs F (g + 1)) (f_mvs_hi F g (g + 1) (by omega)) ?_
    refine q_istore_n (lv' := [(3, .int (f_bs F (g + 1))), (2, .int (nI g)), (1, .int (f_bs F g)), (0, .ref (a 0))]) K dX0_moveBeasts_23 (by decide) rfl ?_
    refine q_aload_n K 3 dX0_moveBeasts_24 rfl ?_
    refine q_get (.ref (a 2)) K ws_X0 0 rfl rfl 1 (by decide) fl_X0_15 rfl dX0_moveBeasts_25 ?_
    refine q_iload_n K 1 dX0_moveBeasts_28 rfl ?_
    refine q_iald K 2 rfl (vp_in_nI (n := g) (N := 8) (by omega) (by omega)) dX0_moveBeasts_29 ?_
    refine q_eqi ((f_gs F) g) (by rw [nI_clamp (n := g) (by omega)]) ?_
    refine q_iload_n K 2 dX0_moveBeasts_30 rfl ?_
    refine q_iload_n K 0 dX0_moveBeasts_31 rfl ?_
    refine q_isub K dX0_moveBeasts_32 ?_
    refine q_cp (rest := []) K ks_X0_through (c_X0_through (k_l M) (k_Z M) ((f_gs F) g) ((f_bs F g) - (f_bs F (g + 1)))) ml_X0_78 rfl rfl (Nat.le_of_ble_eq_true rfl) ⟨Nat.le_of_ble_eq_true rfl, Nat.le_of_ble_eq_true rfl⟩ dX0_moveBeasts_33 (fun r_5 e_r_5 => ?_)
    refine q_eqi (f_mv F g) e_r_5 ?_
    refine q_istore (lv' := [(4, .int (f_mv F g)), (3, .int (f_bs F (g + 1))), (2, .int (nI g)), (1, .int (f_bs F g)), (0, .ref (a 0))]) K dX0_moveBeasts_36 (by decide) rfl ?_
    refine q_aload_n K 4 dX0_moveBeasts_38 rfl ?_
    refine q_get (.ref (a 1)) K ws_X0 0 rfl rfl 0 (by decide) fl_X0_9 rfl dX0_moveBeasts_39 ?_
    refine q_iload_n K 2 dX0_moveBeasts_42 rfl ?_
    refine q_dup2 K dX0_moveBeasts_43 rfl rfl ?_
    refine q_iald K 1 rfl (vp_in_nI (n := g) (N := 9) (by omega) (by omega)) dX0_moveBeasts_44 ?_
    refine q_eqi ((f_mvs F g) g) (by rw [nI_clamp (n := g) (by omega)]) ?_
    refine q_iload K 0 dX0_moveBeasts_45 rfl ?_
    refine q_isub K dX0_moveBeasts_47 ?_
    refine q_iast (ws' := w_F (k_Z M) a (upd (f_mvs F g) g (((f_mvs F g) g) - (f_mv F g)), f_gs F, f_kd F, f_fd F, f_wy F, f_md F, f_ps F, f_hd F, f_wk F, f_wd F, f_hr F, f_zz F)) K 1 rfl (vp_in_nI (n := g) (N := 9) (by omega) (by omega)) (by rw [nI_clamp (n := g) (by omega)] <;> rfl) dX0_moveBeasts_48 ?_
    refine q_aload_n K 4 dX0_moveBeasts_49 rfl ?_
    refine q_get (.ref (a 1)) K ws_X0 0 rfl rfl 0 (by decide) fl_X0_9 rfl dX0_moveBeasts_50 ?_
    refine q_iload_n K 2 dX0_moveBeasts_53 rfl ?_
    refine q_iconst 1 K dX0_moveBeasts_54 rfl ?_
    refine q_iadd K dX0_moveBeasts_55 ?_
    refine q_eqi (nI (g + 1)) (kn_add g 1) ?_
    refine q_dup2 K dX0_moveBeasts_56 rfl rfl ?_
    refine q_iald K 1 rfl (vp_in_nI (n := g + 1) (N := 9) (by omega) (by omega)) dX0_moveBeasts_57 ?_
    refine q_eqi ((upd (f_mvs F g) g (((f_mvs F g) g) - (f_mv F g))) (g + 1)) (by rw [nI_clamp (n := g + 1) (by omega)]) ?_
    refine q_iload K 0 dX0_moveBeasts_58 rfl ?_
    refine q_iadd K dX0_moveBeasts_60 ?_
    refine q_iast (ws' := w_F (k_Z M) a (upd (upd (f_mvs F g) g (((f_mvs F g) g) - (f_mv F g))) (g + 1) (((upd (f_mvs F g) g (((f_mvs F g) g) - (f_mv F g))) (g + 1)) + (f_mv F g)), f_gs F, f_kd F, f_fd F, f_wy F, f_md F, f_ps F, f_hd F, f_wk F, f_wd F, f_hr F, f_zz F)) K 1 rfl (vp_in_nI (n := g + 1) (N := 9) (by omega) (by omega)) (by rw [nI_clamp (n := g + 1) (by omega)] <;> rfl) dX0_moveBeasts_61 ?_
    refine q_iload_n K 1 dX0_moveBeasts_62 rfl ?_
    refine q_istore_n (lv' := [(1, .int (f_bs F (g + 1))), (4, .int (f_mv F g)), (3, .int (f_bs F (g + 1))), (2, .int (nI g)), (0, .ref (a 0))]) K dX0_moveBeasts_63 (by decide) rfl ?_
    refine q_iinc (nI (g + 1)) (lv' := [(2, .int (nI (g + 1))), (1, .int (f_bs F (g + 1))), (4, .int (f_mv F g)), (3, .int (f_bs F (g + 1))), (0, .ref (a 0))]) K 3 dX0_moveBeasts_64 rfl (kn_inc g) (by decide) rfl ?_
    refine q_goto 9 K dX0_moveBeasts_67 (by decide) ?_
    refine q_lv [0, 1, 4] rfl ?_
    exact ih_3 (n_1 - 1) (g + 1) (by omega) (by omega)
theorem kv_X0_moveBeasts : k_iv yX0_moveBeasts cX0_moveBeasts 5 none 0 := ⟨⟨im_X0_moveBeasts, se_X0_moveBeasts⟩, in_X0, co_X0_moveBeasts, by decide +kernel⟩
set_option maxHeartbeats 4000000 in
set_option maxRecDepth 100000 in
theorem c_X0_blowShut (l : Launch) (Z : kz_Z) (a : Nat → Nat) (F : FS) : KV l Z yX0_blowShut cX0_blowShut 2 0 0 [.ref (a 0)] (w_F Z a F) (fun w2 => w2 = w_F Z a (f_blow F)) := by
  refine kv_of (by decide) [(0, .ref (a 0))] (Nat.le_of_ble_eq_true rfl) rfl ?_
  intro M e1 e2 K Rt
  subst e1 e2
  refine q_iconst 0 K dX0_blowShut_0 rfl ?_
  refine q_istore_n (lv' := [(1, .int 0), (0, .ref (a 0))]) K dX0_blowShut_1 (by decide) rfl ?_
  refine q_loop (α := Nat) (fun n9 g => g + n9 = 8) 2 (fun g => [(1, .int (nI g)), (0, .ref (a 0))]) (fun g => w_F (k_Z M) a (f_bs F, f_blw F g, f_kd F, f_fd F, f_wy F, f_md F, f_ps F, f_hd F, f_wk F, f_wd F, f_hr F, f_zz F)) (fun n_1 g hI_2 ih_3 => ?_) 8 0 rfl
  refine q_iload_n K 0 dX0_blowShut_2 rfl ?_
  refine q_bipush 8 K dX0_blowShut_3 rfl ?_
  refine q_icmp_ge 40 K dX0_blowShut_5 (by decide) (fun c_4 => ?_) (fun c_4 => ?_)
  · have c_4n : 8 ≤ g := (nI_leI (a := 8) (b := g) (by omega) (by omega)).mp c_4
    exact Rt _ _ (w_F (k_Z M) a (f_bs F, f_blw F g, f_kd F, f_fd F, f_wy F, f_md F, f_ps F, f_hd F, f_wk F, f_wd F, f_hr F, f_zz F)) dX0_blowShut_40 (by rw [show g = 8 by omega]; rfl)
  · have c_4n : ¬ (8 ≤ g) := fun h9 => c_4 ((nI_leI (a := 8) (b := g) (by omega) (by omega)).mpr h9)
    refine q_aload_n K 1 dX0_blowShut_8 rfl ?_
    refine q_get (.int (f_wd F)) K ws_X0 0 rfl rfl 5 (by decide) fl_X0_30 rfl dX0_blowShut_9 ?_
    refine q_bipush 7 K dX0_blowShut_12 rfl ?_
    refine q_icmp_lt 34 K dX0_blowShut_14 (by decide) (fun c_5 => ?_) (fun c_5 => ?_)
    · refine q_iinc (nI (g + 1)) (lv' := [(1, .int (nI (g + 1))), (0, .ref (a 0))]) K 0 dX0_blowShut_34 rfl (kn_inc g) (by decide) rfl ?_
      refine q_goto 2 K dX0_blowShut_37 (by decide) ?_
      rw [show w_F (k_Z M) a (f_bs F, f_blw F g, f_kd F, f_fd F, f_wy F, f_md F, f_ps F, f_hd F, f_wk F, f_wd F, f_hr F, f_zz F) = w_F (k_Z M) a (f_bs F, f_blw F (g + 1), f_kd F, f_fd F, f_wy F, f_md F, f_ps F, f_hd F, f_wk F, f_wd F, f_hr F, f_zz F) by simp only [f_blw, if_pos c_5]]
      exact ih_3 (n_1 - 1) (g + 1) (by omega) (by omega)
    · refine q_aload_n K 1 dX0_blowShut_17 rfl ?_
      refine q_get (.ref (a 2)) K ws_X0 0 rfl rfl 1 (by decide) fl_X0_15 rfl dX0_blowShut_18 ?_
      refine q_iload_n K 0 dX0_blowShut_21 rfl ?_
      refine q_iald K 2 rfl (vp_in_nI (n := g) (N := 8) (by omega) (by omega)) dX0_blowShut_22 ?_
      refine q_eqi ((f_blw F g) g) (by rw [nI_clamp (n := g) (by omega)]) ?_
      refine q_iconst 3 K dX0_blowShut_23 rfl ?_
      refine q_icmp_eq 34 K dX0_blowShut_24 (by decide) (fun c_6 => ?_) (fun c_6 => ?_)
      · refine q_iinc (nI (g + 1)) (lv' := [(1, .int (nI (g + 1))), (0, .ref (a 0))]) K 0 dX0_blowShut_34 rfl (kn_inc g) (by decide) rfl ?_
        refine q_goto 2 K dX0_blowShut_37 (by decide) ?_
        rw [show w_F (k_Z M) a (f_bs F, f_blw F g, f_kd F, f_fd F, f_wy F, f_md F, f_ps F, f_hd F, f_wk F, f_wd F, f_hr F, f_zz F) = w_F (k_Z M) a (f_bs F, f_blw F (g + 1), f_kd F, f_fd F, f_wy F, f_md F, f_ps F, f_hd F, f_wk F, f_wd F, f_hr F, f_zz F) by simp only [f_blw, if_neg c_5, if_pos c_6]]
        exact ih_3 (n_1 - 1) (g + 1) (by omega) (by omega)
      · refine q_aload_n K 1 dX0_blowShut_27 rfl ?_
        refine q_get (.ref (a 2)) K ws_X0 0 rfl rfl 1 (by decide) fl_X0_15 rfl dX0_blowShut_28 ?_
        refine q_iload_n K 0 dX0_blowShut_31 rfl ?_
        refine q_iconst 0 K dX0_blowShut_32 rfl ?_
        refine q_iast (ws' := w_F (k_Z M) a (f_bs F, upd (f_blw F g) g 0, f_kd F, f_fd F, f_wy F, f_md F, f_ps F, f_hd F, f_wk F, f_wd F, f_hr F, f_zz F)) K 2 rfl (vp_in_nI (n := g) (N := 8) (by omega) (by omega)) (by rw [nI_clamp (n := g) (by omega)] <;> rfl) dX0_blowShut_33 ?_
        refine q_iinc (nI (g + 1)) (lv' := [(1, .int (nI (g + 1))), (0, .ref (a 0))]) K 0 dX0_blowShut_34 rfl (kn_inc g) (by decide) rfl ?_
        refine q_goto 2 K dX0_blowShut_37 (by decide) ?_
        rw [show w_F (k_Z M) a (f_bs F, upd (f_blw F g) g 0, f_kd F, f_fd F, f_wy F, f_md F, f_ps F, f_hd F, f_wk F, f_wd F, f_hr F, f_zz F) = w_F (k_Z M) a (f_bs F, f_blw F (g + 1), f_kd F, f_fd F, f_wy F, f_md F, f_ps F, f_hd F, f_wk F, f_wd F, f_hr F, f_zz F) by simp only [f_blw, if_neg c_5, if_neg c_6]]
        exact ih_3 (n_1 - 1) (g + 1) (by omega) (by omega)
theorem kv_X0_blowShut : k_iv yX0_blowShut cX0_blowShut 2 none 0 := ⟨⟨im_X0_blowShut, se_X0_blowShut⟩, in_X0, co_X0_blowShut, by decide +kernel⟩
set_option maxHeartbeats 4000000 in
set_option maxRecDepth 100000 in
theorem c_X0_passHours (l : Launch) (Z : kz_Z) (a : Nat → Nat) (F : FS) (m : Nat) (hm : m ≤ 8) (hm2 : f_wk F = nI m) (n : Nat) (hn : n ≤ 100) (g : Int32) : KV l Z yX0_passHours cX0_passHours 5 4 86 [.ref (a 0), .int (nI n), .int g] (w_F Z a F) (fun w2 => w2 = w_F Z a (f_hoursC (f_gm g) F n)) := by
  refine kv_of (by decide) [(0, .ref (a 0)), (1, .int (nI n)), (2, .int g)] (Nat.le_of_ble_eq_true rfl) rfl ?_
  intro M e1 e2 K Rt
  subst e1 e2
  refine q_iconst 0 K dX0_passHours_0 rfl ?_
  refine q_istore_n (lv' := [(3, .int 0), (0, .ref (a 0)), (1, .int (nI n)), (2, .int g)]) K dX0_passHours_1 (by decide) rfl ?_
  refine q_lv [0, 1, 2, 3] rfl ?_
  refine q_loop (α := Nat) (fun n9 i => i + n9 = n) 2 (fun i => [(3, .int (nI i)), (0, .ref (a 0)), (1, .int (nI n)), (2, .int g)]) (fun i => w_F (k_Z M) a (f_hoursC (f_gm g) F i)) (fun n_1 i hI_2 ih_3 => ?_) n 0 (by omega)
  refine q_iload_n K 0 dX0_passHours_2 rfl ?_
  refine q_iload_n K 2 dX0_passHours_3 rfl ?_
  refine q_icmp_ge 70 K dX0_passHours_4 (by decide) (fun c_4 => ?_) (fun c_4 => ?_)
  · have c_4n : n ≤ i := (nI_leI (a := n) (b := i) (by omega) (by omega)).mp c_4
    exact Rt _ _ (w_F (k_Z M) a (f_hoursC (f_gm g) F i)) dX0_passHours_70 (by rw [show i = n by omega])
  · have c_4n : ¬ (n ≤ i) := fun h9 => c_4 ((nI_leI (a := n) (b := i) (by omega) (by omega)).mpr h9)
    refine q_iconst 0 K dX0_passHours_7 rfl ?_
    refine q_istore (lv' := [(4, .int 0), (3, .int (nI i)), (0, .ref (a 0)), (1, .int (nI n)), (2, .int g)]) K dX0_passHours_8 (by decide) rfl ?_
    refine q_loop (α := Nat) (fun n9 j => j + n9 = m) 10 (fun j => [(4, .int (nI j)), (3, .int (nI i)), (0, .ref (a 0)), (1, .int (nI n)), (2, .int g)]) (fun j => w_F (k_Z M) a (f_wks (f_gm g) (f_hoursC (f_gm g) F i) j)) (fun n_5 j hI_6 ih_7 => ?_) m 0 (by omega)
    refine q_iload K 0 dX0_passHours_10 rfl ?_
    refine q_aload_n K 2 dX0_passHours_12 rfl ?_
    refine q_get (.int (f_wk (f_wks (f_gm g) (f_hoursC (f_gm g) F i) j))) K ws_X0 0 rfl rfl 4 (by decide) fl_X0_26 rfl dX0_passHours_13 ?_
    refine q_eqi (nI m) (by rw [f_wks_wk, f_hoursC_wk, hm2]) ?_
    refine q_icmp_ge 41 K dX0_passHours_16 (by decide) (fun c_8 => ?_) (fun c_8 => ?_)
    · have c_8n : m ≤ j := (nI_leI (a := m) (b := j) (by omega) (by omega)).mp c_8
      have hj : j = m := by omega
      subst hj
      have hh : f_blow (f_move (f_wks (f_gm g) (f_hoursC (f_gm g) F i) j)) = f_hour (f_gm g) (f_hoursC (f_gm g) F i) := by rw [f_hour, f_hoursC_wk, hm2, nI_clamp (by omega)]
      refine q_aload_n K 2 dX0_passHours_41 rfl ?_
      refine q_wV (q0 := 0) (As := []) (rest := []) K kv_X0_moveBeasts (c_X0_moveBeasts (k_l M) (k_Z M) a (f_wks (f_gm g) (f_hoursC (f_gm g) F i) j)) rfl rfl ml_X0_58 rfl rfl (Nat.le_of_ble_eq_true rfl) ⟨Nat.le_of_ble_eq_true rfl, Nat.le_of_ble_eq_true rfl⟩ dX0_passHours_42 (fun w2 h_9 => ?_)
      obtain rfl := h_9
      refine q_aload_n K 2 dX0_passHours_45 rfl ?_
      refine q_wV (q0 := 0) (As := []) (rest := []) K kv_X0_blowShut (c_X0_blowShut (k_l M) (k_Z M) a (f_move (f_wks (f_gm g) (f_hoursC (f_gm g) F i) j))) rfl rfl ml_X0_61 rfl rfl (Nat.le_of_ble_eq_true rfl) ⟨Nat.le_of_ble_eq_true rfl, Nat.le_of_ble_eq_true rfl⟩ dX0_passHours_46 (fun w2 h_11 => ?_)
      obtain rfl := h_11
      rw [hh]
      refine q_aload_n K 2 dX0_passHours_49 rfl ?_
      refine q_aload_n K 2 dX0_passHours_50 rfl ?_
      refine q_get (.int (f_hr (f_hour (f_gm g) (f_hoursC (f_gm g) F i)))) K ws_X0 0 rfl rfl 6 (by decide) fl_X0_33 rfl dX0_passHours_51 ?_
      refine q_iconst 1 K dX0_passHours_54 rfl ?_
      refine q_iadd K dX0_passHours_55 ?_
      refine q_ldc K dX0_passHours_56 ct_X0_64 ?_
      refine q_mmin K ml_X0_45 (Nat.le_of_ble_eq_true rfl) (Nat.le_of_ble_eq_true rfl) dX0_passHours_58 ?_
      refine q_put (ty := .int) (ws' := w_F (k_Z M) a (f_bs (f_hour (f_gm g) (f_hoursC (f_gm g) F i)), f_gs (f_hour (f_gm g) (f_hoursC (f_gm g) F i)), f_kd (f_hour (f_gm g) (f_hoursC (f_gm g) F i)), f_fd (f_hour (f_gm g) (f_hoursC (f_gm g) F i)), f_wy (f_hour (f_gm g) (f_hoursC (f_gm g) F i)), f_md (f_hour (f_gm g) (f_hoursC (f_gm g) F i)), f_ps (f_hour (f_gm g) (f_hoursC (f_gm g) F i)), f_hd (f_hour (f_gm g) (f_hoursC (f_gm g) F i)), f_wk (f_hour (f_gm g) (f_hoursC (f_gm g) F i)), f_wd (f_hour (f_gm g) (f_hoursC (f_gm g) F i)), f_mn ((f_hr (f_hour (f_gm g) (f_hoursC (f_gm g) F i))) + 1) 99999, f_zz (f_hour (f_gm g) (f_hoursC (f_gm g) F i)))) K ws_X0 tyX0 tyX0_ok nmX0 0 rfl rfl 6 (by decide) fl_X0_33 rfl (by decide +kernel) rfl rfl (Nat.le_of_ble_eq_true rfl) rfl dX0_passHours_61 ?_
      refine q_iinc (nI (i + 1)) (lv' := [(3, .int (nI (i + 1))), (4, .int (nI j)), (0, .ref (a 0)), (1, .int (nI n)), (2, .int g)]) K 1 dX0_passHours_64 rfl (kn_inc i) (by decide) rfl ?_
      refine q_goto 2 K dX0_passHours_67 (by decide) ?_
      refine q_lv [0, 2, 3, 4] rfl ?_
      exact ih_3 (n_1 - 1) (i + 1) (by omega) (by omega)
    · have c_8n : ¬ (m ≤ j) := fun h9 => c_8 ((nI_leI (a := m) (b := j) (by omega) (by omega)).mpr h9)
      refine q_iload_n K 4 dX0_passHours_19 rfl ?_
      refine q_iload K 0 dX0_passHours_20 rfl ?_
      refine q_ishr K dX0_passHours_22 ?_
      refine q_iconst 1 K dX0_passHours_23 rfl ?_
      refine q_iand K dX0_passHours_24 ?_
      refine q_iconst 1 K dX0_passHours_25 rfl ?_
      refine q_icmp_ne 35 K dX0_passHours_26 (by decide) (fun c_13 => ?_) (fun c_13 => ?_)
      · refine q_iinc (nI (j + 1)) (lv' := [(4, .int (nI (j + 1))), (3, .int (nI i)), (0, .ref (a 0)), (1, .int (nI n)), (2, .int g)]) K 0 dX0_passHours_35 rfl (kn_inc j) (by decide) rfl ?_
        refine q_goto 10 K dX0_passHours_38 (by decide) ?_
        rw [show w_F (k_Z M) a (f_wks (f_gm g) (f_hoursC (f_gm g) F i) j) = w_F (k_Z M) a (f_wks (f_gm g) (f_hoursC (f_gm g) F i) (j + 1)) by rw [f_wks, if_neg (f_gm_f c_13)]]
        exact ih_7 (n_5 - 1) (j + 1) (by omega) (by omega)
      · refine q_aload_n K 2 dX0_passHours_29 rfl ?_
        refine q_iload K 0 dX0_passHours_30 rfl ?_
        refine q_wV (q0 := 0) (As := [.int (nI j)]) (rest := []) K kv_X0_letGo (c_X0_letGo (k_l M) (k_Z M) a (f_wks (f_gm g) (f_hoursC (f_gm g) F i) j) j (by omega)) rfl rfl ml_X0_54 rfl rfl (Nat.le_of_ble_eq_true rfl) ⟨Nat.le_of_ble_eq_true rfl, Nat.le_of_ble_eq_true rfl⟩ dX0_passHours_32 (fun w2 h_14 => ?_)
        obtain rfl := h_14
        refine q_iinc (nI (j + 1)) (lv' := [(4, .int (nI (j + 1))), (3, .int (nI i)), (0, .ref (a 0)), (1, .int (nI n)), (2, .int g)]) K 0 dX0_passHours_35 rfl (kn_inc j) (by decide) rfl ?_
        refine q_goto 10 K dX0_passHours_38 (by decide) ?_
        rw [show w_F (k_Z M) a (f_letGo (f_wks (f_gm g) (f_hoursC (f_gm g) F i) j) j) = w_F (k_Z M) a (f_wks (f_gm g) (f_hoursC (f_gm g) F i) (j + 1)) by rw [f_wks, if_pos (f_gm_t c_13)]]
        exact ih_7 (n_5 - 1) (j + 1) (by omega) (by omega)
theorem kv_X0_passHours : k_iv yX0_passHours cX0_passHours 5 none 2 := ⟨⟨im_X0_passHours, se_X0_passHours⟩, in_X0, co_X0_passHours, by decide +kernel⟩
