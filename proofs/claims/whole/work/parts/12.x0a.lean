set_option maxHeartbeats 4000000 in
set_option maxRecDepth 100000 in
theorem c_X0_leftBy (l : Launch) (Z : kz_Z) (a : Nat → Nat) (F : FS) (w : Nat) (hw : w < 8) (s : Int32) : KI l Z yX0_leftBy cX0_leftBy 6 .int 0 0 [.ref (a 0), .int (nI w), .int s] (w_F Z a F) (fun r w2 => r = f_leaves F w s ∧ w2 = w_F Z a F) := by
  refine ki_of (by decide) [(0, .ref (a 0)), (1, .int (nI w)), (2, .int s)] (Nat.le_of_ble_eq_true rfl) rfl ?_
  intro M e1 e2 K Rt
  subst e1 e2
  refine q_aload_n K 0 dX0_leftBy_0 rfl ?_
  refine q_get (.int (f_wd F)) K ws_X0 0 rfl rfl 5 (by decide) fl_X0_30 rfl dX0_leftBy_1 ?_
  refine q_iconst 5 K dX0_leftBy_4 rfl ?_
  refine q_cuti (fun v9 : Int32 => v9 = (if (f_wd F) < 5 then s else 0)) 13 (st := []) (fun v_1 e_v_1 => ?_) (fun j_v_1 => ?_)
  · refine q_eqi (f_pl F s) e_v_1 ?_
    refine q_istore_n (lv' := [(3, .int (f_pl F s)), (0, .ref (a 0)), (1, .int (nI w)), (2, .int s)]) K dX0_leftBy_13 (by decide) rfl ?_
    refine q_iload_n K 0 dX0_leftBy_14 rfl ?_
    refine q_iconst 1 K dX0_leftBy_15 rfl ?_
    refine q_cuti (fun v9 : Int32 => v9 = (if (f_pl F s) = 1 then 2 else f_pl F s)) 24 (st := []) (fun v_3 e_v_3 => ?_) (fun j_v_3 => ?_)
    · refine q_eqi (f_dg F s) e_v_3 ?_
      refine q_istore (lv' := [(4, .int (f_dg F s)), (3, .int (f_pl F s)), (0, .ref (a 0)), (1, .int (nI w)), (2, .int s)]) K dX0_leftBy_24 (by decide) rfl ?_
      refine q_iload K 0 dX0_leftBy_26 rfl ?_
      refine q_aload_n K 2 dX0_leftBy_28 rfl ?_
      refine q_get (.ref (a 3)) K ws_X0 0 rfl rfl 2 (by decide) fl_X0_20 rfl dX0_leftBy_29 ?_
      refine q_iconst 3 K dX0_leftBy_32 rfl ?_
      refine q_aldg (y := a 8) K 3 rfl (vp_in_nI (n := 3) (N := 5) (by omega) (by omega)) rfl dX0_leftBy_33 ?_
      refine q_iload_n K 3 dX0_leftBy_34 rfl ?_
      refine q_iald K 8 rfl (vp_in_nI (n := w) (N := 8) (by omega) (by omega)) dX0_leftBy_35 ?_
      refine q_eqi ((f_md F) w) (by rw [nI_clamp (n := w) (by omega)]) ?_
      refine q_iadd K dX0_leftBy_36 ?_
      refine q_iconst 4 K dX0_leftBy_37 rfl ?_
      refine q_irem K dX0_leftBy_38 (by decide) ?_
      refine q_eqi (f_ch F w s) rfl ?_
      refine q_istore (lv' := [(5, .int (f_ch F w s)), (4, .int (f_dg F s)), (3, .int (f_pl F s)), (0, .ref (a 0)), (1, .int (nI w)), (2, .int s)]) K dX0_leftBy_39 (by decide) rfl ?_
      refine q_aload_n K 3 dX0_leftBy_41 rfl ?_
      refine q_get (.ref (a 3)) K ws_X0 0 rfl rfl 2 (by decide) fl_X0_20 rfl dX0_leftBy_42 ?_
      refine q_iconst 0 K dX0_leftBy_45 rfl ?_
      refine q_aldg (y := a 5) K 3 rfl (vp_in_nI (n := 0) (N := 5) (by omega) (by omega)) rfl dX0_leftBy_46 ?_
      refine q_iload_n K 4 dX0_leftBy_47 rfl ?_
      refine q_iald K 5 rfl (vp_in_nI (n := w) (N := 8) (by omega) (by omega)) dX0_leftBy_48 ?_
      refine q_eqi ((f_kd F) w) (by rw [nI_clamp (n := w) (by omega)]) ?_
      by_cases c_5 : ((f_kd F) w) = 1
      · refine q_tableIn (off := 39) 88 K dX0_leftBy_49 (by rw [c_5]; decide) (by rw [c_5]; decide) (by rw [c_5]; rfl) (by decide) ?_
        refine q_iconst 3 K dX0_leftBy_88 rfl ?_
        exact Rt _ _ 3 (w_F (k_Z M) a F) dX0_leftBy_89 rfl (⟨by simp only [f_leaves, e_v_1, e_v_3, if_pos c_5], rfl⟩)
      by_cases c_6 : ((f_kd F) w) = 2
      · refine q_tableIn (off := 51) 100 K dX0_leftBy_49 (by rw [c_6]; decide) (by rw [c_6]; decide) (by rw [c_6]; rfl) (by decide) ?_
        refine q_iload K 1 dX0_leftBy_100 rfl ?_
        exact Rt _ _ (f_dg F s) (w_F (k_Z M) a F) dX0_leftBy_102 rfl (⟨by simp only [f_leaves, e_v_1, e_v_3, if_neg c_5, if_pos c_6], rfl⟩)
      by_cases c_7 : ((f_kd F) w) = 3
      · refine q_tableIn (off := 54) 103 K dX0_leftBy_49 (by rw [c_7]; decide) (by rw [c_7]; decide) (by rw [c_7]; rfl) (by decide) ?_
        refine q_iload K 0 dX0_leftBy_103 rfl ?_
        exact Rt _ _ (f_ch F w s) (w_F (k_Z M) a F) dX0_leftBy_105 rfl (⟨by simp only [f_leaves, e_v_1, e_v_3, if_neg c_5, if_neg c_6, if_pos c_7], rfl⟩)
      by_cases c_8 : ((f_kd F) w) = 4
      · refine q_tableIn (off := 57) 106 K dX0_leftBy_49 (by rw [c_8]; decide) (by rw [c_8]; decide) (by rw [c_8]; rfl) (by decide) ?_
        refine q_iconst 3 K dX0_leftBy_106 rfl ?_
        refine q_iload K 0 dX0_leftBy_107 rfl ?_
        refine q_isub K dX0_leftBy_109 ?_
        exact Rt _ _ (3 - (f_ch F w s)) (w_F (k_Z M) a F) dX0_leftBy_110 rfl (⟨by simp only [f_leaves, e_v_1, e_v_3, if_neg c_5, if_neg c_6, if_neg c_7, if_pos c_8], rfl⟩)
      by_cases c_9 : ((f_kd F) w) = 5
      · refine q_tableIn (off := 62) 111 K dX0_leftBy_49 (by rw [c_9]; decide) (by rw [c_9]; decide) (by rw [c_9]; rfl) (by decide) ?_
        refine q_iconst 0 K dX0_leftBy_111 rfl ?_
        exact Rt _ _ 0 (w_F (k_Z M) a F) dX0_leftBy_112 rfl (⟨by simp only [f_leaves, e_v_1, e_v_3, if_neg c_5, if_neg c_6, if_neg c_7, if_neg c_8, if_pos c_9], rfl⟩)
      by_cases c_10 : ((f_kd F) w) = 6
      · refine q_tableIn (off := 41) 90 K dX0_leftBy_49 (by rw [c_10]; decide) (by rw [c_10]; decide) (by rw [c_10]; rfl) (by decide) ?_
        refine q_iload_n K 5 dX0_leftBy_90 rfl ?_
        refine q_cuti (fun v9 : Int32 => v9 = (if s = 0 then 1 else 3)) 99 (st := []) (fun v_11 e_v_11 => ?_) (fun j_v_11 => ?_)
        · exact Rt _ _ v_11 (w_F (k_Z M) a F) dX0_leftBy_99 rfl (⟨by simp only [f_leaves, e_v_1, e_v_3, e_v_11, if_neg c_5, if_neg c_6, if_neg c_7, if_neg c_8, if_neg c_9, if_pos c_10], rfl⟩)
        · refine q_if_ne 98 K dX0_leftBy_91 (by decide) (fun c_12 => ?_) (fun c_12 => ?_)
          · refine q_iconst 3 K dX0_leftBy_98 rfl ?_
            exact j_v_11 _ (if_neg c_12).symm
          · refine q_iconst 1 K dX0_leftBy_94 rfl ?_
            refine q_goto 99 K dX0_leftBy_95 (by decide) ?_
            exact j_v_11 _ (if_pos c_12).symm
      refine q_tableOut 113 K dX0_leftBy_49 (by have := lv_neT (a := 1) c_5 rfl; have := lv_neT (a := 2) c_6 rfl; have := lv_neT (a := 3) c_7 rfl; have := lv_neT (a := 4) c_8 rfl; have := lv_neT (a := 5) c_9 rfl; have := lv_neT (a := 6) c_10 rfl; omega) (by decide) ?_
      refine q_iload_n K 2 dX0_leftBy_113 rfl ?_
      exact Rt _ _ (f_pl F s) (w_F (k_Z M) a F) dX0_leftBy_114 rfl (⟨by simp only [f_leaves, e_v_1, e_v_3, if_neg c_5, if_neg c_6, if_neg c_7, if_neg c_8, if_neg c_9, if_neg c_10], rfl⟩)
    · refine q_icmp_ne 23 K dX0_leftBy_16 (by decide) (fun c_4 => ?_) (fun c_4 => ?_)
      · refine q_iload_n K 0 dX0_leftBy_23 rfl ?_
        exact j_v_3 _ (if_neg c_4).symm
      · refine q_iconst 2 K dX0_leftBy_19 rfl ?_
        refine q_goto 24 K dX0_leftBy_20 (by decide) ?_
        exact j_v_3 _ (if_pos c_4).symm
  · refine q_icmp_lt 12 K dX0_leftBy_5 (by decide) (fun c_2 => ?_) (fun c_2 => ?_)
    · refine q_iload_n K 2 dX0_leftBy_12 rfl ?_
      exact j_v_1 _ (if_pos c_2).symm
    · refine q_iconst 0 K dX0_leftBy_8 rfl ?_
      refine q_goto 13 K dX0_leftBy_9 (by decide) ?_
      exact j_v_1 _ (if_neg c_2).symm
theorem kv_X0_leftBy : k_iv yX0_leftBy cX0_leftBy 6 (some .int) 2 := ⟨⟨im_X0_leftBy, se_X0_leftBy⟩, in_X0, co_X0_leftBy, by decide +kernel⟩
set_option maxHeartbeats 4000000 in
set_option maxRecDepth 100000 in
theorem c_X0_feltBy (l : Launch) (Z : kz_Z) (a : Nat → Nat) (F : FS) (w : Nat) (hw : w < 8) (s : Int32) : KI l Z yX0_feltBy cX0_feltBy 7 .int 1 13 [.ref (a 0), .int (nI w), .int s] (w_F Z a F) (fun r w2 => r = f_feels F w s ∧ w2 = w_F Z a F) := by
  refine ki_of (by decide) [(0, .ref (a 0)), (1, .int (nI w)), (2, .int s)] (Nat.le_of_ble_eq_true rfl) rfl ?_
  intro M e1 e2 K Rt
  subst e1 e2
  refine q_aload_n K 0 dX0_feltBy_0 rfl ?_
  refine q_get (.ref (a 3)) K ws_X0 0 rfl rfl 2 (by decide) fl_X0_20 rfl dX0_feltBy_1 ?_
  refine q_iconst 3 K dX0_feltBy_4 rfl ?_
  refine q_aldg (y := a 8) K 3 rfl (vp_in_nI (n := 3) (N := 5) (by omega) (by omega)) rfl dX0_feltBy_5 ?_
  refine q_iload_n K 1 dX0_feltBy_6 rfl ?_
  refine q_iald K 8 rfl (vp_in_nI (n := w) (N := 8) (by omega) (by omega)) dX0_feltBy_7 ?_
  refine q_eqi ((f_md F) w) (by rw [nI_clamp (n := w) (by omega)]) ?_
  refine q_istore_n (lv' := [(3, .int ((f_md F) w)), (0, .ref (a 0)), (1, .int (nI w)), (2, .int s)]) K dX0_feltBy_8 (by decide) rfl ?_
  refine q_bipush 9 K dX0_feltBy_9 rfl ?_
  refine q_istore (lv' := [(4, .int 9), (3, .int ((f_md F) w)), (0, .ref (a 0)), (1, .int (nI w)), (2, .int s)]) K dX0_feltBy_11 (by decide) rfl ?_
  refine q_iload_n K 1 dX0_feltBy_13 rfl ?_
  refine q_iload_n K 4 dX0_feltBy_14 rfl ?_
  refine q_iadd K dX0_feltBy_15 ?_
  refine q_bipush 9 K dX0_feltBy_16 rfl ?_
  refine q_mmin K ml_X0_45 (Nat.le_of_ble_eq_true rfl) (Nat.le_of_ble_eq_true rfl) dX0_feltBy_18 ?_
  refine q_istore (lv' := [(5, .int (f_mn (((f_md F) w) + s) 9)), (4, .int 9), (3, .int ((f_md F) w)), (0, .ref (a 0)), (1, .int (nI w)), (2, .int s)]) K dX0_feltBy_21 (by decide) rfl ?_
  refine q_iload K 0 dX0_feltBy_23 rfl ?_
  refine q_iconst 1 K dX0_feltBy_25 rfl ?_
  refine q_iadd K dX0_feltBy_26 ?_
  refine q_bipush 9 K dX0_feltBy_27 rfl ?_
  refine q_mmin K ml_X0_45 (Nat.le_of_ble_eq_true rfl) (Nat.le_of_ble_eq_true rfl) dX0_feltBy_29 ?_
  refine q_istore (lv' := [(6, .int (f_mn ((f_mn (((f_md F) w) + s) 9) + 1) 9)), (5, .int (f_mn (((f_md F) w) + s) 9)), (4, .int 9), (3, .int ((f_md F) w)), (0, .ref (a 0)), (1, .int (nI w)), (2, .int s)]) K dX0_feltBy_32 (by decide) rfl ?_
  refine q_aload_n K 4 dX0_feltBy_34 rfl ?_
  refine q_get (.ref (a 3)) K ws_X0 0 rfl rfl 2 (by decide) fl_X0_20 rfl dX0_feltBy_35 ?_
  refine q_iconst 0 K dX0_feltBy_38 rfl ?_
  refine q_aldg (y := a 5) K 3 rfl (vp_in_nI (n := 0) (N := 5) (by omega) (by omega)) rfl dX0_feltBy_39 ?_
  refine q_iload_n K 5 dX0_feltBy_40 rfl ?_
  refine q_iald K 5 rfl (vp_in_nI (n := w) (N := 8) (by omega) (by omega)) dX0_feltBy_41 ?_
  refine q_eqi ((f_kd F) w) (by rw [nI_clamp (n := w) (by omega)]) ?_
  by_cases c_1 : ((f_kd F) w) = 1
  · refine q_tableIn (off := 38) 80 K dX0_feltBy_42 (by rw [c_1]; decide) (by rw [c_1]; decide) (by rw [c_1]; rfl) (by decide) ?_
    refine q_iload K 2 dX0_feltBy_80 rfl ?_
    exact Rt _ _ 9 (w_F (k_Z M) a F) dX0_feltBy_82 rfl (⟨by simp only [f_feels, f_fdg, f_fch, if_pos c_1], rfl⟩)
  by_cases c_2 : ((f_kd F) w) = 2
  · refine q_tableIn (off := 46) 88 K dX0_feltBy_42 (by rw [c_2]; decide) (by rw [c_2]; decide) (by rw [c_2]; rfl) (by decide) ?_
    refine q_iload K 1 dX0_feltBy_88 rfl ?_
    exact Rt _ _ (f_mn (((f_md F) w) + s) 9) (w_F (k_Z M) a F) dX0_feltBy_90 rfl (⟨by simp only [f_feels, f_fdg, f_fch, if_neg c_1, if_pos c_2], rfl⟩)
  by_cases c_3 : ((f_kd F) w) = 3
  · refine q_tableIn (off := 49) 91 K dX0_feltBy_42 (by rw [c_3]; decide) (by rw [c_3]; decide) (by rw [c_3]; rfl) (by decide) ?_
    refine q_iload K 0 dX0_feltBy_91 rfl ?_
    exact Rt _ _ (f_mn ((f_mn (((f_md F) w) + s) 9) + 1) 9) (w_F (k_Z M) a F) dX0_feltBy_93 rfl (⟨by simp only [f_feels, f_fdg, f_fch, if_neg c_1, if_neg c_2, if_pos c_3], rfl⟩)
  by_cases c_4 : ((f_kd F) w) = 4
  · refine q_tableIn (off := 52) 94 K dX0_feltBy_42 (by rw [c_4]; decide) (by rw [c_4]; decide) (by rw [c_4]; rfl) (by decide) ?_
    refine q_iload K 0 dX0_feltBy_94 rfl ?_
    refine q_iconst 2 K dX0_feltBy_96 rfl ?_
    refine q_idiv K dX0_feltBy_97 (by decide) ?_
    exact Rt _ _ ((f_mn ((f_mn (((f_md F) w) + s) 9) + 1) 9) / 2) (w_F (k_Z M) a F) dX0_feltBy_98 rfl (⟨by simp only [f_feels, f_fdg, f_fch, if_neg c_1, if_neg c_2, if_neg c_3, if_pos c_4], rfl⟩)
  by_cases c_5 : ((f_kd F) w) = 5
  · refine q_tableIn (off := 57) 99 K dX0_feltBy_42 (by rw [c_5]; decide) (by rw [c_5]; decide) (by rw [c_5]; rfl) (by decide) ?_
    refine q_iload_n K 3 dX0_feltBy_99 rfl ?_
    refine q_iconst 1 K dX0_feltBy_100 rfl ?_
    refine q_isub K dX0_feltBy_101 ?_
    refine q_iconst 0 K dX0_feltBy_102 rfl ?_
    refine q_mmax K ml_X0_51 (Nat.le_of_ble_eq_true rfl) (Nat.le_of_ble_eq_true rfl) dX0_feltBy_103 ?_
    exact Rt _ _ (f_mx (((f_md F) w) - 1) 0) (w_F (k_Z M) a F) dX0_feltBy_106 rfl (⟨by simp only [f_feels, f_fdg, f_fch, if_neg c_1, if_neg c_2, if_neg c_3, if_neg c_4, if_pos c_5], rfl⟩)
  by_cases c_6 : ((f_kd F) w) = 6
  · refine q_tableIn (off := 41) 83 K dX0_feltBy_42 (by rw [c_6]; decide) (by rw [c_6]; decide) (by rw [c_6]; rfl) (by decide) ?_
    refine q_iload K 2 dX0_feltBy_83 rfl ?_
    refine q_iload_n K 6 dX0_feltBy_85 rfl ?_
    refine q_isub K dX0_feltBy_86 ?_
    exact Rt _ _ (9 - s) (w_F (k_Z M) a F) dX0_feltBy_87 rfl (⟨by simp only [f_feels, f_fdg, f_fch, if_neg c_1, if_neg c_2, if_neg c_3, if_neg c_4, if_neg c_5, if_pos c_6], rfl⟩)
  refine q_tableOut 107 K dX0_feltBy_42 (by have := lv_neT (a := 1) c_1 rfl; have := lv_neT (a := 2) c_2 rfl; have := lv_neT (a := 3) c_3 rfl; have := lv_neT (a := 4) c_4 rfl; have := lv_neT (a := 5) c_5 rfl; have := lv_neT (a := 6) c_6 rfl; omega) (by decide) ?_
  refine q_iload_n K 3 dX0_feltBy_107 rfl ?_
  exact Rt _ _ ((f_md F) w) (w_F (k_Z M) a F) dX0_feltBy_108 rfl (⟨by simp only [f_feels, f_fdg, f_fch, if_neg c_1, if_neg c_2, if_neg c_3, if_neg c_4, if_neg c_5, if_neg c_6], rfl⟩)
theorem kv_X0_feltBy : k_iv yX0_feltBy cX0_feltBy 7 (some .int) 2 := ⟨⟨im_X0_feltBy, se_X0_feltBy⟩, in_X0, co_X0_feltBy, by decide +kernel⟩
set_option maxHeartbeats 4000000 in
set_option maxRecDepth 100000 in
theorem c_X0_goesOf (l : Launch) (Z : kz_Z) (a : Nat → Nat) (F : FS) (w : Nat) (hw : w < 8) : KI l Z yX0_goesOf cX0_goesOf 3 .int 0 0 [.ref (a 0), .int (nI w)] (w_F Z a F) (fun r w2 => r = f_goes F w ∧ w2 = w_F Z a F) := by
  refine ki_of (by decide) [(0, .ref (a 0)), (1, .int (nI w))] (Nat.le_of_ble_eq_true rfl) rfl ?_
  intro M e1 e2 K Rt
  subst e1 e2
  refine q_aload_n K 0 dX0_goesOf_0 rfl ?_
  refine q_get (.ref (a 3)) K ws_X0 0 rfl rfl 2 (by decide) fl_X0_20 rfl dX0_goesOf_1 ?_
  refine q_iconst 3 K dX0_goesOf_4 rfl ?_
  refine q_aldg (y := a 8) K 3 rfl (vp_in_nI (n := 3) (N := 5) (by omega) (by omega)) rfl dX0_goesOf_5 ?_
  refine q_iload_n K 1 dX0_goesOf_6 rfl ?_
  refine q_iald K 8 rfl (vp_in_nI (n := w) (N := 8) (by omega) (by omega)) dX0_goesOf_7 ?_
  refine q_eqi ((f_md F) w) (by rw [nI_clamp (n := w) (by omega)]) ?_
  refine q_iconst 5 K dX0_goesOf_8 rfl ?_
  refine q_cuti (fun v9 : Int32 => v9 = (if ((f_md F) w) < 5 then 1 else 3)) 17 (st := []) (fun v_1 e_v_1 => ?_) (fun j_v_1 => ?_)
  · refine q_eqi (f_gdg F w) e_v_1 ?_
    refine q_istore_n (lv' := [(2, .int (f_gdg F w)), (0, .ref (a 0)), (1, .int (nI w))]) K dX0_goesOf_17 (by decide) rfl ?_
    refine q_aload_n K 1 dX0_goesOf_18 rfl ?_
    refine q_get (.ref (a 3)) K ws_X0 0 rfl rfl 2 (by decide) fl_X0_20 rfl dX0_goesOf_19 ?_
    refine q_iconst 0 K dX0_goesOf_22 rfl ?_
    refine q_aldg (y := a 5) K 3 rfl (vp_in_nI (n := 0) (N := 5) (by omega) (by omega)) rfl dX0_goesOf_23 ?_
    refine q_iload_n K 2 dX0_goesOf_24 rfl ?_
    refine q_iald K 5 rfl (vp_in_nI (n := w) (N := 8) (by omega) (by omega)) dX0_goesOf_25 ?_
    refine q_eqi ((f_kd F) w) (by rw [nI_clamp (n := w) (by omega)]) ?_
    by_cases c_3 : ((f_kd F) w) = 1
    · refine q_tableIn (off := 38) 64 K dX0_goesOf_26 (by rw [c_3]; decide) (by rw [c_3]; decide) (by rw [c_3]; rfl) (by decide) ?_
      refine q_iconst 2 K dX0_goesOf_64 rfl ?_
      exact Rt _ _ 2 (w_F (k_Z M) a F) dX0_goesOf_65 rfl (⟨by simp only [f_goes, e_v_1, if_pos c_3], rfl⟩)
    by_cases c_4 : ((f_kd F) w) = 2
    · refine q_tableIn (off := 40) 66 K dX0_goesOf_26 (by rw [c_4]; decide) (by rw [c_4]; decide) (by rw [c_4]; rfl) (by decide) ?_
      refine q_iload_n K 0 dX0_goesOf_66 rfl ?_
      exact Rt _ _ (f_gdg F w) (w_F (k_Z M) a F) dX0_goesOf_67 rfl (⟨by simp only [f_goes, e_v_1, if_neg c_3, if_pos c_4], rfl⟩)
    by_cases c_5 : ((f_kd F) w) = 3
    · refine q_tableIn (off := 42) 68 K dX0_goesOf_26 (by rw [c_5]; decide) (by rw [c_5]; decide) (by rw [c_5]; rfl) (by decide) ?_
      refine q_iload_n K 0 dX0_goesOf_68 rfl ?_
      refine q_iconst 1 K dX0_goesOf_69 rfl ?_
      refine q_isub K dX0_goesOf_70 ?_
      exact Rt _ _ ((f_gdg F w) - 1) (w_F (k_Z M) a F) dX0_goesOf_71 rfl (⟨by simp only [f_goes, e_v_1, if_neg c_3, if_neg c_4, if_pos c_5], rfl⟩)
    by_cases c_6 : ((f_kd F) w) = 4
    · refine q_tableIn (off := 42) 68 K dX0_goesOf_26 (by rw [c_6]; decide) (by rw [c_6]; decide) (by rw [c_6]; rfl) (by decide) ?_
      refine q_iload_n K 0 dX0_goesOf_68 rfl ?_
      refine q_iconst 1 K dX0_goesOf_69 rfl ?_
      refine q_isub K dX0_goesOf_70 ?_
      exact Rt _ _ ((f_gdg F w) - 1) (w_F (k_Z M) a F) dX0_goesOf_71 rfl (⟨by simp only [f_goes, e_v_1, if_neg c_3, if_neg c_4, if_neg c_5, if_pos c_6], rfl⟩)
    by_cases c_7 : ((f_kd F) w) = 6
    · refine q_tableIn (off := 38) 64 K dX0_goesOf_26 (by rw [c_7]; decide) (by rw [c_7]; decide) (by rw [c_7]; rfl) (by decide) ?_
      refine q_iconst 2 K dX0_goesOf_64 rfl ?_
      exact Rt _ _ 2 (w_F (k_Z M) a F) dX0_goesOf_65 rfl (⟨by simp only [f_goes, e_v_1, if_neg c_3, if_neg c_4, if_neg c_5, if_neg c_6, if_pos c_7], rfl⟩)
    have j_8 : kJ M 3 72 [(2, .int (f_gdg F w)), (0, .ref (a 0)), (1, .int (nI w))] [] (w_F (k_Z M) a F) := by
      refine q_iconst 1 K dX0_goesOf_72 rfl ?_
      exact Rt _ _ 1 (w_F (k_Z M) a F) dX0_goesOf_73 rfl (⟨by simp only [f_goes, e_v_1, if_neg c_3, if_neg c_4, if_neg c_5, if_neg c_6, if_neg c_7], rfl⟩)
    by_cases c_9 : ((f_kd F) w) = 5
    · exact q_tableIn (off := 46) 72 K dX0_goesOf_26 (by rw [c_9]; decide) (by rw [c_9]; decide) (by rw [c_9]; rfl) (by decide) j_8
    exact q_tableOut 72 K dX0_goesOf_26 (by have := lv_neT (a := 1) c_3 rfl; have := lv_neT (a := 2) c_4 rfl; have := lv_neT (a := 3) c_5 rfl; have := lv_neT (a := 4) c_6 rfl; have := lv_neT (a := 6) c_7 rfl; have := lv_neT (a := 5) c_9 rfl; omega) (by decide) j_8
  · refine q_icmp_lt 16 K dX0_goesOf_9 (by decide) (fun c_2 => ?_) (fun c_2 => ?_)
    · refine q_iconst 1 K dX0_goesOf_16 rfl ?_
      exact j_v_1 _ (if_pos c_2).symm
    · refine q_iconst 3 K dX0_goesOf_12 rfl ?_
      refine q_goto 17 K dX0_goesOf_13 (by decide) ?_
      exact j_v_1 _ (if_neg c_2).symm
theorem kv_X0_goesOf : k_iv yX0_goesOf cX0_goesOf 3 (some .int) 1 := ⟨⟨im_X0_goesOf, se_X0_goesOf⟩, in_X0, co_X0_goesOf, by decide +kernel⟩
set_option maxHeartbeats 4000000 in
set_option maxRecDepth 100000 in
theorem c_X0_passOrTurn (l : Launch) (Z : kz_Z) (a : Nat → Nat) (F : FS) (w : Nat) (hw : w < 8) : KV l Z yX0_passOrTurn cX0_passOrTurn 5 2 39 [.ref (a 0), .int (nI w)] (w_F Z a F) (fun w2 => w2 = w_F Z a (f_step F w)) := by
  refine kv_of (by decide) [(0, .ref (a 0)), (1, .int (nI w))] (Nat.le_of_ble_eq_true rfl) rfl ?_
  intro M e1 e2 K Rt
  subst e1 e2
  refine q_aload_n K 0 dX0_passOrTurn_0 rfl ?_
  refine q_get (.ref (a 3)) K ws_X0 0 rfl rfl 2 (by decide) fl_X0_20 rfl dX0_passOrTurn_1 ?_
  refine q_iconst 2 K dX0_passOrTurn_4 rfl ?_
  refine q_aldg (y := a 7) K 3 rfl (vp_in_nI (n := 2) (N := 5) (by omega) (by omega)) rfl dX0_passOrTurn_5 ?_
  refine q_iload_n K 1 dX0_passOrTurn_6 rfl ?_
  refine q_iald K 7 rfl (vp_in_nI (n := w) (N := 8) (by omega) (by omega)) dX0_passOrTurn_7 ?_
  refine q_eqi ((f_wy F) w) (by rw [nI_clamp (n := w) (by omega)]) ?_
  refine q_cuti (fun v9 : Int32 => v9 = (if ((f_wy F) w) = 0 then 1 else 0)) 16 (st := []) (fun v_1 e_v_1 => ?_) (fun j_v_1 => ?_)
  · refine q_istore_n (lv' := [(2, .int v_1), (0, .ref (a 0)), (1, .int (nI w))]) K dX0_passOrTurn_16 (by decide) rfl ?_
    refine q_iload_n K 0 dX0_passOrTurn_17 rfl ?_
    refine q_cuti (fun v9 : Int32 => v9 = (if ((f_wy F) w) = 0 then (f_fd F) w else ((f_fd F) w) - 1)) 42 (st := []) (fun v_3 e_v_3 => ?_) (fun j_v_3 => ?_)
    · refine q_eqi (f_gate F w) e_v_3 ?_
      refine q_istore_n (lv' := [(3, .int (f_gate F w)), (2, .int v_1), (0, .ref (a 0)), (1, .int (nI w))]) K dX0_passOrTurn_42 (by decide) rfl ?_
      refine q_iload_n K 0 dX0_passOrTurn_43 rfl ?_
      refine q_if_lt 53 K dX0_passOrTurn_44 (by decide) (fun c_5 => ?_) (fun c_5 => ?_)
      · refine q_aload_n K 2 dX0_passOrTurn_53 rfl ?_
        refine q_get (.ref (a 3)) K ws_X0 0 rfl rfl 2 (by decide) fl_X0_20 rfl dX0_passOrTurn_54 ?_
        refine q_iconst 2 K dX0_passOrTurn_57 rfl ?_
        refine q_aldg (y := a 7) K 3 rfl (vp_in_nI (n := 2) (N := 5) (by omega) (by omega)) rfl dX0_passOrTurn_58 ?_
        refine q_iload_n K 3 dX0_passOrTurn_59 rfl ?_
        refine q_iconst 1 K dX0_passOrTurn_60 rfl ?_
        refine q_aload_n K 2 dX0_passOrTurn_61 rfl ?_
        refine q_get (.ref (a 3)) K ws_X0 0 rfl rfl 2 (by decide) fl_X0_20 rfl dX0_passOrTurn_62 ?_
        refine q_iconst 2 K dX0_passOrTurn_65 rfl ?_
        refine q_aldg (y := a 7) K 3 rfl (vp_in_nI (n := 2) (N := 5) (by omega) (by omega)) rfl dX0_passOrTurn_66 ?_
        refine q_iload_n K 3 dX0_passOrTurn_67 rfl ?_
        refine q_iald K 7 rfl (vp_in_nI (n := w) (N := 8) (by omega) (by omega)) dX0_passOrTurn_68 ?_
        refine q_eqi ((f_wy F) w) (by rw [nI_clamp (n := w) (by omega)]) ?_
        refine q_isub K dX0_passOrTurn_69 ?_
        refine q_iast (ws' := w_F (k_Z M) a (f_bs F, f_gs F, f_kd F, f_fd F, upd (f_wy F) w (1 - ((f_wy F) w)), f_md F, f_ps F, f_hd F, f_wk F, f_wd F, f_hr F, f_zz F)) K 7 rfl (vp_in_nI (n := w) (N := 8) (by omega) (by omega)) (by rw [nI_clamp (n := w) (by omega)] <;> rfl) dX0_passOrTurn_70 ?_
        exact Rt _ _ (w_F (k_Z M) a (f_bs F, f_gs F, f_kd F, f_fd F, upd (f_wy F) w (1 - ((f_wy F) w)), f_md F, f_ps F, f_hd F, f_wk F, f_wd F, f_hr F, f_zz F)) dX0_passOrTurn_71 (congrArg (w_F (k_Z M) a) (by simp only [f_step, if_pos c_5]; rfl))
      · refine q_iload_n K 0 dX0_passOrTurn_47 rfl ?_
        refine q_bipush 8 K dX0_passOrTurn_48 rfl ?_
        refine q_icmp_lt 72 K dX0_passOrTurn_50 (by decide) (fun c_6 => ?_) (fun c_6 => ?_)
        · obtain ⟨g, hg, eg⟩ := kn_ix (n := 8) c_5 c_6 rfl
          rw [eg]
          refine q_aload_n K 2 dX0_passOrTurn_72 rfl ?_
          refine q_get (.ref (a 2)) K ws_X0 0 rfl rfl 1 (by decide) fl_X0_15 rfl dX0_passOrTurn_73 ?_
          refine q_iload_n K 0 dX0_passOrTurn_76 rfl ?_
          refine q_iald K 2 rfl (vp_in_nI (n := g) (N := 8) (by omega) (by omega)) dX0_passOrTurn_77 ?_
          refine q_eqi ((f_gs F) g) (by rw [nI_clamp (n := g) (by omega)]) ?_
          refine q_istore (lv' := [(4, .int ((f_gs F) g)), (3, .int (nI g)), (2, .int v_1), (0, .ref (a 0)), (1, .int (nI w))]) K dX0_passOrTurn_78 (by decide) rfl ?_
          refine q_aload_n K 3 dX0_passOrTurn_80 rfl ?_
          refine q_get (.ref (a 2)) K ws_X0 0 rfl rfl 1 (by decide) fl_X0_15 rfl dX0_passOrTurn_81 ?_
          refine q_iload_n K 1 dX0_passOrTurn_84 rfl ?_
          refine q_aload_n K 3 dX0_passOrTurn_85 rfl ?_
          refine q_iload_n K 4 dX0_passOrTurn_86 rfl ?_
          refine q_iload K 0 dX0_passOrTurn_87 rfl ?_
          refine q_wI (q0 := 0) (As := [.int (nI w), .int ((f_gs F) g)]) (rest := [.int (nI g), .ref (a 2)]) K kv_X0_leftBy (c_X0_leftBy (k_l M) (k_Z M) a F w (by omega) ((f_gs F) g)) rfl rfl ml_X0_72 rfl rfl (Nat.le_of_ble_eq_true rfl) ⟨Nat.le_of_ble_eq_true rfl, Nat.le_of_ble_eq_true rfl⟩ dX0_passOrTurn_89 (fun r_8 w2 h_7 => ?_)
          obtain ⟨e_r_8, rfl⟩ := h_7
          refine q_eqi (f_leaves F w ((f_gs F) g)) e_r_8 ?_
          refine q_iast (ws' := w_F (k_Z M) a (f_bs F, upd (f_gs F) g (f_leaves F w ((f_gs F) g)), f_kd F, f_fd F, f_wy F, f_md F, f_ps F, f_hd F, f_wk F, f_wd F, f_hr F, f_zz F)) K 2 rfl (vp_in_nI (n := g) (N := 8) (by omega) (by omega)) (by rw [nI_clamp (n := g) (by omega)] <;> rfl) dX0_passOrTurn_92 ?_
          refine q_aload_n K 3 dX0_passOrTurn_93 rfl ?_
          refine q_get (.ref (a 3)) K ws_X0 0 rfl rfl 2 (by decide) fl_X0_20 rfl dX0_passOrTurn_94 ?_
          refine q_iconst 3 K dX0_passOrTurn_97 rfl ?_
          refine q_aldg (y := a 8) K 3 rfl (vp_in_nI (n := 3) (N := 5) (by omega) (by omega)) rfl dX0_passOrTurn_98 ?_
          refine q_iload_n K 4 dX0_passOrTurn_99 rfl ?_
          refine q_aload_n K 3 dX0_passOrTurn_100 rfl ?_
          refine q_iload_n K 4 dX0_passOrTurn_101 rfl ?_
          refine q_iload K 0 dX0_passOrTurn_102 rfl ?_
          refine q_wI (q0 := 0) (As := [.int (nI w), .int ((f_gs F) g)]) (rest := [.int (nI w), .ref (a 8)]) K kv_X0_feltBy (c_X0_feltBy (k_l M) (k_Z M) a (f_bs F, upd (f_gs F) g (f_leaves F w ((f_gs F) g)), f_kd F, f_fd F, f_wy F, f_md F, f_ps F, f_hd F, f_wk F, f_wd F, f_hr F, f_zz F) w (by omega) ((f_gs F) g)) rfl rfl ml_X0_75 rfl rfl (Nat.le_of_ble_eq_true rfl) ⟨Nat.le_of_ble_eq_true rfl, Nat.le_of_ble_eq_true rfl⟩ dX0_passOrTurn_104 (fun r_10 w2 h_9 => ?_)
          obtain ⟨e_r_10, rfl⟩ := h_9
          refine q_eqi (f_feels F w ((f_gs F) g)) e_r_10 ?_
          refine q_iast (ws' := w_F (k_Z M) a (f_bs F, upd (f_gs F) g (f_leaves F w ((f_gs F) g)), f_kd F, f_fd F, f_wy F, upd (f_md F) w (f_feels F w ((f_gs F) g)), f_ps F, f_hd F, f_wk F, f_wd F, f_hr F, f_zz F)) K 8 rfl (vp_in_nI (n := w) (N := 8) (by omega) (by omega)) (by rw [nI_clamp (n := w) (by omega)] <;> rfl) dX0_passOrTurn_107 ?_
          refine q_aload_n K 3 dX0_passOrTurn_108 rfl ?_
          refine q_get (.ref (a 3)) K ws_X0 0 rfl rfl 2 (by decide) fl_X0_20 rfl dX0_passOrTurn_109 ?_
          refine q_iconst 1 K dX0_passOrTurn_112 rfl ?_
          refine q_aldg (y := a 6) K 3 rfl (vp_in_nI (n := 1) (N := 5) (by omega) (by omega)) rfl dX0_passOrTurn_113 ?_
          refine q_iload_n K 4 dX0_passOrTurn_114 rfl ?_
          refine q_iload_n K 2 dX0_passOrTurn_115 rfl ?_
          refine q_cuti (fun v9 : Int32 => v9 = (if ((f_wy F) w) = 0 then nI (g + 1) else nI g)) 126 (st := [.int (nI w), .ref (a 6)]) (fun v_11 e_v_11 => ?_) (fun j_v_11 => ?_)
          · refine q_eqi (if f_wy F w = 0 then nI (g + 1) else nI g) e_v_11 ?_
            refine q_iast (ws' := w_F (k_Z M) a (f_bs F, upd (f_gs F) g (f_leaves F w ((f_gs F) g)), f_kd F, upd (f_fd F) w (if f_wy F w = 0 then nI (g + 1) else nI g), f_wy F, upd (f_md F) w (f_feels F w ((f_gs F) g)), f_ps F, f_hd F, f_wk F, f_wd F, f_hr F, f_zz F)) K 6 rfl (vp_in_nI (n := w) (N := 8) (by omega) (by omega)) (by rw [nI_clamp (n := w) (by omega)] <;> rfl) dX0_passOrTurn_126 ?_
            refine q_aload_n K 3 dX0_passOrTurn_127 rfl ?_
            refine q_get (.ref (a 3)) K ws_X0 0 rfl rfl 2 (by decide) fl_X0_20 rfl dX0_passOrTurn_128 ?_
            refine q_iconst 4 K dX0_passOrTurn_131 rfl ?_
            refine q_aldg (y := a 9) K 3 rfl (vp_in_nI (n := 4) (N := 5) (by omega) (by omega)) rfl dX0_passOrTurn_132 ?_
            refine q_iload_n K 4 dX0_passOrTurn_133 rfl ?_
            refine q_aload_n K 3 dX0_passOrTurn_134 rfl ?_
            refine q_get (.ref (a 3)) K ws_X0 0 rfl rfl 2 (by decide) fl_X0_20 rfl dX0_passOrTurn_135 ?_
            refine q_iconst 4 K dX0_passOrTurn_138 rfl ?_
            refine q_aldg (y := a 9) K 3 rfl (vp_in_nI (n := 4) (N := 5) (by omega) (by omega)) rfl dX0_passOrTurn_139 ?_
            refine q_iload_n K 4 dX0_passOrTurn_140 rfl ?_
            refine q_iald K 9 rfl (vp_in_nI (n := w) (N := 8) (by omega) (by omega)) dX0_passOrTurn_141 ?_
            refine q_eqi ((f_ps F) w) (by rw [nI_clamp (n := w) (by omega)]) ?_
            refine q_iconst 1 K dX0_passOrTurn_142 rfl ?_
            refine q_iadd K dX0_passOrTurn_143 ?_
            refine q_sipush 9999 K dX0_passOrTurn_144 rfl ?_
            refine q_mmin K ml_X0_45 (Nat.le_of_ble_eq_true rfl) (Nat.le_of_ble_eq_true rfl) dX0_passOrTurn_147 ?_
            refine q_iast (ws' := w_F (k_Z M) a (f_bs F, upd (f_gs F) g (f_leaves F w ((f_gs F) g)), f_kd F, upd (f_fd F) w (if f_wy F w = 0 then nI (g + 1) else nI g), f_wy F, upd (f_md F) w (f_feels F w ((f_gs F) g)), upd (f_ps F) w (f_mn (((f_ps F) w) + 1) 9999), f_hd F, f_wk F, f_wd F, f_hr F, f_zz F)) K 9 rfl (vp_in_nI (n := w) (N := 8) (by omega) (by omega)) (by rw [nI_clamp (n := w) (by omega)] <;> rfl) dX0_passOrTurn_150 ?_
            exact Rt _ _ (w_F (k_Z M) a (f_bs F, upd (f_gs F) g (f_leaves F w ((f_gs F) g)), f_kd F, upd (f_fd F) w (if f_wy F w = 0 then nI (g + 1) else nI g), f_wy F, upd (f_md F) w (f_feels F w ((f_gs F) g)), upd (f_ps F) w (f_mn (((f_ps F) w) + 1) 9999), f_hd F, f_wk F, f_wd F, f_hr F, f_zz F)) dX0_passOrTurn_151 (congrArg (w_F (k_Z M) a) (by simp only [f_step, if_neg c_5, if_pos c_6]; rw [eg, nI_clamp (by omega)]; rfl))
          · refine q_if_eq 125 K dX0_passOrTurn_116 (by decide) (fun c_12 => ?_) (fun c_12 => ?_)
            · have c_12 : ¬ (((f_wy F) w) = 0) := (kn_eq e_v_1).mp c_12
              refine q_iload_n K 1 dX0_passOrTurn_125 rfl ?_
              exact j_v_11 _ (if_neg c_12).symm
            · have c_12 : ((f_wy F) w) = 0 := (kn_ne e_v_1).mp c_12
              refine q_iload_n K 1 dX0_passOrTurn_119 rfl ?_
              refine q_iconst 1 K dX0_passOrTurn_120 rfl ?_
              refine q_iadd K dX0_passOrTurn_121 ?_
              refine q_eqi (nI (g + 1)) (kn_add g 1) ?_
              refine q_goto 126 K dX0_passOrTurn_122 (by decide) ?_
              exact j_v_11 _ (if_pos c_12).symm
        · refine q_aload_n K 2 dX0_passOrTurn_53 rfl ?_
          refine q_get (.ref (a 3)) K ws_X0 0 rfl rfl 2 (by decide) fl_X0_20 rfl dX0_passOrTurn_54 ?_
          refine q_iconst 2 K dX0_passOrTurn_57 rfl ?_
          refine q_aldg (y := a 7) K 3 rfl (vp_in_nI (n := 2) (N := 5) (by omega) (by omega)) rfl dX0_passOrTurn_58 ?_
          refine q_iload_n K 3 dX0_passOrTurn_59 rfl ?_
          refine q_iconst 1 K dX0_passOrTurn_60 rfl ?_
          refine q_aload_n K 2 dX0_passOrTurn_61 rfl ?_
          refine q_get (.ref (a 3)) K ws_X0 0 rfl rfl 2 (by decide) fl_X0_20 rfl dX0_passOrTurn_62 ?_
          refine q_iconst 2 K dX0_passOrTurn_65 rfl ?_
          refine q_aldg (y := a 7) K 3 rfl (vp_in_nI (n := 2) (N := 5) (by omega) (by omega)) rfl dX0_passOrTurn_66 ?_
          refine q_iload_n K 3 dX0_passOrTurn_67 rfl ?_
          refine q_iald K 7 rfl (vp_in_nI (n := w) (N := 8) (by omega) (by omega)) dX0_passOrTurn_68 ?_
          refine q_eqi ((f_wy F) w) (by rw [nI_clamp (n := w) (by omega)]) ?_
          refine q_isub K dX0_passOrTurn_69 ?_
          refine q_iast (ws' := w_F (k_Z M) a (f_bs F, f_gs F, f_kd F, f_fd F, upd (f_wy F) w (1 - ((f_wy F) w)), f_md F, f_ps F, f_hd F, f_wk F, f_wd F, f_hr F, f_zz F)) K 7 rfl (vp_in_nI (n := w) (N := 8) (by omega) (by omega)) (by rw [nI_clamp (n := w) (by omega)] <;> rfl) dX0_passOrTurn_70 ?_
          exact Rt _ _ (w_F (k_Z M) a (f_bs F, f_gs F, f_kd F, f_fd F, upd (f_wy F) w (1 - ((f_wy F) w)), f_md F, f_ps F, f_hd F, f_wk F, f_wd F, f_hr F, f_zz F)) dX0_passOrTurn_71 (congrArg (w_F (k_Z M) a) (by simp only [f_step, if_neg c_5, if_neg c_6]; rfl))
    · refine q_if_eq 32 K dX0_passOrTurn_18 (by decide) (fun c_4 => ?_) (fun c_4 => ?_)
      · have c_4 : ¬ (((f_wy F) w) = 0) := (kn_eq e_v_1).mp c_4
        refine q_aload_n K 1 dX0_passOrTurn_32 rfl ?_
        refine q_get (.ref (a 3)) K ws_X0 0 rfl rfl 2 (by decide) fl_X0_20 rfl dX0_passOrTurn_33 ?_
        refine q_iconst 1 K dX0_passOrTurn_36 rfl ?_
        refine q_aldg (y := a 6) K 3 rfl (vp_in_nI (n := 1) (N := 5) (by omega) (by omega)) rfl dX0_passOrTurn_37 ?_
        refine q_iload_n K 2 dX0_passOrTurn_38 rfl ?_
        refine q_iald K 6 rfl (vp_in_nI (n := w) (N := 8) (by omega) (by omega)) dX0_passOrTurn_39 ?_
        refine q_eqi ((f_fd F) w) (by rw [nI_clamp (n := w) (by omega)]) ?_
        refine q_iconst 1 K dX0_passOrTurn_40 rfl ?_
        refine q_isub K dX0_passOrTurn_41 ?_
        exact j_v_3 _ (if_neg c_4).symm
      · have c_4 : ((f_wy F) w) = 0 := (kn_ne e_v_1).mp c_4
        refine q_aload_n K 1 dX0_passOrTurn_21 rfl ?_
        refine q_get (.ref (a 3)) K ws_X0 0 rfl rfl 2 (by decide) fl_X0_20 rfl dX0_passOrTurn_22 ?_
        refine q_iconst 1 K dX0_passOrTurn_25 rfl ?_
        refine q_aldg (y := a 6) K 3 rfl (vp_in_nI (n := 1) (N := 5) (by omega) (by omega)) rfl dX0_passOrTurn_26 ?_
        refine q_iload_n K 2 dX0_passOrTurn_27 rfl ?_
        refine q_iald K 6 rfl (vp_in_nI (n := w) (N := 8) (by omega) (by omega)) dX0_passOrTurn_28 ?_
        refine q_eqi ((f_fd F) w) (by rw [nI_clamp (n := w) (by omega)]) ?_
        refine q_goto 42 K dX0_passOrTurn_29 (by decide) ?_
        exact j_v_3 _ (if_pos c_4).symm
  · refine q_if_ne 15 K dX0_passOrTurn_8 (by decide) (fun c_2 => ?_) (fun c_2 => ?_)
    · refine q_iconst 0 K dX0_passOrTurn_15 rfl ?_
      exact j_v_1 _ (if_neg c_2).symm
    · refine q_iconst 1 K dX0_passOrTurn_11 rfl ?_
      refine q_goto 16 K dX0_passOrTurn_12 (by decide) ?_
      exact j_v_1 _ (if_pos c_2).symm
theorem kv_X0_passOrTurn : k_iv yX0_passOrTurn cX0_passOrTurn 5 none 1 := ⟨⟨im_X0_passOrTurn, se_X0_passOrTurn⟩, in_X0, co_X0_passOrTurn, by decide +kernel⟩
set_option maxHeartbeats 4000000 in
set_option maxRecDepth 100000 in
theorem c_X0_letGo (l : Launch) (Z : kz_Z) (a : Nat → Nat) (F : FS) (w : Nat) (hw : w < 8) : KV l Z yX0_letGo cX0_letGo 4 3 63 [.ref (a 0), .int (nI w)] (w_F Z a F) (fun w2 => w2 = w_F Z a (f_letGo F w)) := by
  refine kv_of (by decide) [(0, .ref (a 0)), (1, .int (nI w))] (Nat.le_of_ble_eq_true rfl) rfl ?_
  intro M e1 e2 K Rt
  subst e1 e2
  refine q_aload_n K 0 dX0_letGo_0 rfl ?_
  refine q_iload_n K 1 dX0_letGo_1 rfl ?_
  refine q_wI (q0 := 0) (As := [.int (nI w)]) (rest := []) K kv_X0_goesOf (c_X0_goesOf (k_l M) (k_Z M) a F w (by omega)) rfl rfl ml_X0_65 rfl rfl (Nat.le_of_ble_eq_true rfl) ⟨Nat.le_of_ble_eq_true rfl, Nat.le_of_ble_eq_true rfl⟩ dX0_letGo_2 (fun r_2 w2 h_1 => ?_)
  obtain ⟨e_r_2, rfl⟩ := h_1
  refine q_eqi (f_goes F w) e_r_2 ?_
  obtain ⟨k, hk, ek⟩ := f_goes_nat F w
  rw [ek]
  refine q_istore_n (lv' := [(2, .int (nI k)), (0, .ref (a 0)), (1, .int (nI w))]) K dX0_letGo_5 (by decide) rfl ?_
  refine q_iconst 0 K dX0_letGo_6 rfl ?_
  refine q_istore_n (lv' := [(3, .int 0), (2, .int (nI k)), (0, .ref (a 0)), (1, .int (nI w))]) K dX0_letGo_7 (by decide) rfl ?_
  refine q_loop (α := Nat) (fun n9 i => i + n9 = k) 8 (fun i => [(3, .int (nI i)), (2, .int (nI k)), (0, .ref (a 0)), (1, .int (nI w))]) (fun i => w_F (k_Z M) a (f_its F w i)) (fun n_3 i hI_4 ih_5 => ?_) k 0 (by omega)
  refine q_iload_n K 0 dX0_letGo_8 rfl ?_
  refine q_iload_n K 1 dX0_letGo_9 rfl ?_
  refine q_icmp_ge 24 K dX0_letGo_10 (by decide) (fun c_6 => ?_) (fun c_6 => ?_)
  · have c_6n : k ≤ i := (nI_leI (a := k) (b := i) (by omega) (by omega)).mp c_6
    exact Rt _ _ (w_F (k_Z M) a (f_its F w i)) dX0_letGo_24 (by rw [f_letGo, ek, nI_clamp (by omega), show i = k by omega])
  · have c_6n : ¬ (k ≤ i) := fun h9 => c_6 ((nI_leI (a := k) (b := i) (by omega) (by omega)).mpr h9)
    refine q_aload_n K 2 dX0_letGo_13 rfl ?_
    refine q_iload_n K 3 dX0_letGo_14 rfl ?_
    refine q_wV (q0 := 0) (As := [.int (nI w)]) (rest := []) K kv_X0_passOrTurn (c_X0_passOrTurn (k_l M) (k_Z M) a (f_its F w i) w (by omega)) rfl rfl ml_X0_69 rfl rfl (Nat.le_of_ble_eq_true rfl) ⟨Nat.le_of_ble_eq_true rfl, Nat.le_of_ble_eq_true rfl⟩ dX0_letGo_15 (fun w2 h_7 => ?_)
    obtain rfl := h_7
    refine q_iinc (nI (i + 1)) (lv' := [(3, .int (nI (i + 1))), (2, .int (nI k)), (0, .ref (a 0)), (1, .int (nI w))]) K 0 dX0_letGo_18 rfl (kn_inc i) (by decide) rfl ?_
    refine q_goto 8 K dX0_letGo_21 (by decide) ?_
    exact ih_5 (n_3 - 1) (i + 1) (by omega) (by omega)
theorem kv_X0_letGo : k_iv yX0_letGo cX0_letGo 4 none 1 := ⟨⟨im_X0_letGo, se_X0_letGo⟩, in_X0, co_X0_letGo, by decide +kernel⟩
set_option maxHeartbeats 4000000 in
set_option maxRecDepth 100000 in
theorem c_X0_through (l : Launch) (Z : kz_Z) (s m : Int32) : KP l Z yX0_through cX0_through 2 .int 0 0 [.int s, .int m] (fun r => r = f_thr s m) := by
  refine ki_of (by decide) [(0, .int s), (1, .int m)] (Nat.le_of_ble_eq_true rfl) rfl ?_
  intro M e1 e2 K Rt
  subst e1 e2
  refine q_iload_n K 0 dX0_through_0 rfl ?_
  refine q_if_ne 6 K dX0_through_1 (by decide) (fun c_1 => ?_) (fun c_1 => ?_)
  · refine q_iload_n K 0 dX0_through_6 rfl ?_
    refine q_iconst 1 K dX0_through_7 rfl ?_
    refine q_cuti (fun v9 : Int32 => v9 = (if s = 1 then m / 16 else m / 4)) 21 (st := []) (fun v_2 e_v_2 => ?_) (fun j_v_2 => ?_)
    · exact Rt _ _ v_2 ([]) dX0_through_21 rfl (⟨by simp only [f_thr, e_v_2, if_neg c_1], rfl⟩)
    · refine q_icmp_ne 18 K dX0_through_8 (by decide) (fun c_3 => ?_) (fun c_3 => ?_)
      · refine q_iload_n K 1 dX0_through_18 rfl ?_
        refine q_iconst 4 K dX0_through_19 rfl ?_
        refine q_idiv K dX0_through_20 (by decide) ?_
        exact j_v_2 _ (if_neg c_3).symm
      · refine q_iload_n K 1 dX0_through_11 rfl ?_
        refine q_bipush 16 K dX0_through_12 rfl ?_
        refine q_idiv K dX0_through_14 (by decide) ?_
        refine q_goto 21 K dX0_through_15 (by decide) ?_
        exact j_v_2 _ (if_pos c_3).symm
  · refine q_iconst 0 K dX0_through_4 rfl ?_
    exact Rt _ _ 0 ([]) dX0_through_5 rfl (⟨by simp only [f_thr, if_pos c_1], rfl⟩)
theorem ks_X0_through : k_is yX0_through cX0_through 2 (some .int) 2 := ⟨sm_X0_through, in_X0, co_X0_through, by decide +kernel⟩
