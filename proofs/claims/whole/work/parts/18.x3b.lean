set_option maxHeartbeats 4000000 in
set_option maxRecDepth 100000 in
theorem c_X0_becomeR (l : Launch) (Z : kz_Z) (a b : Nat → Nat) (F G : FS) : KV l Z yX0_become cX0_become 3 1 40 [.ref (a 0), .ref (b 0)] (w_F Z b G ++ (w_F Z a F)) (fun w2 => w2 = w_F Z b G ++ w_F Z a G) := by
  refine kv_of (by decide) [(0, .ref (a 0)), (1, .ref (b 0))] (Nat.le_of_ble_eq_true rfl) rfl ?_
  intro M e1 e2 K Rt
  subst e1 e2
  refine q_aload_n K 1 dX0_become_0 rfl ?_
  refine q_get (.ref (b 1)) K ws_X0 0 rfl rfl 0 (by decide) fl_X0_9 rfl dX0_become_1 ?_
  refine q_iconst 0 K dX0_become_4 rfl ?_
  refine q_aload_n K 0 dX0_become_5 rfl ?_
  refine q_get (.ref (a 1)) K ws_X0 10 rfl rfl 0 (by decide) fl_X0_9 rfl dX0_become_6 ?_
  refine q_iconst 0 K dX0_become_9 rfl ?_
  refine q_bipush 9 K dX0_become_10 rfl ?_
  refine q_copy (ws' := w_F (k_Z M) b G ++ (w_F (k_Z M) a (va_cpy (f_bs G) (f_bs F) 0 0 9, f_gs F, f_kd F, f_fd F, f_wy F, f_md F, f_ps F, f_hd F, f_wk F, f_wd F, f_hr F, f_zz F))) K ml_X0_39 1 11 rfl rfl (by decide) (by decide) (by decide) (by decide) (by decide) (Nat.le_of_ble_eq_true rfl) (Nat.le_of_ble_eq_true rfl) rfl dX0_become_12 ?_
  refine q_ext (ws' := w_F (k_Z M) b G ++ (w_F (k_Z M) a (f_bs G, f_gs F, f_kd F, f_fd F, f_wy F, f_md F, f_ps F, f_hd F, f_wk F, f_wd F, f_hr F, f_zz F))) 11 (f_bs G) rfl (fun k hk => kn_cpy hk) rfl ?_
  refine q_aload_n K 1 dX0_become_15 rfl ?_
  refine q_get (.ref (b 2)) K ws_X0 0 rfl rfl 1 (by decide) fl_X0_15 rfl dX0_become_16 ?_
  refine q_iconst 0 K dX0_become_19 rfl ?_
  refine q_aload_n K 0 dX0_become_20 rfl ?_
  refine q_get (.ref (a 2)) K ws_X0 10 rfl rfl 1 (by decide) fl_X0_15 rfl dX0_become_21 ?_
  refine q_iconst 0 K dX0_become_24 rfl ?_
  refine q_bipush 8 K dX0_become_25 rfl ?_
  refine q_copy (ws' := w_F (k_Z M) b G ++ (w_F (k_Z M) a (f_bs G, va_cpy (f_gs G) (f_gs F) 0 0 8, f_kd F, f_fd F, f_wy F, f_md F, f_ps F, f_hd F, f_wk F, f_wd F, f_hr F, f_zz F))) K ml_X0_39 2 12 rfl rfl (by decide) (by decide) (by decide) (by decide) (by decide) (Nat.le_of_ble_eq_true rfl) (Nat.le_of_ble_eq_true rfl) rfl dX0_become_27 ?_
  refine q_ext (ws' := w_F (k_Z M) b G ++ (w_F (k_Z M) a (f_bs G, f_gs G, f_kd F, f_fd F, f_wy F, f_md F, f_ps F, f_hd F, f_wk F, f_wd F, f_hr F, f_zz F))) 12 (f_gs G) rfl (fun k hk => kn_cpy hk) rfl ?_
  refine q_iconst 0 K dX0_become_30 rfl ?_
  refine q_istore_n (lv' := [(2, .int 0), (0, .ref (a 0)), (1, .ref (b 0))]) K dX0_become_31 (by decide) rfl ?_
  refine q_iload_n K 0 dX0_become_32 rfl ?_
  refine q_iconst 5 K dX0_become_33 rfl ?_
  refine q_icmp_ge 62 K dX0_become_34 (by decide) (fun c_0 => absurd c_0 (by decide)) (fun c_0 => ?_)
  refine q_aload_n K 2 dX0_become_37 rfl ?_
  refine q_get (.ref (b 3)) K ws_X0 0 rfl rfl 2 (by decide) fl_X0_20 rfl dX0_become_38 ?_
  refine q_iload_n K 0 dX0_become_41 rfl ?_
  refine q_aldg (y := b 5) K 3 rfl (vp_in_nI (n := 0) (N := 5) (by omega) (by omega)) rfl dX0_become_42 ?_
  refine q_iconst 0 K dX0_become_43 rfl ?_
  refine q_aload_n K 1 dX0_become_44 rfl ?_
  refine q_get (.ref (a 3)) K ws_X0 10 rfl rfl 2 (by decide) fl_X0_20 rfl dX0_become_45 ?_
  refine q_iload_n K 0 dX0_become_48 rfl ?_
  refine q_aldg (y := a 5) K 13 rfl (vp_in_nI (n := 0) (N := 5) (by omega) (by omega)) rfl dX0_become_49 ?_
  refine q_iconst 0 K dX0_become_50 rfl ?_
  refine q_bipush 8 K dX0_become_51 rfl ?_
  refine q_copy (ws' := w_F (k_Z M) b G ++ (w_F (k_Z M) a (f_bs G, f_gs G, va_cpy (f_kd G) (f_kd F) 0 0 8, f_fd F, f_wy F, f_md F, f_ps F, f_hd F, f_wk F, f_wd F, f_hr F, f_zz F))) K ml_X0_39 5 15 rfl rfl (by decide) (by decide) (by decide) (by decide) (by decide) (Nat.le_of_ble_eq_true rfl) (Nat.le_of_ble_eq_true rfl) rfl dX0_become_53 ?_
  refine q_ext (ws' := w_F (k_Z M) b G ++ (w_F (k_Z M) a (f_bs G, f_gs G, f_kd G, f_fd F, f_wy F, f_md F, f_ps F, f_hd F, f_wk F, f_wd F, f_hr F, f_zz F))) 15 (f_kd G) rfl (fun k hk => kn_cpy hk) rfl ?_
  refine q_iinc 1 (lv' := [(2, .int 1), (0, .ref (a 0)), (1, .ref (b 0))]) K 0 dX0_become_56 rfl rfl (by decide) rfl ?_
  refine q_goto 32 K dX0_become_59 (by decide) ?_
  refine q_iload_n K 0 dX0_become_32 rfl ?_
  refine q_iconst 5 K dX0_become_33 rfl ?_
  refine q_icmp_ge 62 K dX0_become_34 (by decide) (fun c_0 => absurd c_0 (by decide)) (fun c_0 => ?_)
  refine q_aload_n K 2 dX0_become_37 rfl ?_
  refine q_get (.ref (b 3)) K ws_X0 0 rfl rfl 2 (by decide) fl_X0_20 rfl dX0_become_38 ?_
  refine q_iload_n K 0 dX0_become_41 rfl ?_
  refine q_aldg (y := b 6) K 3 rfl (vp_in_nI (n := 1) (N := 5) (by omega) (by omega)) rfl dX0_become_42 ?_
  refine q_iconst 0 K dX0_become_43 rfl ?_
  refine q_aload_n K 1 dX0_become_44 rfl ?_
  refine q_get (.ref (a 3)) K ws_X0 10 rfl rfl 2 (by decide) fl_X0_20 rfl dX0_become_45 ?_
  refine q_iload_n K 0 dX0_become_48 rfl ?_
  refine q_aldg (y := a 6) K 13 rfl (vp_in_nI (n := 1) (N := 5) (by omega) (by omega)) rfl dX0_become_49 ?_
  refine q_iconst 0 K dX0_become_50 rfl ?_
  refine q_bipush 8 K dX0_become_51 rfl ?_
  refine q_copy (ws' := w_F (k_Z M) b G ++ (w_F (k_Z M) a (f_bs G, f_gs G, f_kd G, va_cpy (f_fd G) (f_fd F) 0 0 8, f_wy F, f_md F, f_ps F, f_hd F, f_wk F, f_wd F, f_hr F, f_zz F))) K ml_X0_39 6 16 rfl rfl (by decide) (by decide) (by decide) (by decide) (by decide) (Nat.le_of_ble_eq_true rfl) (Nat.le_of_ble_eq_true rfl) rfl dX0_become_53 ?_
  refine q_ext (ws' := w_F (k_Z M) b G ++ (w_F (k_Z M) a (f_bs G, f_gs G, f_kd G, f_fd G, f_wy F, f_md F, f_ps F, f_hd F, f_wk F, f_wd F, f_hr F, f_zz F))) 16 (f_fd G) rfl (fun k hk => kn_cpy hk) rfl ?_
  refine q_iinc 2 (lv' := [(2, .int 2), (0, .ref (a 0)), (1, .ref (b 0))]) K 0 dX0_become_56 rfl rfl (by decide) rfl ?_
  refine q_goto 32 K dX0_become_59 (by decide) ?_
  refine q_iload_n K 0 dX0_become_32 rfl ?_
  refine q_iconst 5 K dX0_become_33 rfl ?_
  refine q_icmp_ge 62 K dX0_become_34 (by decide) (fun c_0 => absurd c_0 (by decide)) (fun c_0 => ?_)
  refine q_aload_n K 2 dX0_become_37 rfl ?_
  refine q_get (.ref (b 3)) K ws_X0 0 rfl rfl 2 (by decide) fl_X0_20 rfl dX0_become_38 ?_
  refine q_iload_n K 0 dX0_become_41 rfl ?_
  refine q_aldg (y := b 7) K 3 rfl (vp_in_nI (n := 2) (N := 5) (by omega) (by omega)) rfl dX0_become_42 ?_
  refine q_iconst 0 K dX0_become_43 rfl ?_
  refine q_aload_n K 1 dX0_become_44 rfl ?_
  refine q_get (.ref (a 3)) K ws_X0 10 rfl rfl 2 (by decide) fl_X0_20 rfl dX0_become_45 ?_
  refine q_iload_n K 0 dX0_become_48 rfl ?_
  refine q_aldg (y := a 7) K 13 rfl (vp_in_nI (n := 2) (N := 5) (by omega) (by omega)) rfl dX0_become_49 ?_
  refine q_iconst 0 K dX0_become_50 rfl ?_
  refine q_bipush 8 K dX0_become_51 rfl ?_
  refine q_copy (ws' := w_F (k_Z M) b G ++ (w_F (k_Z M) a (f_bs G, f_gs G, f_kd G, f_fd G, va_cpy (f_wy G) (f_wy F) 0 0 8, f_md F, f_ps F, f_hd F, f_wk F, f_wd F, f_hr F, f_zz F))) K ml_X0_39 7 17 rfl rfl (by decide) (by decide) (by decide) (by decide) (by decide) (Nat.le_of_ble_eq_true rfl) (Nat.le_of_ble_eq_true rfl) rfl dX0_become_53 ?_
  refine q_ext (ws' := w_F (k_Z M) b G ++ (w_F (k_Z M) a (f_bs G, f_gs G, f_kd G, f_fd G, f_wy G, f_md F, f_ps F, f_hd F, f_wk F, f_wd F, f_hr F, f_zz F))) 17 (f_wy G) rfl (fun k hk => kn_cpy hk) rfl ?_
  refine q_iinc 3 (lv' := [(2, .int 3), (0, .ref (a 0)), (1, .ref (b 0))]) K 0 dX0_become_56 rfl rfl (by decide) rfl ?_
  refine q_goto 32 K dX0_become_59 (by decide) ?_
  refine q_iload_n K 0 dX0_become_32 rfl ?_
  refine q_iconst 5 K dX0_become_33 rfl ?_
  refine q_icmp_ge 62 K dX0_become_34 (by decide) (fun c_0 => absurd c_0 (by decide)) (fun c_0 => ?_)
  refine q_aload_n K 2 dX0_become_37 rfl ?_
  refine q_get (.ref (b 3)) K ws_X0 0 rfl rfl 2 (by decide) fl_X0_20 rfl dX0_become_38 ?_
  refine q_iload_n K 0 dX0_become_41 rfl ?_
  refine q_aldg (y := b 8) K 3 rfl (vp_in_nI (n := 3) (N := 5) (by omega) (by omega)) rfl dX0_become_42 ?_
  refine q_iconst 0 K dX0_become_43 rfl ?_
  refine q_aload_n K 1 dX0_become_44 rfl ?_
  refine q_get (.ref (a 3)) K ws_X0 10 rfl rfl 2 (by decide) fl_X0_20 rfl dX0_become_45 ?_
  refine q_iload_n K 0 dX0_become_48 rfl ?_
  refine q_aldg (y := a 8) K 13 rfl (vp_in_nI (n := 3) (N := 5) (by omega) (by omega)) rfl dX0_become_49 ?_
  refine q_iconst 0 K dX0_become_50 rfl ?_
  refine q_bipush 8 K dX0_become_51 rfl ?_
  refine q_copy (ws' := w_F (k_Z M) b G ++ (w_F (k_Z M) a (f_bs G, f_gs G, f_kd G, f_fd G, f_wy G, va_cpy (f_md G) (f_md F) 0 0 8, f_ps F, f_hd F, f_wk F, f_wd F, f_hr F, f_zz F))) K ml_X0_39 8 18 rfl rfl (by decide) (by decide) (by decide) (by decide) (by decide) (Nat.le_of_ble_eq_true rfl) (Nat.le_of_ble_eq_true rfl) rfl dX0_become_53 ?_
  refine q_ext (ws' := w_F (k_Z M) b G ++ (w_F (k_Z M) a (f_bs G, f_gs G, f_kd G, f_fd G, f_wy G, f_md G, f_ps F, f_hd F, f_wk F, f_wd F, f_hr F, f_zz F))) 18 (f_md G) rfl (fun k hk => kn_cpy hk) rfl ?_
  refine q_iinc 4 (lv' := [(2, .int 4), (0, .ref (a 0)), (1, .ref (b 0))]) K 0 dX0_become_56 rfl rfl (by decide) rfl ?_
  refine q_goto 32 K dX0_become_59 (by decide) ?_
  refine q_iload_n K 0 dX0_become_32 rfl ?_
  refine q_iconst 5 K dX0_become_33 rfl ?_
  refine q_icmp_ge 62 K dX0_become_34 (by decide) (fun c_0 => absurd c_0 (by decide)) (fun c_0 => ?_)
  refine q_aload_n K 2 dX0_become_37 rfl ?_
  refine q_get (.ref (b 3)) K ws_X0 0 rfl rfl 2 (by decide) fl_X0_20 rfl dX0_become_38 ?_
  refine q_iload_n K 0 dX0_become_41 rfl ?_
  refine q_aldg (y := b 9) K 3 rfl (vp_in_nI (n := 4) (N := 5) (by omega) (by omega)) rfl dX0_become_42 ?_
  refine q_iconst 0 K dX0_become_43 rfl ?_
  refine q_aload_n K 1 dX0_become_44 rfl ?_
  refine q_get (.ref (a 3)) K ws_X0 10 rfl rfl 2 (by decide) fl_X0_20 rfl dX0_become_45 ?_
  refine q_iload_n K 0 dX0_become_48 rfl ?_
  refine q_aldg (y := a 9) K 13 rfl (vp_in_nI (n := 4) (N := 5) (by omega) (by omega)) rfl dX0_become_49 ?_
  refine q_iconst 0 K dX0_become_50 rfl ?_
  refine q_bipush 8 K dX0_become_51 rfl ?_
  refine q_copy (ws' := w_F (k_Z M) b G ++ (w_F (k_Z M) a (f_bs G, f_gs G, f_kd G, f_fd G, f_wy G, f_md G, va_cpy (f_ps G) (f_ps F) 0 0 8, f_hd F, f_wk F, f_wd F, f_hr F, f_zz F))) K ml_X0_39 9 19 rfl rfl (by decide) (by decide) (by decide) (by decide) (by decide) (Nat.le_of_ble_eq_true rfl) (Nat.le_of_ble_eq_true rfl) rfl dX0_become_53 ?_
  refine q_ext (ws' := w_F (k_Z M) b G ++ (w_F (k_Z M) a (f_bs G, f_gs G, f_kd G, f_fd G, f_wy G, f_md G, f_ps G, f_hd F, f_wk F, f_wd F, f_hr F, f_zz F))) 19 (f_ps G) rfl (fun k hk => kn_cpy hk) rfl ?_
  refine q_iinc 5 (lv' := [(2, .int 5), (0, .ref (a 0)), (1, .ref (b 0))]) K 0 dX0_become_56 rfl rfl (by decide) rfl ?_
  refine q_goto 32 K dX0_become_59 (by decide) ?_
  refine q_iload_n K 0 dX0_become_32 rfl ?_
  refine q_iconst 5 K dX0_become_33 rfl ?_
  refine q_icmp_ge 62 K dX0_become_34 (by decide) (fun c_0 => ?_) (fun c_0 => absurd c_0 (by decide))
  refine q_aload_n K 2 dX0_become_62 rfl ?_
  refine q_get (.ref (b 4)) K ws_X0 0 rfl rfl 3 (by decide) fl_X0_23 rfl dX0_become_63 ?_
  refine q_iconst 0 K dX0_become_66 rfl ?_
  refine q_aload_n K 1 dX0_become_67 rfl ?_
  refine q_get (.ref (a 4)) K ws_X0 10 rfl rfl 3 (by decide) fl_X0_23 rfl dX0_become_68 ?_
  refine q_iconst 0 K dX0_become_71 rfl ?_
  refine q_bipush 10 K dX0_become_72 rfl ?_
  refine q_copy (ws' := w_F (k_Z M) b G ++ (w_F (k_Z M) a (f_bs G, f_gs G, f_kd G, f_fd G, f_wy G, f_md G, f_ps G, va_cpy (f_hd G) (f_hd F) 0 0 10, f_wk F, f_wd F, f_hr F, f_zz F))) K ml_X0_39 4 14 rfl rfl (by decide) (by decide) (by decide) (by decide) (by decide) (Nat.le_of_ble_eq_true rfl) (Nat.le_of_ble_eq_true rfl) rfl dX0_become_74 ?_
  refine q_ext (ws' := w_F (k_Z M) b G ++ (w_F (k_Z M) a (f_bs G, f_gs G, f_kd G, f_fd G, f_wy G, f_md G, f_ps G, f_hd G, f_wk F, f_wd F, f_hr F, f_zz F))) 14 (f_hd G) rfl (fun k hk => kn_cpy hk) rfl ?_
  refine q_aload_n K 1 dX0_become_77 rfl ?_
  refine q_aload_n K 2 dX0_become_78 rfl ?_
  refine q_get (.int (f_wk G)) K ws_X0 0 rfl rfl 4 (by decide) fl_X0_26 rfl dX0_become_79 ?_
  refine q_put (ty := .int) (ws' := w_F (k_Z M) b G ++ (w_F (k_Z M) a (f_bs G, f_gs G, f_kd G, f_fd G, f_wy G, f_md G, f_ps G, f_hd G, f_wk G, f_wd F, f_hr F, f_zz F))) K ws_X0 tyX0 tyX0_ok nmX0 10 rfl rfl 4 (by decide) fl_X0_26 rfl (by decide +kernel) rfl rfl (Nat.le_of_ble_eq_true rfl) rfl dX0_become_82 ?_
  refine q_aload_n K 1 dX0_become_85 rfl ?_
  refine q_aload_n K 2 dX0_become_86 rfl ?_
  refine q_get (.int (f_wd G)) K ws_X0 0 rfl rfl 5 (by decide) fl_X0_30 rfl dX0_become_87 ?_
  refine q_put (ty := .int) (ws' := w_F (k_Z M) b G ++ (w_F (k_Z M) a (f_bs G, f_gs G, f_kd G, f_fd G, f_wy G, f_md G, f_ps G, f_hd G, f_wk G, f_wd G, f_hr F, f_zz F))) K ws_X0 tyX0 tyX0_ok nmX0 10 rfl rfl 5 (by decide) fl_X0_30 rfl (by decide +kernel) rfl rfl (Nat.le_of_ble_eq_true rfl) rfl dX0_become_90 ?_
  refine q_aload_n K 1 dX0_become_93 rfl ?_
  refine q_aload_n K 2 dX0_become_94 rfl ?_
  refine q_get (.int (f_hr G)) K ws_X0 0 rfl rfl 6 (by decide) fl_X0_33 rfl dX0_become_95 ?_
  refine q_put (ty := .int) (ws' := w_F (k_Z M) b G ++ (w_F (k_Z M) a (f_bs G, f_gs G, f_kd G, f_fd G, f_wy G, f_md G, f_ps G, f_hd G, f_wk G, f_wd G, f_hr G, f_zz F))) K ws_X0 tyX0 tyX0_ok nmX0 10 rfl rfl 6 (by decide) fl_X0_33 rfl (by decide +kernel) rfl rfl (Nat.le_of_ble_eq_true rfl) rfl dX0_become_98 ?_
  refine q_aload_n K 1 dX0_become_101 rfl ?_
  refine q_aload_n K 2 dX0_become_102 rfl ?_
  refine q_get (.int (f_zz G)) K ws_X0 0 rfl rfl 7 (by decide) fl_X0_36 rfl dX0_become_103 ?_
  refine q_put (ty := .int) (ws' := w_F (k_Z M) b G ++ (w_F (k_Z M) a (f_bs G, f_gs G, f_kd G, f_fd G, f_wy G, f_md G, f_ps G, f_hd G, f_wk G, f_wd G, f_hr G, f_zz G))) K ws_X0 tyX0 tyX0_ok nmX0 10 rfl rfl 7 (by decide) fl_X0_36 rfl (by decide +kernel) rfl rfl (Nat.le_of_ble_eq_true rfl) rfl dX0_become_106 ?_
  exact Rt _ _ (w_F (k_Z M) b G ++ (w_F (k_Z M) a (f_bs G, f_gs G, f_kd G, f_fd G, f_wy G, f_md G, f_ps G, f_hd G, f_wk G, f_wd G, f_hr G, f_zz G))) dX0_become_109 (rfl)
set_option maxHeartbeats 4000000 in
set_option maxRecDepth 100000 in
theorem c_X3_finding (l : Launch) (Z : kz_Z) (A : Nat → Nat → Nat) (X : AS) (T : FS) (J : TJ) (k : Nat) (hk : k < 7) : KI l Z yX3_finding cX3_finding 2 .int 0 0 [.ref ((A 0) 0), .int (nI k)] (w_G Z A (a_kp X) (a_fd X) ++ (w_F Z (A 1) (a_F X) ++ (w_F Z (A 2) T ++ (w_F Z (A 3) (a_K X) ++ (w_T Z (A 4) (t_of (a_tp X) J) ++ (w_SS Z A (a_S X))))))) (fun r w2 => r = r_fin k ∧ w2 = w_C Z A (a_setfd X (fd_up (a_fd X) k)) T J) := by
  refine ki_of (by decide) [(0, .ref ((A 0) 0)), (1, .int (nI k))] (Nat.le_of_ble_eq_true rfl) rfl ?_
  intro M e1 e2 K Rt
  subst e1 e2
  refine q_aload_n K 0 dX3_finding_0 rfl ?_
  refine q_get (.ref ((A 0) 2)) K ws_X3 0 rfl rfl 6 (by decide) fl_X3_40 rfl dX3_finding_1 ?_
  refine q_iload_n K 1 dX3_finding_4 rfl ?_
  refine q_dup2 K dX3_finding_5 rfl rfl ?_
  refine q_iald K 2 rfl (vp_in_nI (n := k) (N := 7) (by omega) (by omega)) dX3_finding_6 ?_
  refine q_eqi ((a_fd X) k) (by rw [nI_clamp (n := k) (by omega)]) ?_
  refine q_iconst 1 K dX3_finding_7 rfl ?_
  refine q_iadd K dX3_finding_8 ?_
  refine q_iast (ws' := w_G (k_Z M) A (a_kp X) (upd (a_fd X) k (((a_fd X) k) + 1)) ++ (w_F (k_Z M) (A 1) (a_F X) ++ (w_F (k_Z M) (A 2) T ++ (w_F (k_Z M) (A 3) (a_K X) ++ (w_T (k_Z M) (A 4) (t_of (a_tp X) J) ++ (w_SS (k_Z M) A (a_S X))))))) K 2 rfl (vp_in_nI (n := k) (N := 7) (by omega) (by omega)) (by rw [nI_clamp (n := k) (by omega)] <;> rfl) dX3_finding_9 ?_
  refine q_ldc K dX3_finding_10 ct_X3_236 ?_
  refine q_iload_n K 1 dX3_finding_12 rfl ?_
  refine q_isub K dX3_finding_13 ?_
  exact Rt _ _ ((-1000001) - (nI k)) (w_G (k_Z M) A (a_kp X) (upd (a_fd X) k (((a_fd X) k) + 1)) ++ (w_F (k_Z M) (A 1) (a_F X) ++ (w_F (k_Z M) (A 2) T ++ (w_F (k_Z M) (A 3) (a_K X) ++ (w_T (k_Z M) (A 4) (t_of (a_tp X) J) ++ (w_SS (k_Z M) A (a_S X))))))) dX3_finding_14 rfl (⟨rfl, rfl⟩)
theorem kv_X3_finding : k_iv yX3_finding cX3_finding 2 (some .int) 1 := ⟨⟨im_X3_finding, se_X3_finding⟩, in_X3, co_X3_finding, by decide +kernel⟩
set_option maxHeartbeats 4000000 in
set_option maxRecDepth 100000 in
theorem c_X3_isWalker (l : Launch) (Z : kz_Z) (A : Nat → Nat → Nat) (X : AS) (T : FS) (J : TJ) (w : Int32) : KI l Z yX3_isWalker cX3_isWalker 2 .boolean 1 22 [.ref ((A 0) 0), .int w] (w_G Z A (a_kp X) (a_fd X) ++ (w_F Z (A 1) (a_F X) ++ (w_F Z (A 2) T ++ (w_F Z (A 3) (a_K X) ++ (w_T Z (A 4) (t_of (a_tp X) J) ++ (w_SS Z A (a_S X))))))) (fun r w2 => (r = if isW X w then 1 else 0) ∧ w2 = w_C Z A X T J) := by
  refine ki_of (by decide) [(0, .ref ((A 0) 0)), (1, .int w)] (Nat.le_of_ble_eq_true rfl) rfl ?_
  intro M e1 e2 K Rt
  subst e1 e2
  refine q_iload_n K 1 dX3_isWalker_0 rfl ?_
  refine q_iconst 0 K dX3_isWalker_1 rfl ?_
  refine q_aload_n K 0 dX3_isWalker_2 rfl ?_
  refine q_get (.ref ((A 1) 0)) K ws_X3 0 rfl rfl 0 (by decide) fl_X3_12 rfl dX3_isWalker_3 ?_
  refine q_get (.int (f_wk (a_F X))) K ws_X0 3 rfl rfl 4 (by decide) fl_X3_78 rfl dX3_isWalker_6 ?_
  refine q_iconst 1 K dX3_isWalker_9 rfl ?_
  refine q_isub K dX3_isWalker_10 ?_
  refine q_cp (rest := []) K ks_X3_isIn (c_X3_isIn (k_l M) (k_Z M) w 0 ((f_wk (a_F X)) - 1)) ml_X3_48 rfl rfl (Nat.le_of_ble_eq_true rfl) ⟨Nat.le_of_ble_eq_true rfl, Nat.le_of_ble_eq_true rfl⟩ dX3_isWalker_11 (fun r_1 e_r_1 => ?_)
  exact Rt _ _ r_1 (w_G (k_Z M) A (a_kp X) (a_fd X) ++ (w_F (k_Z M) (A 1) (a_F X) ++ (w_F (k_Z M) (A 2) T ++ (w_F (k_Z M) (A 3) (a_K X) ++ (w_T (k_Z M) (A 4) (t_of (a_tp X) J) ++ (w_SS (k_Z M) A (a_S X))))))) dX3_isWalker_14 (kn_narZ e_r_1) (⟨e_r_1, rfl⟩)
theorem kv_X3_isWalker : k_iv yX3_isWalker cX3_isWalker 2 (some .boolean) 1 := ⟨⟨im_X3_isWalker, se_X3_isWalker⟩, in_X3, co_X3_isWalker, by decide +kernel⟩
set_option maxHeartbeats 4000000 in
set_option maxRecDepth 100000 in
theorem c_X3_beasts (l : Launch) (Z : kz_Z) (A : Nat → Nat → Nat) (X : AS) (T : FS) (J : TJ) (m : Nat) (hm : m ≤ 8) (hm2 : f_wk (a_F X) = nI m) (field v : Int32) : KI l Z yX3_beasts cX3_beasts 4 .int 2 42 [.ref ((A 0) 0), .int field, .int v] (w_G Z A (a_kp X) (a_fd X) ++ (w_F Z (A 1) (a_F X) ++ (w_F Z (A 2) T ++ (w_F Z (A 3) (a_K X) ++ (w_T Z (A 4) (t_of (a_tp X) J) ++ (w_SS Z A (a_S X))))))) (fun r w2 => ∃ T2 J2, r = (o_beasts X field v).1 ∧ w2 = w_C Z A (o_beasts X field v).2 T2 J2) := by
  refine ki_of (by decide) [(0, .ref ((A 0) 0)), (1, .int field), (2, .int v)] (Nat.le_of_ble_eq_true rfl) rfl ?_
  intro M e1 e2 K Rt
  subst e1 e2
  refine q_iload_n K 1 dX3_beasts_0 rfl ?_
  refine q_cp (rest := []) K ks_X3_isField (c_X3_isField (k_l M) (k_Z M) field) ml_X3_44 rfl rfl (Nat.le_of_ble_eq_true rfl) ⟨Nat.le_of_ble_eq_true rfl, Nat.le_of_ble_eq_true rfl⟩ dX3_beasts_1 (fun r_1 e_r_1 => ?_)
  refine q_if_eq 18 K dX3_beasts_4 (by decide) (fun c_2 => ?_) (fun c_2 => ?_)
  · have c_2 : ¬ (inR field 0 8) := (kn_eq e_r_1).mp c_2
    refine q_aload_n K 0 dX3_beasts_18 rfl ?_
    refine q_iconst 0 K dX3_beasts_19 rfl ?_
    refine q_wI (q0 := 0) (As := [.int 0]) (rest := []) K kv_X3_finding (c_X3_finding (k_l M) (k_Z M) A X T J 0 (by omega)) rfl rfl ml_X3_52 rfl rfl (Nat.le_of_ble_eq_true rfl) ⟨Nat.le_of_ble_eq_true rfl, Nat.le_of_ble_eq_true rfl⟩ dX3_beasts_20 (fun r_4 w2 h_3 => ?_)
    obtain ⟨e_r_4, rfl⟩ := h_3
    refine q_eqi (r_fin 0) e_r_4 ?_
    refine q_ws (ws' := w_G (k_Z M) A (a_kp X) (fd_up (a_fd X) 0) ++ (w_F (k_Z M) (A 1) (a_F X) ++ (w_F (k_Z M) (A 2) T ++ (w_F (k_Z M) (A 3) (a_K X) ++ (w_T (k_Z M) (A 4) (t_of (a_tp X) J) ++ (w_SS (k_Z M) A (a_S X))))))) rfl ?_
    exact Rt _ _ (r_fin 0) (w_G (k_Z M) A (a_kp X) (fd_up (a_fd X) 0) ++ (w_F (k_Z M) (A 1) (a_F X) ++ (w_F (k_Z M) (A 2) T ++ (w_F (k_Z M) (A 3) (a_K X) ++ (w_T (k_Z M) (A 4) (t_of (a_tp X) J) ++ (w_SS (k_Z M) A (a_S X))))))) dX3_beasts_23 rfl (⟨T, J, by simp only [o_beasts, a_fin, if_neg c_2, e_r_1], by simp only [o_beasts, a_fin, if_neg c_2]; rfl⟩)
  · have c_2 : inR field 0 8 := (kn_ne e_r_1).mp c_2
    obtain ⟨f, h_f, e_f⟩ := kn_rng (n := 8) c_2 rfl
    subst e_f
    refine q_iload_n K 2 dX3_beasts_7 rfl ?_
    refine q_iconst 0 K dX3_beasts_8 rfl ?_
    refine q_sipush 9999 K dX3_beasts_9 rfl ?_
    refine q_cp (rest := []) K ks_X3_isIn (c_X3_isIn (k_l M) (k_Z M) v 0 9999) ml_X3_48 rfl rfl (Nat.le_of_ble_eq_true rfl) ⟨Nat.le_of_ble_eq_true rfl, Nat.le_of_ble_eq_true rfl⟩ dX3_beasts_12 (fun r_5 e_r_5 => ?_)
    refine q_if_ne 24 K dX3_beasts_15 (by decide) (fun c_6 => ?_) (fun c_6 => ?_)
    · have c_6 : inR v 0 9999 := (kn_ne e_r_5).mp c_6
      refine q_aload_n K 0 dX3_beasts_24 rfl ?_
      refine q_get (.ref ((A 1) 0)) K ws_X3 0 rfl rfl 0 (by decide) fl_X3_12 rfl dX3_beasts_25 ?_
      refine q_get (.ref ((A 1) 1)) K ws_X0 3 rfl rfl 0 (by decide) fl_X3_56 rfl dX3_beasts_28 ?_
      refine q_iload_n K 1 dX3_beasts_31 rfl ?_
      refine q_iald K 4 rfl (vp_in_nI (n := f) (N := 9) (by omega) (by omega)) dX3_beasts_32 ?_
      refine q_eqi ((f_bs (a_F X)) f) (by rw [nI_clamp (n := f) (by omega)]) ?_
      refine q_istore_n (lv' := [(3, .int ((f_bs (a_F X)) f)), (0, .ref ((A 0) 0)), (1, .int (nI f)), (2, .int v)]) K dX3_beasts_33 (by decide) rfl ?_
      refine q_aload_n K 1 dX3_beasts_34 rfl ?_
      refine q_get (.ref ((A 1) 0)) K ws_X3 0 rfl rfl 0 (by decide) fl_X3_12 rfl dX3_beasts_35 ?_
      refine q_get (.ref ((A 1) 1)) K ws_X0 3 rfl rfl 0 (by decide) fl_X3_56 rfl dX3_beasts_38 ?_
      refine q_iload_n K 2 dX3_beasts_41 rfl ?_
      refine q_iload_n K 3 dX3_beasts_42 rfl ?_
      refine q_iast (ws' := w_G (k_Z M) A (a_kp X) (a_fd X) ++ (w_F (k_Z M) (A 1) (upd (f_bs (a_F X)) f v, f_gs (a_F X), f_kd (a_F X), f_fd (a_F X), f_wy (a_F X), f_md (a_F X), f_ps (a_F X), f_hd (a_F X), f_wk (a_F X), f_wd (a_F X), f_hr (a_F X), f_zz (a_F X)) ++ (w_F (k_Z M) (A 2) T ++ (w_F (k_Z M) (A 3) (a_K X) ++ (w_T (k_Z M) (A 4) (t_of (a_tp X) J) ++ (w_SS (k_Z M) A (a_S X))))))) K 4 rfl (vp_in_nI (n := f) (N := 9) (by omega) (by omega)) (by rw [nI_clamp (n := f) (by omega)] <;> rfl) dX3_beasts_43 ?_
      refine q_iload_n K 0 dX3_beasts_44 rfl ?_
      exact Rt _ _ ((f_bs (a_F X)) f) (w_G (k_Z M) A (a_kp X) (a_fd X) ++ (w_F (k_Z M) (A 1) (upd (f_bs (a_F X)) f v, f_gs (a_F X), f_kd (a_F X), f_fd (a_F X), f_wy (a_F X), f_md (a_F X), f_ps (a_F X), f_hd (a_F X), f_wk (a_F X), f_wd (a_F X), f_hr (a_F X), f_zz (a_F X)) ++ (w_F (k_Z M) (A 2) T ++ (w_F (k_Z M) (A 3) (a_K X) ++ (w_T (k_Z M) (A 4) (t_of (a_tp X) J) ++ (w_SS (k_Z M) A (a_S X))))))) dX3_beasts_45 rfl (⟨T, J, by simp only [o_beasts, a_fin, if_pos c_2, if_pos c_6, e_r_1, e_r_5, nI_clamp (n := f) (by omega)], by simp only [o_beasts, a_fin, if_pos c_2, if_pos c_6, nI_clamp (n := f) (by omega)]; rfl⟩)
    · have c_6 : ¬ (inR v 0 9999) := (kn_eq e_r_5).mp c_6
      refine q_aload_n K 0 dX3_beasts_18 rfl ?_
      refine q_iconst 0 K dX3_beasts_19 rfl ?_
      refine q_wI (q0 := 0) (As := [.int 0]) (rest := []) K kv_X3_finding (c_X3_finding (k_l M) (k_Z M) A X T J 0 (by omega)) rfl rfl ml_X3_52 rfl rfl (Nat.le_of_ble_eq_true rfl) ⟨Nat.le_of_ble_eq_true rfl, Nat.le_of_ble_eq_true rfl⟩ dX3_beasts_20 (fun r_8 w2 h_7 => ?_)
      obtain ⟨e_r_8, rfl⟩ := h_7
      refine q_eqi (r_fin 0) e_r_8 ?_
      refine q_ws (ws' := w_G (k_Z M) A (a_kp X) (fd_up (a_fd X) 0) ++ (w_F (k_Z M) (A 1) (a_F X) ++ (w_F (k_Z M) (A 2) T ++ (w_F (k_Z M) (A 3) (a_K X) ++ (w_T (k_Z M) (A 4) (t_of (a_tp X) J) ++ (w_SS (k_Z M) A (a_S X))))))) rfl ?_
      exact Rt _ _ (r_fin 0) (w_G (k_Z M) A (a_kp X) (fd_up (a_fd X) 0) ++ (w_F (k_Z M) (A 1) (a_F X) ++ (w_F (k_Z M) (A 2) T ++ (w_F (k_Z M) (A 3) (a_K X) ++ (w_T (k_Z M) (A 4) (t_of (a_tp X) J) ++ (w_SS (k_Z M) A (a_S X))))))) dX3_beasts_23 rfl (⟨T, J, by simp only [o_beasts, a_fin, if_pos c_2, if_neg c_6, e_r_1, e_r_5, nI_clamp (n := f) (by omega)], by simp only [o_beasts, a_fin, if_pos c_2, if_neg c_6, nI_clamp (n := f) (by omega)]; rfl⟩)
theorem kv_X3_beasts : k_iv yX3_beasts cX3_beasts 4 (some .int) 2 := ⟨⟨im_X3_beasts, se_X3_beasts⟩, in_X3, co_X3_beasts, by decide +kernel⟩
set_option maxHeartbeats 4000000 in
set_option maxRecDepth 100000 in
theorem c_X3_field (l : Launch) (Z : kz_Z) (A : Nat → Nat → Nat) (X : AS) (T : FS) (J : TJ) (m : Nat) (hm : m ≤ 8) (hm2 : f_wk (a_F X) = nI m) (field what : Int32) : KI l Z yX3_field cX3_field 3 .int 2 42 [.ref ((A 0) 0), .int field, .int what] (w_G Z A (a_kp X) (a_fd X) ++ (w_F Z (A 1) (a_F X) ++ (w_F Z (A 2) T ++ (w_F Z (A 3) (a_K X) ++ (w_T Z (A 4) (t_of (a_tp X) J) ++ (w_SS Z A (a_S X))))))) (fun r w2 => ∃ T2 J2, r = (o_field X field what).1 ∧ w2 = w_C Z A (o_field X field what).2 T2 J2) := by
  refine ki_of (by decide) [(0, .ref ((A 0) 0)), (1, .int field), (2, .int what)] (Nat.le_of_ble_eq_true rfl) rfl ?_
  intro M e1 e2 K Rt
  subst e1 e2
  refine q_iload_n K 1 dX3_field_0 rfl ?_
  refine q_cp (rest := []) K ks_X3_isField (c_X3_isField (k_l M) (k_Z M) field) ml_X3_44 rfl rfl (Nat.le_of_ble_eq_true rfl) ⟨Nat.le_of_ble_eq_true rfl, Nat.le_of_ble_eq_true rfl⟩ dX3_field_1 (fun r_1 e_r_1 => ?_)
  refine q_if_eq 16 K dX3_field_4 (by decide) (fun c_2 => ?_) (fun c_2 => ?_)
  · have c_2 : ¬ (inR field 0 8) := (kn_eq e_r_1).mp c_2
    refine q_aload_n K 0 dX3_field_16 rfl ?_
    refine q_iconst 0 K dX3_field_17 rfl ?_
    refine q_wI (q0 := 0) (As := [.int 0]) (rest := []) K kv_X3_finding (c_X3_finding (k_l M) (k_Z M) A X T J 0 (by omega)) rfl rfl ml_X3_52 rfl rfl (Nat.le_of_ble_eq_true rfl) ⟨Nat.le_of_ble_eq_true rfl, Nat.le_of_ble_eq_true rfl⟩ dX3_field_18 (fun r_4 w2 h_3 => ?_)
    obtain ⟨e_r_4, rfl⟩ := h_3
    refine q_eqi (r_fin 0) e_r_4 ?_
    refine q_ws (ws' := w_G (k_Z M) A (a_kp X) (fd_up (a_fd X) 0) ++ (w_F (k_Z M) (A 1) (a_F X) ++ (w_F (k_Z M) (A 2) T ++ (w_F (k_Z M) (A 3) (a_K X) ++ (w_T (k_Z M) (A 4) (t_of (a_tp X) J) ++ (w_SS (k_Z M) A (a_S X))))))) rfl ?_
    exact Rt _ _ (r_fin 0) (w_G (k_Z M) A (a_kp X) (fd_up (a_fd X) 0) ++ (w_F (k_Z M) (A 1) (a_F X) ++ (w_F (k_Z M) (A 2) T ++ (w_F (k_Z M) (A 3) (a_K X) ++ (w_T (k_Z M) (A 4) (t_of (a_tp X) J) ++ (w_SS (k_Z M) A (a_S X))))))) dX3_field_21 rfl (⟨T, J, by simp only [o_field, a_fin, if_neg c_2, e_r_1, f_mm hm hm2], by simp only [o_field, a_fin, if_neg c_2, f_mm hm hm2]; rfl⟩)
  · have c_2 : inR field 0 8 := (kn_ne e_r_1).mp c_2
    obtain ⟨f, h_f, e_f⟩ := kn_rng (n := 8) c_2 rfl
    subst e_f
    refine q_iload_n K 2 dX3_field_7 rfl ?_
    refine q_iconst 0 K dX3_field_8 rfl ?_
    refine q_iconst 1 K dX3_field_9 rfl ?_
    refine q_cp (rest := []) K ks_X3_isIn (c_X3_isIn (k_l M) (k_Z M) what 0 1) ml_X3_48 rfl rfl (Nat.le_of_ble_eq_true rfl) ⟨Nat.le_of_ble_eq_true rfl, Nat.le_of_ble_eq_true rfl⟩ dX3_field_10 (fun r_5 e_r_5 => ?_)
    refine q_if_ne 22 K dX3_field_13 (by decide) (fun c_6 => ?_) (fun c_6 => ?_)
    · have c_6 : inR what 0 1 := (kn_ne e_r_5).mp c_6
      refine q_iload_n K 2 dX3_field_22 rfl ?_
      refine q_if_ne 38 K dX3_field_23 (by decide) (fun c_7 => ?_) (fun c_7 => ?_)
      · refine q_aload_n K 0 dX3_field_38 rfl ?_
        refine q_get (.ref ((A 1) 0)) K ws_X3 0 rfl rfl 0 (by decide) fl_X3_12 rfl dX3_field_39 ?_
        refine q_iload_n K 1 dX3_field_42 rfl ?_
        refine q_cvI (q0 := 0) (As := [.int (nI f)]) (rest := []) K kv_X0_walkersIn (c_X0_walkersIn (k_l M) (k_Z M) (A 1) (a_F X) m hm hm2 (nI f)) (w_G (k_Z M) A (a_kp X) (a_fd X)) (w_F (k_Z M) (A 2) T ++ (w_F (k_Z M) (A 3) (a_K X) ++ (w_T (k_Z M) (A 4) (t_of (a_tp X) J) ++ (w_SS (k_Z M) A (a_S X))))) rfl rfl rfl ml_X3_59 rfl rfl (Nat.le_of_ble_eq_true rfl) ⟨Nat.le_of_ble_eq_true rfl, Nat.le_of_ble_eq_true rfl⟩ dX3_field_43 (fun r_9 w2 h_8 => ?_)
        obtain ⟨e_r_9, rfl⟩ := h_8
        refine q_eqi (f_wset (a_F X) (nI f) m) e_r_9 ?_
        refine q_ws (ws' := w_G (k_Z M) A (a_kp X) (a_fd X) ++ (w_F (k_Z M) (A 1) (a_F X) ++ (w_F (k_Z M) (A 2) T ++ (w_F (k_Z M) (A 3) (a_K X) ++ (w_T (k_Z M) (A 4) (t_of (a_tp X) J) ++ (w_SS (k_Z M) A (a_S X))))))) rfl ?_
        exact Rt _ _ (f_wset (a_F X) (nI f) m) (w_G (k_Z M) A (a_kp X) (a_fd X) ++ (w_F (k_Z M) (A 1) (a_F X) ++ (w_F (k_Z M) (A 2) T ++ (w_F (k_Z M) (A 3) (a_K X) ++ (w_T (k_Z M) (A 4) (t_of (a_tp X) J) ++ (w_SS (k_Z M) A (a_S X))))))) dX3_field_46 rfl (⟨T, J, by simp only [o_field, a_fin, if_pos c_2, if_pos c_6, if_neg c_7, e_r_1, e_r_5, nI_clamp (n := f) (by omega), f_mm hm hm2], by simp only [o_field, a_fin, if_pos c_2, if_pos c_6, if_neg c_7, nI_clamp (n := f) (by omega), f_mm hm hm2]; rfl⟩)
      · refine q_aload_n K 0 dX3_field_26 rfl ?_
        refine q_get (.ref ((A 1) 0)) K ws_X3 0 rfl rfl 0 (by decide) fl_X3_12 rfl dX3_field_27 ?_
        refine q_get (.ref ((A 1) 1)) K ws_X0 3 rfl rfl 0 (by decide) fl_X3_56 rfl dX3_field_30 ?_
        refine q_iload_n K 1 dX3_field_33 rfl ?_
        refine q_iald K 4 rfl (vp_in_nI (n := f) (N := 9) (by omega) (by omega)) dX3_field_34 ?_
        refine q_eqi ((f_bs (a_F X)) f) (by rw [nI_clamp (n := f) (by omega)]) ?_
        refine q_goto 46 K dX3_field_35 (by decide) ?_
        exact Rt _ _ ((f_bs (a_F X)) f) (w_G (k_Z M) A (a_kp X) (a_fd X) ++ (w_F (k_Z M) (A 1) (a_F X) ++ (w_F (k_Z M) (A 2) T ++ (w_F (k_Z M) (A 3) (a_K X) ++ (w_T (k_Z M) (A 4) (t_of (a_tp X) J) ++ (w_SS (k_Z M) A (a_S X))))))) dX3_field_46 rfl (⟨T, J, by simp only [o_field, a_fin, if_pos c_2, if_pos c_6, if_pos c_7, e_r_1, e_r_5, nI_clamp (n := f) (by omega), f_mm hm hm2], by simp only [o_field, a_fin, if_pos c_2, if_pos c_6, if_pos c_7, nI_clamp (n := f) (by omega), f_mm hm hm2]; rfl⟩)
    · have c_6 : ¬ (inR what 0 1) := (kn_eq e_r_5).mp c_6
      refine q_aload_n K 0 dX3_field_16 rfl ?_
      refine q_iconst 0 K dX3_field_17 rfl ?_
      refine q_wI (q0 := 0) (As := [.int 0]) (rest := []) K kv_X3_finding (c_X3_finding (k_l M) (k_Z M) A X T J 0 (by omega)) rfl rfl ml_X3_52 rfl rfl (Nat.le_of_ble_eq_true rfl) ⟨Nat.le_of_ble_eq_true rfl, Nat.le_of_ble_eq_true rfl⟩ dX3_field_18 (fun r_11 w2 h_10 => ?_)
      obtain ⟨e_r_11, rfl⟩ := h_10
      refine q_eqi (r_fin 0) e_r_11 ?_
      refine q_ws (ws' := w_G (k_Z M) A (a_kp X) (fd_up (a_fd X) 0) ++ (w_F (k_Z M) (A 1) (a_F X) ++ (w_F (k_Z M) (A 2) T ++ (w_F (k_Z M) (A 3) (a_K X) ++ (w_T (k_Z M) (A 4) (t_of (a_tp X) J) ++ (w_SS (k_Z M) A (a_S X))))))) rfl ?_
      exact Rt _ _ (r_fin 0) (w_G (k_Z M) A (a_kp X) (fd_up (a_fd X) 0) ++ (w_F (k_Z M) (A 1) (a_F X) ++ (w_F (k_Z M) (A 2) T ++ (w_F (k_Z M) (A 3) (a_K X) ++ (w_T (k_Z M) (A 4) (t_of (a_tp X) J) ++ (w_SS (k_Z M) A (a_S X))))))) dX3_field_21 rfl (⟨T, J, by simp only [o_field, a_fin, if_pos c_2, if_neg c_6, e_r_1, e_r_5, nI_clamp (n := f) (by omega), f_mm hm hm2], by simp only [o_field, a_fin, if_pos c_2, if_neg c_6, nI_clamp (n := f) (by omega), f_mm hm hm2]; rfl⟩)
theorem kv_X3_field : k_iv yX3_field cX3_field 3 (some .int) 2 := ⟨⟨im_X3_field, se_X3_field⟩, in_X3, co_X3_field, by decide +kernel⟩
set_option maxHeartbeats 4000000 in
set_option maxRecDepth 100000 in
theorem c_X3_gate (l : Launch) (Z : kz_Z) (A : Nat → Nat → Nat) (X : AS) (T : FS) (J : TJ) (m : Nat) (hm : m ≤ 8) (hm2 : f_wk (a_F X) = nI m) (gate v : Int32) : KI l Z yX3_gate cX3_gate 4 .int 2 42 [.ref ((A 0) 0), .int gate, .int v] (w_G Z A (a_kp X) (a_fd X) ++ (w_F Z (A 1) (a_F X) ++ (w_F Z (A 2) T ++ (w_F Z (A 3) (a_K X) ++ (w_T Z (A 4) (t_of (a_tp X) J) ++ (w_SS Z A (a_S X))))))) (fun r w2 => ∃ T2 J2, r = (o_gate X gate v).1 ∧ w2 = w_C Z A (o_gate X gate v).2 T2 J2) := by
  refine ki_of (by decide) [(0, .ref ((A 0) 0)), (1, .int gate), (2, .int v)] (Nat.le_of_ble_eq_true rfl) rfl ?_
  intro M e1 e2 K Rt
  subst e1 e2
  refine q_iload_n K 1 dX3_gate_0 rfl ?_
  refine q_cp (rest := []) K ks_X3_isGate (c_X3_isGate (k_l M) (k_Z M) gate) ml_X3_62 rfl rfl (Nat.le_of_ble_eq_true rfl) ⟨Nat.le_of_ble_eq_true rfl, Nat.le_of_ble_eq_true rfl⟩ dX3_gate_1 (fun r_1 e_r_1 => ?_)
  refine q_if_eq 14 K dX3_gate_4 (by decide) (fun c_2 => ?_) (fun c_2 => ?_)
  · have c_2 : ¬ (inR gate 0 7) := (kn_eq e_r_1).mp c_2
    refine q_aload_n K 0 dX3_gate_14 rfl ?_
    refine q_iconst 0 K dX3_gate_15 rfl ?_
    refine q_wI (q0 := 0) (As := [.int 0]) (rest := []) K kv_X3_finding (c_X3_finding (k_l M) (k_Z M) A X T J 0 (by omega)) rfl rfl ml_X3_52 rfl rfl (Nat.le_of_ble_eq_true rfl) ⟨Nat.le_of_ble_eq_true rfl, Nat.le_of_ble_eq_true rfl⟩ dX3_gate_16 (fun r_4 w2 h_3 => ?_)
    obtain ⟨e_r_4, rfl⟩ := h_3
    refine q_eqi (r_fin 0) e_r_4 ?_
    refine q_ws (ws' := w_G (k_Z M) A (a_kp X) (fd_up (a_fd X) 0) ++ (w_F (k_Z M) (A 1) (a_F X) ++ (w_F (k_Z M) (A 2) T ++ (w_F (k_Z M) (A 3) (a_K X) ++ (w_T (k_Z M) (A 4) (t_of (a_tp X) J) ++ (w_SS (k_Z M) A (a_S X))))))) rfl ?_
    exact Rt _ _ (r_fin 0) (w_G (k_Z M) A (a_kp X) (fd_up (a_fd X) 0) ++ (w_F (k_Z M) (A 1) (a_F X) ++ (w_F (k_Z M) (A 2) T ++ (w_F (k_Z M) (A 3) (a_K X) ++ (w_T (k_Z M) (A 4) (t_of (a_tp X) J) ++ (w_SS (k_Z M) A (a_S X))))))) dX3_gate_19 rfl (⟨T, J, by simp only [o_gate, a_fin, if_neg c_2, e_r_1], by simp only [o_gate, a_fin, if_neg c_2]; rfl⟩)
  · have c_2 : inR gate 0 7 := (kn_ne e_r_1).mp c_2
    obtain ⟨g, h_g, e_g⟩ := kn_rng (n := 7) c_2 rfl
    subst e_g
    refine q_iload_n K 2 dX3_gate_7 rfl ?_
    refine q_cp (rest := []) K ks_X3_isManner (c_X3_isManner (k_l M) (k_Z M) v) ml_X3_65 rfl rfl (Nat.le_of_ble_eq_true rfl) ⟨Nat.le_of_ble_eq_true rfl, Nat.le_of_ble_eq_true rfl⟩ dX3_gate_8 (fun r_5 e_r_5 => ?_)
    refine q_if_ne 20 K dX3_gate_11 (by decide) (fun c_6 => ?_) (fun c_6 => ?_)
    · have c_6 : inR v 0 3 := (kn_ne e_r_5).mp c_6
      refine q_aload_n K 0 dX3_gate_20 rfl ?_
      refine q_get (.ref ((A 1) 0)) K ws_X3 0 rfl rfl 0 (by decide) fl_X3_12 rfl dX3_gate_21 ?_
      refine q_get (.ref ((A 1) 2)) K ws_X0 3 rfl rfl 1 (by decide) fl_X3_68 rfl dX3_gate_24 ?_
      refine q_iload_n K 1 dX3_gate_27 rfl ?_
      refine q_iald K 5 rfl (vp_in_nI (n := g) (N := 8) (by omega) (by omega)) dX3_gate_28 ?_
      refine q_eqi ((f_gs (a_F X)) g) (by rw [nI_clamp (n := g) (by omega)]) ?_
      refine q_istore_n (lv' := [(3, .int ((f_gs (a_F X)) g)), (0, .ref ((A 0) 0)), (1, .int (nI g)), (2, .int v)]) K dX3_gate_29 (by decide) rfl ?_
      refine q_aload_n K 1 dX3_gate_30 rfl ?_
      refine q_get (.ref ((A 1) 0)) K ws_X3 0 rfl rfl 0 (by decide) fl_X3_12 rfl dX3_gate_31 ?_
      refine q_get (.ref ((A 1) 2)) K ws_X0 3 rfl rfl 1 (by decide) fl_X3_68 rfl dX3_gate_34 ?_
      refine q_iload_n K 2 dX3_gate_37 rfl ?_
      refine q_iload_n K 3 dX3_gate_38 rfl ?_
      refine q_iast (ws' := w_G (k_Z M) A (a_kp X) (a_fd X) ++ (w_F (k_Z M) (A 1) (f_bs (a_F X), upd (f_gs (a_F X)) g v, f_kd (a_F X), f_fd (a_F X), f_wy (a_F X), f_md (a_F X), f_ps (a_F X), f_hd (a_F X), f_wk (a_F X), f_wd (a_F X), f_hr (a_F X), f_zz (a_F X)) ++ (w_F (k_Z M) (A 2) T ++ (w_F (k_Z M) (A 3) (a_K X) ++ (w_T (k_Z M) (A 4) (t_of (a_tp X) J) ++ (w_SS (k_Z M) A (a_S X))))))) K 5 rfl (vp_in_nI (n := g) (N := 8) (by omega) (by omega)) (by rw [nI_clamp (n := g) (by omega)] <;> rfl) dX3_gate_39 ?_
      refine q_iload_n K 0 dX3_gate_40 rfl ?_
      exact Rt _ _ ((f_gs (a_F X)) g) (w_G (k_Z M) A (a_kp X) (a_fd X) ++ (w_F (k_Z M) (A 1) (f_bs (a_F X), upd (f_gs (a_F X)) g v, f_kd (a_F X), f_fd (a_F X), f_wy (a_F X), f_md (a_F X), f_ps (a_F X), f_hd (a_F X), f_wk (a_F X), f_wd (a_F X), f_hr (a_F X), f_zz (a_F X)) ++ (w_F (k_Z M) (A 2) T ++ (w_F (k_Z M) (A 3) (a_K X) ++ (w_T (k_Z M) (A 4) (t_of (a_tp X) J) ++ (w_SS (k_Z M) A (a_S X))))))) dX3_gate_41 rfl (⟨T, J, by simp only [o_gate, a_fin, if_pos c_2, if_pos c_6, e_r_1, e_r_5, nI_clamp (n := g) (by omega)], by simp only [o_gate, a_fin, if_pos c_2, if_pos c_6, nI_clamp (n := g) (by omega)]; rfl⟩)
    · have c_6 : ¬ (inR v 0 3) := (kn_eq e_r_5).mp c_6
      refine q_aload_n K 0 dX3_gate_14 rfl ?_
      refine q_iconst 0 K dX3_gate_15 rfl ?_
      refine q_wI (q0 := 0) (As := [.int 0]) (rest := []) K kv_X3_finding (c_X3_finding (k_l M) (k_Z M) A X T J 0 (by omega)) rfl rfl ml_X3_52 rfl rfl (Nat.le_of_ble_eq_true rfl) ⟨Nat.le_of_ble_eq_true rfl, Nat.le_of_ble_eq_true rfl⟩ dX3_gate_16 (fun r_8 w2 h_7 => ?_)
      obtain ⟨e_r_8, rfl⟩ := h_7
      refine q_eqi (r_fin 0) e_r_8 ?_
      refine q_ws (ws' := w_G (k_Z M) A (a_kp X) (fd_up (a_fd X) 0) ++ (w_F (k_Z M) (A 1) (a_F X) ++ (w_F (k_Z M) (A 2) T ++ (w_F (k_Z M) (A 3) (a_K X) ++ (w_T (k_Z M) (A 4) (t_of (a_tp X) J) ++ (w_SS (k_Z M) A (a_S X))))))) rfl ?_
      exact Rt _ _ (r_fin 0) (w_G (k_Z M) A (a_kp X) (fd_up (a_fd X) 0) ++ (w_F (k_Z M) (A 1) (a_F X) ++ (w_F (k_Z M) (A 2) T ++ (w_F (k_Z M) (A 3) (a_K X) ++ (w_T (k_Z M) (A 4) (t_of (a_tp X) J) ++ (w_SS (k_Z M) A (a_S X))))))) dX3_gate_19 rfl (⟨T, J, by simp only [o_gate, a_fin, if_pos c_2, if_neg c_6, e_r_1, e_r_5, nI_clamp (n := g) (by omega)], by simp only [o_gate, a_fin, if_pos c_2, if_neg c_6, nI_clamp (n := g) (by omega)]; rfl⟩)
theorem kv_X3_gate : k_iv yX3_gate cX3_gate 4 (some .int) 2 := ⟨⟨im_X3_gate, se_X3_gate⟩, in_X3, co_X3_gate, by decide +kernel⟩
set_option maxHeartbeats 4000000 in
set_option maxRecDepth 100000 in
theorem c_X3_stands (l : Launch) (Z : kz_Z) (A : Nat → Nat → Nat) (X : AS) (T : FS) (J : TJ) (m : Nat) (hm : m ≤ 8) (hm2 : f_wk (a_F X) = nI m) (gate : Int32) : KI l Z yX3_stands cX3_stands 2 .int 2 42 [.ref ((A 0) 0), .int gate] (w_G Z A (a_kp X) (a_fd X) ++ (w_F Z (A 1) (a_F X) ++ (w_F Z (A 2) T ++ (w_F Z (A 3) (a_K X) ++ (w_T Z (A 4) (t_of (a_tp X) J) ++ (w_SS Z A (a_S X))))))) (fun r w2 => ∃ T2 J2, r = (o_stands X gate).1 ∧ w2 = w_C Z A (o_stands X gate).2 T2 J2) := by
  refine ki_of (by decide) [(0, .ref ((A 0) 0)), (1, .int gate)] (Nat.le_of_ble_eq_true rfl) rfl ?_
  intro M e1 e2 K Rt
  subst e1 e2
  refine q_iload_n K 1 dX3_stands_0 rfl ?_
  refine q_cp (rest := []) K ks_X3_isGate (c_X3_isGate (k_l M) (k_Z M) gate) ml_X3_62 rfl rfl (Nat.le_of_ble_eq_true rfl) ⟨Nat.le_of_ble_eq_true rfl, Nat.le_of_ble_eq_true rfl⟩ dX3_stands_1 (fun r_1 e_r_1 => ?_)
  refine q_if_ne 13 K dX3_stands_4 (by decide) (fun c_2 => ?_) (fun c_2 => ?_)
  · have c_2 : inR gate 0 7 := (kn_ne e_r_1).mp c_2
    obtain ⟨g, h_g, e_g⟩ := kn_rng (n := 7) c_2 rfl
    subst e_g
    refine q_aload_n K 0 dX3_stands_13 rfl ?_
    refine q_get (.ref ((A 1) 0)) K ws_X3 0 rfl rfl 0 (by decide) fl_X3_12 rfl dX3_stands_14 ?_
    refine q_get (.ref ((A 1) 2)) K ws_X0 3 rfl rfl 1 (by decide) fl_X3_68 rfl dX3_stands_17 ?_
    refine q_iload_n K 1 dX3_stands_20 rfl ?_
    refine q_iald K 5 rfl (vp_in_nI (n := g) (N := 8) (by omega) (by omega)) dX3_stands_21 ?_
    refine q_eqi ((f_gs (a_F X)) g) (by rw [nI_clamp (n := g) (by omega)]) ?_
    exact Rt _ _ ((f_gs (a_F X)) g) (w_G (k_Z M) A (a_kp X) (a_fd X) ++ (w_F (k_Z M) (A 1) (a_F X) ++ (w_F (k_Z M) (A 2) T ++ (w_F (k_Z M) (A 3) (a_K X) ++ (w_T (k_Z M) (A 4) (t_of (a_tp X) J) ++ (w_SS (k_Z M) A (a_S X))))))) dX3_stands_22 rfl (⟨T, J, by simp only [o_stands, a_fin, if_pos c_2, e_r_1, nI_clamp (n := g) (by omega)], by simp only [o_stands, a_fin, if_pos c_2, nI_clamp (n := g) (by omega)]; rfl⟩)
  · have c_2 : ¬ (inR gate 0 7) := (kn_eq e_r_1).mp c_2
    refine q_aload_n K 0 dX3_stands_7 rfl ?_
    refine q_iconst 0 K dX3_stands_8 rfl ?_
    refine q_wI (q0 := 0) (As := [.int 0]) (rest := []) K kv_X3_finding (c_X3_finding (k_l M) (k_Z M) A X T J 0 (by omega)) rfl rfl ml_X3_52 rfl rfl (Nat.le_of_ble_eq_true rfl) ⟨Nat.le_of_ble_eq_true rfl, Nat.le_of_ble_eq_true rfl⟩ dX3_stands_9 (fun r_4 w2 h_3 => ?_)
    obtain ⟨e_r_4, rfl⟩ := h_3
    refine q_eqi (r_fin 0) e_r_4 ?_
    refine q_ws (ws' := w_G (k_Z M) A (a_kp X) (fd_up (a_fd X) 0) ++ (w_F (k_Z M) (A 1) (a_F X) ++ (w_F (k_Z M) (A 2) T ++ (w_F (k_Z M) (A 3) (a_K X) ++ (w_T (k_Z M) (A 4) (t_of (a_tp X) J) ++ (w_SS (k_Z M) A (a_S X))))))) rfl ?_
    exact Rt _ _ (r_fin 0) (w_G (k_Z M) A (a_kp X) (fd_up (a_fd X) 0) ++ (w_F (k_Z M) (A 1) (a_F X) ++ (w_F (k_Z M) (A 2) T ++ (w_F (k_Z M) (A 3) (a_K X) ++ (w_T (k_Z M) (A 4) (t_of (a_tp X) J) ++ (w_SS (k_Z M) A (a_S X))))))) dX3_stands_12 rfl (⟨T, J, by simp only [o_stands, a_fin, if_neg c_2, e_r_1], by simp only [o_stands, a_fin, if_neg c_2]; rfl⟩)
theorem kv_X3_stands : k_iv yX3_stands cX3_stands 2 (some .int) 1 := ⟨⟨im_X3_stands, se_X3_stands⟩, in_X3, co_X3_stands, by decide +kernel⟩
set_option maxHeartbeats 4000000 in
set_option maxRecDepth 100000 in
theorem c_X3_wind (l : Launch) (Z : kz_Z) (A : Nat → Nat → Nat) (X : AS) (T : FS) (J : TJ) (m : Nat) (hm : m ≤ 8) (hm2 : f_wk (a_F X) = nI m) (v : Int32) : KI l Z yX3_wind cX3_wind 3 .int 1 22 [.ref ((A 0) 0), .int v] (w_G Z A (a_kp X) (a_fd X) ++ (w_F Z (A 1) (a_F X) ++ (w_F Z (A 2) T ++ (w_F Z (A 3) (a_K X) ++ (w_T Z (A 4) (t_of (a_tp X) J) ++ (w_SS Z A (a_S X))))))) (fun r w2 => ∃ T2 J2, r = (o_wind X v).1 ∧ w2 = w_C Z A (o_wind X v).2 T2 J2) := by
  refine ki_of (by decide) [(0, .ref ((A 0) 0)), (1, .int v)] (Nat.le_of_ble_eq_true rfl) rfl ?_
  intro M e1 e2 K Rt
  subst e1 e2
  refine q_iload_n K 1 dX3_wind_0 rfl ?_
  refine q_iconst 0 K dX3_wind_1 rfl ?_
  refine q_bipush 9 K dX3_wind_2 rfl ?_
  refine q_cp (rest := []) K ks_X3_isIn (c_X3_isIn (k_l M) (k_Z M) v 0 9) ml_X3_48 rfl rfl (Nat.le_of_ble_eq_true rfl) ⟨Nat.le_of_ble_eq_true rfl, Nat.le_of_ble_eq_true rfl⟩ dX3_wind_4 (fun r_1 e_r_1 => ?_)
  refine q_if_ne 16 K dX3_wind_7 (by decide) (fun c_2 => ?_) (fun c_2 => ?_)
  · have c_2 : inR v 0 9 := (kn_ne e_r_1).mp c_2
    refine q_aload_n K 0 dX3_wind_16 rfl ?_
    refine q_get (.ref ((A 1) 0)) K ws_X3 0 rfl rfl 0 (by decide) fl_X3_12 rfl dX3_wind_17 ?_
    refine q_get (.int (f_wd (a_F X))) K ws_X0 3 rfl rfl 5 (by decide) fl_X3_71 rfl dX3_wind_20 ?_
    refine q_istore_n (lv' := [(2, .int (f_wd (a_F X))), (0, .ref ((A 0) 0)), (1, .int v)]) K dX3_wind_23 (by decide) rfl ?_
    refine q_aload_n K 1 dX3_wind_24 rfl ?_
    refine q_get (.ref ((A 1) 0)) K ws_X3 0 rfl rfl 0 (by decide) fl_X3_12 rfl dX3_wind_25 ?_
    refine q_iload_n K 2 dX3_wind_28 rfl ?_
    refine q_put (ty := .int) (ws' := w_G (k_Z M) A (a_kp X) (a_fd X) ++ (w_F (k_Z M) (A 1) (f_bs (a_F X), f_gs (a_F X), f_kd (a_F X), f_fd (a_F X), f_wy (a_F X), f_md (a_F X), f_ps (a_F X), f_hd (a_F X), f_wk (a_F X), v, f_hr (a_F X), f_zz (a_F X)) ++ (w_F (k_Z M) (A 2) T ++ (w_F (k_Z M) (A 3) (a_K X) ++ (w_T (k_Z M) (A 4) (t_of (a_tp X) J) ++ (w_SS (k_Z M) A (a_S X))))))) K ws_X0 tyX0 tyX0_ok nmX0 3 rfl rfl 5 (by decide) fl_X3_71 rfl (by decide +kernel) rfl rfl (Nat.le_of_ble_eq_true rfl) rfl dX3_wind_29 ?_
    refine q_iload_n K 0 dX3_wind_32 rfl ?_
    exact Rt _ _ (f_wd (a_F X)) (w_G (k_Z M) A (a_kp X) (a_fd X) ++ (w_F (k_Z M) (A 1) (f_bs (a_F X), f_gs (a_F X), f_kd (a_F X), f_fd (a_F X), f_wy (a_F X), f_md (a_F X), f_ps (a_F X), f_hd (a_F X), f_wk (a_F X), v, f_hr (a_F X), f_zz (a_F X)) ++ (w_F (k_Z M) (A 2) T ++ (w_F (k_Z M) (A 3) (a_K X) ++ (w_T (k_Z M) (A 4) (t_of (a_tp X) J) ++ (w_SS (k_Z M) A (a_S X))))))) dX3_wind_33 rfl (⟨T, J, by simp only [o_wind, a_fin, if_pos c_2, e_r_1], by simp only [o_wind, a_fin, if_pos c_2]; rfl⟩)
  · have c_2 : ¬ (inR v 0 9) := (kn_eq e_r_1).mp c_2
    refine q_aload_n K 0 dX3_wind_10 rfl ?_
    refine q_iconst 0 K dX3_wind_11 rfl ?_
    refine q_wI (q0 := 0) (As := [.int 0]) (rest := []) K kv_X3_finding (c_X3_finding (k_l M) (k_Z M) A X T J 0 (by omega)) rfl rfl ml_X3_52 rfl rfl (Nat.le_of_ble_eq_true rfl) ⟨Nat.le_of_ble_eq_true rfl, Nat.le_of_ble_eq_true rfl⟩ dX3_wind_12 (fun r_4 w2 h_3 => ?_)
    obtain ⟨e_r_4, rfl⟩ := h_3
    refine q_eqi (r_fin 0) e_r_4 ?_
    refine q_ws (ws' := w_G (k_Z M) A (a_kp X) (fd_up (a_fd X) 0) ++ (w_F (k_Z M) (A 1) (a_F X) ++ (w_F (k_Z M) (A 2) T ++ (w_F (k_Z M) (A 3) (a_K X) ++ (w_T (k_Z M) (A 4) (t_of (a_tp X) J) ++ (w_SS (k_Z M) A (a_S X))))))) rfl ?_
    exact Rt _ _ (r_fin 0) (w_G (k_Z M) A (a_kp X) (fd_up (a_fd X) 0) ++ (w_F (k_Z M) (A 1) (a_F X) ++ (w_F (k_Z M) (A 2) T ++ (w_F (k_Z M) (A 3) (a_K X) ++ (w_T (k_Z M) (A 4) (t_of (a_tp X) J) ++ (w_SS (k_Z M) A (a_S X))))))) dX3_wind_15 rfl (⟨T, J, by simp only [o_wind, a_fin, if_neg c_2, e_r_1], by simp only [o_wind, a_fin, if_neg c_2]; rfl⟩)
theorem kv_X3_wind : k_iv yX3_wind cX3_wind 3 (some .int) 1 := ⟨⟨im_X3_wind, se_X3_wind⟩, in_X3, co_X3_wind, by decide +kernel⟩
set_option maxHeartbeats 4000000 in
set_option maxRecDepth 100000 in
theorem c_X3_walker (l : Launch) (Z : kz_Z) (A : Nat → Nat → Nat) (X : AS) (T : FS) (J : TJ) (m : Nat) (hm : m ≤ 8) (hm2 : f_wk (a_F X) = nI m) (kind field : Int32) : KI l Z yX3_walker cX3_walker 3 .int 2 42 [.ref ((A 0) 0), .int kind, .int field] (w_G Z A (a_kp X) (a_fd X) ++ (w_F Z (A 1) (a_F X) ++ (w_F Z (A 2) T ++ (w_F Z (A 3) (a_K X) ++ (w_T Z (A 4) (t_of (a_tp X) J) ++ (w_SS Z A (a_S X))))))) (fun r w2 => ∃ T2 J2, r = (o_walker X kind field).1 ∧ w2 = w_C Z A (o_walker X kind field).2 T2 J2) := by
  refine ki_of (by decide) [(0, .ref ((A 0) 0)), (1, .int kind), (2, .int field)] (Nat.le_of_ble_eq_true rfl) rfl ?_
  intro M e1 e2 K Rt
  subst e1 e2
  refine q_iload_n K 1 dX3_walker_0 rfl ?_
  refine q_cp (rest := []) K ks_X3_isKind (c_X3_isKind (k_l M) (k_Z M) kind) ml_X3_75 rfl rfl (Nat.le_of_ble_eq_true rfl) ⟨Nat.le_of_ble_eq_true rfl, Nat.le_of_ble_eq_true rfl⟩ dX3_walker_1 (fun r_1 e_r_1 => ?_)
  refine q_if_eq 14 K dX3_walker_4 (by decide) (fun c_2 => ?_) (fun c_2 => ?_)
  · have c_2 : ¬ (inR kind 0 6) := (kn_eq e_r_1).mp c_2
    refine q_aload_n K 0 dX3_walker_14 rfl ?_
    refine q_iconst 0 K dX3_walker_15 rfl ?_
    refine q_wI (q0 := 0) (As := [.int 0]) (rest := []) K kv_X3_finding (c_X3_finding (k_l M) (k_Z M) A X T J 0 (by omega)) rfl rfl ml_X3_52 rfl rfl (Nat.le_of_ble_eq_true rfl) ⟨Nat.le_of_ble_eq_true rfl, Nat.le_of_ble_eq_true rfl⟩ dX3_walker_16 (fun r_4 w2 h_3 => ?_)
    obtain ⟨e_r_4, rfl⟩ := h_3
    refine q_eqi (r_fin 0) e_r_4 ?_
    refine q_ws (ws' := w_G (k_Z M) A (a_kp X) (fd_up (a_fd X) 0) ++ (w_F (k_Z M) (A 1) (a_F X) ++ (w_F (k_Z M) (A 2) T ++ (w_F (k_Z M) (A 3) (a_K X) ++ (w_T (k_Z M) (A 4) (t_of (a_tp X) J) ++ (w_SS (k_Z M) A (a_S X))))))) rfl ?_
    exact Rt _ _ (r_fin 0) (w_G (k_Z M) A (a_kp X) (fd_up (a_fd X) 0) ++ (w_F (k_Z M) (A 1) (a_F X) ++ (w_F (k_Z M) (A 2) T ++ (w_F (k_Z M) (A 3) (a_K X) ++ (w_T (k_Z M) (A 4) (t_of (a_tp X) J) ++ (w_SS (k_Z M) A (a_S X))))))) dX3_walker_19 rfl (⟨T, J, by simp only [o_walker, a_fin, if_neg c_2, e_r_1], by simp only [o_walker, a_fin, if_neg c_2]; rfl⟩)
  · have c_2 : inR kind 0 6 := (kn_ne e_r_1).mp c_2
    refine q_iload_n K 2 dX3_walker_7 rfl ?_
    refine q_cp (rest := []) K ks_X3_isField (c_X3_isField (k_l M) (k_Z M) field) ml_X3_44 rfl rfl (Nat.le_of_ble_eq_true rfl) ⟨Nat.le_of_ble_eq_true rfl, Nat.le_of_ble_eq_true rfl⟩ dX3_walker_8 (fun r_5 e_r_5 => ?_)
    refine q_if_ne 20 K dX3_walker_11 (by decide) (fun c_6 => ?_) (fun c_6 => ?_)
    · have c_6 : inR field 0 8 := (kn_ne e_r_5).mp c_6
      refine q_aload_n K 0 dX3_walker_20 rfl ?_
      refine q_get (.ref ((A 1) 0)) K ws_X3 0 rfl rfl 0 (by decide) fl_X3_12 rfl dX3_walker_21 ?_
      refine q_get (.int (f_wk (a_F X))) K ws_X0 3 rfl rfl 4 (by decide) fl_X3_78 rfl dX3_walker_24 ?_
      refine q_eqi (nI m) hm2 ?_
      refine q_bipush 8 K dX3_walker_27 rfl ?_
      refine q_icmp_lt 38 K dX3_walker_29 (by decide) (fun c_7 => ?_) (fun c_7 => ?_)
      · have c_7n : m < 8 := (nI_ltI (a := m) (b := 8) (by omega) (by omega)).mp c_7
        refine q_aload_n K 0 dX3_walker_38 rfl ?_
        refine q_get (.ref ((A 1) 0)) K ws_X3 0 rfl rfl 0 (by decide) fl_X3_12 rfl dX3_walker_39 ?_
        refine q_iload_n K 1 dX3_walker_42 rfl ?_
        refine q_iload_n K 2 dX3_walker_43 rfl ?_
        refine q_cvI (q0 := 0) (As := [.int kind, .int field]) (rest := []) K kv_X0_addWalker (c_X0_addWalker (k_l M) (k_Z M) (A 1) (a_F X) m hm hm2 kind field) (w_G (k_Z M) A (a_kp X) (a_fd X)) (w_F (k_Z M) (A 2) T ++ (w_F (k_Z M) (A 3) (a_K X) ++ (w_T (k_Z M) (A 4) (t_of (a_tp X) J) ++ (w_SS (k_Z M) A (a_S X))))) rfl rfl rfl ml_X3_81 rfl rfl (Nat.le_of_ble_eq_true rfl) ⟨Nat.le_of_ble_eq_true rfl, Nat.le_of_ble_eq_true rfl⟩ dX3_walker_44 (fun r_9 w2 h_8 => ?_)
        rcases h_8 with ⟨h8, -, -⟩ | ⟨h8, e_r_9, rfl⟩
        · exact absurd h8 (by omega)
        refine q_eqi (nI m) e_r_9 ?_
        refine q_ws (ws' := w_G (k_Z M) A (a_kp X) (a_fd X) ++ (w_F (k_Z M) (A 1) (f_add (a_F X) kind field m) ++ (w_F (k_Z M) (A 2) T ++ (w_F (k_Z M) (A 3) (a_K X) ++ (w_T (k_Z M) (A 4) (t_of (a_tp X) J) ++ (w_SS (k_Z M) A (a_S X))))))) rfl ?_
        exact Rt _ _ (nI m) (w_G (k_Z M) A (a_kp X) (a_fd X) ++ (w_F (k_Z M) (A 1) (f_add (a_F X) kind field m) ++ (w_F (k_Z M) (A 2) T ++ (w_F (k_Z M) (A 3) (a_K X) ++ (w_T (k_Z M) (A 4) (t_of (a_tp X) J) ++ (w_SS (k_Z M) A (a_S X))))))) dX3_walker_47 rfl (⟨T, J, by simp only [o_walker, a_fin, if_pos c_2, if_pos c_6, if_pos c_7, e_r_1, e_r_5, f_mm hm hm2, if_neg (show ¬ m = 8 by omega), hm2], by simp only [o_walker, a_fin, if_pos c_2, if_pos c_6, if_pos c_7, e_r_1, e_r_5, f_mm hm hm2, if_neg (show ¬ m = 8 by omega)]; rfl⟩)
      · have c_7n : ¬ (m < 8) := fun h9 => c_7 ((nI_ltI (a := m) (b := 8) (by omega) (by omega)).mpr h9)
        refine q_aload_n K 0 dX3_walker_32 rfl ?_
        refine q_iconst 1 K dX3_walker_33 rfl ?_
        refine q_wI (q0 := 0) (As := [.int 1]) (rest := []) K kv_X3_finding (c_X3_finding (k_l M) (k_Z M) A X T J 1 (by omega)) rfl rfl ml_X3_52 rfl rfl (Nat.le_of_ble_eq_true rfl) ⟨Nat.le_of_ble_eq_true rfl, Nat.le_of_ble_eq_true rfl⟩ dX3_walker_34 (fun r_11 w2 h_10 => ?_)
        obtain ⟨e_r_11, rfl⟩ := h_10
        refine q_eqi (r_fin 1) e_r_11 ?_
        refine q_ws (ws' := w_G (k_Z M) A (a_kp X) (fd_up (a_fd X) 1) ++ (w_F (k_Z M) (A 1) (a_F X) ++ (w_F (k_Z M) (A 2) T ++ (w_F (k_Z M) (A 3) (a_K X) ++ (w_T (k_Z M) (A 4) (t_of (a_tp X) J) ++ (w_SS (k_Z M) A (a_S X))))))) rfl ?_
        exact Rt _ _ (r_fin 1) (w_G (k_Z M) A (a_kp X) (fd_up (a_fd X) 1) ++ (w_F (k_Z M) (A 1) (a_F X) ++ (w_F (k_Z M) (A 2) T ++ (w_F (k_Z M) (A 3) (a_K X) ++ (w_T (k_Z M) (A 4) (t_of (a_tp X) J) ++ (w_SS (k_Z M) A (a_S X))))))) dX3_walker_37 rfl (⟨T, J, by simp only [o_walker, a_fin, if_pos c_2, if_pos c_6, if_neg c_7, e_r_1, e_r_5, f_mm hm hm2, if_pos (show m = 8 by omega)], by simp only [o_walker, a_fin, if_pos c_2, if_pos c_6, if_neg c_7, e_r_1, e_r_5, f_mm hm hm2, if_pos (show m = 8 by omega)]; rfl⟩)
    · have c_6 : ¬ (inR field 0 8) := (kn_eq e_r_5).mp c_6
      refine q_aload_n K 0 dX3_walker_14 rfl ?_
      refine q_iconst 0 K dX3_walker_15 rfl ?_
      refine q_wI (q0 := 0) (As := [.int 0]) (rest := []) K kv_X3_finding (c_X3_finding (k_l M) (k_Z M) A X T J 0 (by omega)) rfl rfl ml_X3_52 rfl rfl (Nat.le_of_ble_eq_true rfl) ⟨Nat.le_of_ble_eq_true rfl, Nat.le_of_ble_eq_true rfl⟩ dX3_walker_16 (fun r_13 w2 h_12 => ?_)
      obtain ⟨e_r_13, rfl⟩ := h_12
      refine q_eqi (r_fin 0) e_r_13 ?_
      refine q_ws (ws' := w_G (k_Z M) A (a_kp X) (fd_up (a_fd X) 0) ++ (w_F (k_Z M) (A 1) (a_F X) ++ (w_F (k_Z M) (A 2) T ++ (w_F (k_Z M) (A 3) (a_K X) ++ (w_T (k_Z M) (A 4) (t_of (a_tp X) J) ++ (w_SS (k_Z M) A (a_S X))))))) rfl ?_
      exact Rt _ _ (r_fin 0) (w_G (k_Z M) A (a_kp X) (fd_up (a_fd X) 0) ++ (w_F (k_Z M) (A 1) (a_F X) ++ (w_F (k_Z M) (A 2) T ++ (w_F (k_Z M) (A 3) (a_K X) ++ (w_T (k_Z M) (A 4) (t_of (a_tp X) J) ++ (w_SS (k_Z M) A (a_S X))))))) dX3_walker_19 rfl (⟨T, J, by simp only [o_walker, a_fin, if_pos c_2, if_neg c_6, e_r_1, e_r_5], by simp only [o_walker, a_fin, if_pos c_2, if_neg c_6]; rfl⟩)
theorem kv_X3_walker : k_iv yX3_walker cX3_walker 3 (some .int) 2 := ⟨⟨im_X3_walker, se_X3_walker⟩, in_X3, co_X3_walker, by decide +kernel⟩
