set_option maxHeartbeats 4000000 in
set_option maxRecDepth 100000 in
theorem c_X0_walkersIn (l : Launch) (Z : kz_Z) (a : Nat → Nat) (F : FS) (m : Nat) (hm : m ≤ 8) (hm2 : f_wk F = nI m) (f : Int32) : KI l Z yX0_walkersIn cX0_walkersIn 4 .int 0 0 [.ref (a 0), .int f] (w_F Z a F) (fun r w2 => r = f_wset F f m ∧ w2 = w_F Z a F) := by
  refine ki_of (by decide) [(0, .ref (a 0)), (1, .int f)] (Nat.le_of_ble_eq_true rfl) rfl ?_
  intro M e1 e2 K Rt
  subst e1 e2
  refine q_iconst 0 K dX0_walkersIn_0 rfl ?_
  refine q_istore_n (lv' := [(2, .int 0), (0, .ref (a 0)), (1, .int f)]) K dX0_walkersIn_1 (by decide) rfl ?_
  refine q_iconst 0 K dX0_walkersIn_2 rfl ?_
  refine q_istore_n (lv' := [(3, .int 0), (2, .int 0), (0, .ref (a 0)), (1, .int f)]) K dX0_walkersIn_3 (by decide) rfl ?_
  refine q_loop (α := Nat) (fun n9 w => w + n9 = m) 4 (fun w => [(3, .int (nI w)), (2, .int (f_wset F f w)), (0, .ref (a 0)), (1, .int f)]) (fun w => w_F (k_Z M) a F) (fun n_1 w hI_2 ih_3 => ?_) m 0 (by omega)
  refine q_iload_n K 0 dX0_walkersIn_4 rfl ?_
  refine q_aload_n K 2 dX0_walkersIn_5 rfl ?_
  refine q_get (.int (f_wk F)) K ws_X0 0 rfl rfl 4 (by decide) fl_X0_26 rfl dX0_walkersIn_6 ?_
  refine q_eqi (nI m) hm2 ?_
  refine q_icmp_ge 36 K dX0_walkersIn_9 (by decide) (fun c_4 => ?_) (fun c_4 => ?_)
  · have c_4n : m ≤ w := (nI_leI (a := m) (b := w) (by omega) (by omega)).mp c_4
    refine q_iload_n K 1 dX0_walkersIn_36 rfl ?_
    exact Rt _ _ (f_wset F f w) (w_F (k_Z M) a F) dX0_walkersIn_37 rfl (⟨by rw [show w = m by omega], rfl⟩)
  · have c_4n : ¬ (m ≤ w) := fun h9 => c_4 ((nI_leI (a := m) (b := w) (by omega) (by omega)).mpr h9)
    refine q_aload_n K 2 dX0_walkersIn_12 rfl ?_
    refine q_get (.ref (a 3)) K ws_X0 0 rfl rfl 2 (by decide) fl_X0_20 rfl dX0_walkersIn_13 ?_
    refine q_iconst 1 K dX0_walkersIn_16 rfl ?_
    refine q_aldg (y := a 6) K 3 rfl (vp_in_nI (n := 1) (N := 5) (by omega) (by omega)) rfl dX0_walkersIn_17 ?_
    refine q_iload_n K 0 dX0_walkersIn_18 rfl ?_
    refine q_iald K 6 rfl (vp_in_nI (n := w) (N := 8) (by omega) (by omega)) dX0_walkersIn_19 ?_
    refine q_eqi ((f_fd F) w) (by rw [nI_clamp (n := w) (by omega)]) ?_
    refine q_iload_n K 3 dX0_walkersIn_20 rfl ?_
    refine q_icmp_ne 30 K dX0_walkersIn_21 (by decide) (fun c_5 => ?_) (fun c_5 => ?_)
    · refine q_iinc (nI (w + 1)) (lv' := [(3, .int (nI (w + 1))), (2, .int (f_wset F f w)), (0, .ref (a 0)), (1, .int f)]) K 0 dX0_walkersIn_30 rfl (kn_inc w) (by decide) rfl ?_
      refine q_goto 4 K dX0_walkersIn_33 (by decide) ?_
      rw [show f_wset F f w = f_wset F f (w + 1) by simp only [f_wset, if_neg c_4, if_neg c_5]]
      exact ih_3 (n_1 - 1) (w + 1) (by omega) (by omega)
    · refine q_iload_n K 1 dX0_walkersIn_24 rfl ?_
      refine q_iconst 1 K dX0_walkersIn_25 rfl ?_
      refine q_iload_n K 0 dX0_walkersIn_26 rfl ?_
      refine q_ishl K dX0_walkersIn_27 ?_
      refine q_ior K dX0_walkersIn_28 ?_
      refine q_istore_n (lv' := [(2, .int ((f_wset F f w) ||| (1 <<< ((nI w) &&& 31)))), (3, .int (nI w)), (0, .ref (a 0)), (1, .int f)]) K dX0_walkersIn_29 (by decide) rfl ?_
      refine q_iinc (nI (w + 1)) (lv' := [(3, .int (nI (w + 1))), (2, .int ((f_wset F f w) ||| (1 <<< ((nI w) &&& 31)))), (0, .ref (a 0)), (1, .int f)]) K 1 dX0_walkersIn_30 rfl (kn_inc w) (by decide) rfl ?_
      refine q_goto 4 K dX0_walkersIn_33 (by decide) ?_
      rw [show (f_wset F f w) ||| (1 <<< ((nI w) &&& 31)) = f_wset F f (w + 1) by simp only [f_wset, if_neg c_4, if_pos c_5]]
      exact ih_3 (n_1 - 1) (w + 1) (by omega) (by omega)
theorem kv_X0_walkersIn : k_iv yX0_walkersIn cX0_walkersIn 4 (some .int) 1 := ⟨⟨im_X0_walkersIn, se_X0_walkersIn⟩, in_X0, co_X0_walkersIn, by decide +kernel⟩
set_option maxHeartbeats 4000000 in
set_option maxRecDepth 100000 in
theorem c_X0_standingByFour (l : Launch) (Z : kz_Z) (a : Nat → Nat) (F : FS) : KI l Z yX0_standingByFour cX0_standingByFour 3 .int 0 0 [.ref (a 0)] (w_F Z a F) (fun r w2 => r = f_by4 F ∧ w2 = w_F Z a F) := by
  refine ki_of (by decide) [(0, .ref (a 0))] (Nat.le_of_ble_eq_true rfl) rfl ?_
  intro M e1 e2 K Rt
  subst e1 e2
  refine q_iconst 0 K dX0_standingByFour_0 rfl ?_
  refine q_istore_n (lv' := [(1, .int 0), (0, .ref (a 0))]) K dX0_standingByFour_1 (by decide) rfl ?_
  refine q_bipush 7 K dX0_standingByFour_2 rfl ?_
  refine q_istore_n (lv' := [(2, .int 7), (1, .int 0), (0, .ref (a 0))]) K dX0_standingByFour_4 (by decide) rfl ?_
  refine q_iload_n K 0 dX0_standingByFour_5 rfl ?_
  refine q_if_lt 26 K dX0_standingByFour_6 (by decide) (fun c_0 => absurd c_0 (by decide)) (fun c_0 => ?_)
  refine q_iload_n K 1 dX0_standingByFour_9 rfl ?_
  refine q_iconst 4 K dX0_standingByFour_10 rfl ?_
  refine q_imul K dX0_standingByFour_11 ?_
  refine q_eqi 0 rfl ?_
  refine q_aload_n K 2 dX0_standingByFour_12 rfl ?_
  refine q_get (.ref (a 2)) K ws_X0 0 rfl rfl 1 (by decide) fl_X0_15 rfl dX0_standingByFour_13 ?_
  refine q_iload_n K 0 dX0_standingByFour_16 rfl ?_
  refine q_iald K 2 rfl (vp_in_nI (n := 7) (N := 8) (by omega) (by omega)) dX0_standingByFour_17 ?_
  refine q_eqi ((f_gs F) 7) rfl ?_
  refine q_iadd K dX0_standingByFour_18 ?_
  refine q_istore_n (lv' := [(1, .int (0 + ((f_gs F) 7))), (2, .int 7), (0, .ref (a 0))]) K dX0_standingByFour_19 (by decide) rfl ?_
  refine q_iinc 6 (lv' := [(2, .int 6), (1, .int (0 + ((f_gs F) 7))), (0, .ref (a 0))]) K 1 dX0_standingByFour_20 rfl rfl (by decide) rfl ?_
  refine q_goto 5 K dX0_standingByFour_23 (by decide) ?_
  refine q_iload_n K 0 dX0_standingByFour_5 rfl ?_
  refine q_if_lt 26 K dX0_standingByFour_6 (by decide) (fun c_0 => absurd c_0 (by decide)) (fun c_0 => ?_)
  refine q_iload_n K 1 dX0_standingByFour_9 rfl ?_
  refine q_iconst 4 K dX0_standingByFour_10 rfl ?_
  refine q_imul K dX0_standingByFour_11 ?_
  refine q_aload_n K 2 dX0_standingByFour_12 rfl ?_
  refine q_get (.ref (a 2)) K ws_X0 0 rfl rfl 1 (by decide) fl_X0_15 rfl dX0_standingByFour_13 ?_
  refine q_iload_n K 0 dX0_standingByFour_16 rfl ?_
  refine q_iald K 2 rfl (vp_in_nI (n := 6) (N := 8) (by omega) (by omega)) dX0_standingByFour_17 ?_
  refine q_eqi ((f_gs F) 6) rfl ?_
  refine q_iadd K dX0_standingByFour_18 ?_
  refine q_istore_n (lv' := [(1, .int (((0 + ((f_gs F) 7)) * 4) + ((f_gs F) 6))), (2, .int 6), (0, .ref (a 0))]) K dX0_standingByFour_19 (by decide) rfl ?_
  refine q_iinc 5 (lv' := [(2, .int 5), (1, .int (((0 + ((f_gs F) 7)) * 4) + ((f_gs F) 6))), (0, .ref (a 0))]) K 1 dX0_standingByFour_20 rfl rfl (by decide) rfl ?_
  refine q_goto 5 K dX0_standingByFour_23 (by decide) ?_
  refine q_iload_n K 0 dX0_standingByFour_5 rfl ?_
  refine q_if_lt 26 K dX0_standingByFour_6 (by decide) (fun c_0 => absurd c_0 (by decide)) (fun c_0 => ?_)
  refine q_iload_n K 1 dX0_standingByFour_9 rfl ?_
  refine q_iconst 4 K dX0_standingByFour_10 rfl ?_
  refine q_imul K dX0_standingByFour_11 ?_
  refine q_aload_n K 2 dX0_standingByFour_12 rfl ?_
  refine q_get (.ref (a 2)) K ws_X0 0 rfl rfl 1 (by decide) fl_X0_15 rfl dX0_standingByFour_13 ?_
  refine q_iload_n K 0 dX0_standingByFour_16 rfl ?_
  refine q_iald K 2 rfl (vp_in_nI (n := 5) (N := 8) (by omega) (by omega)) dX0_standingByFour_17 ?_
  refine q_eqi ((f_gs F) 5) rfl ?_
  refine q_iadd K dX0_standingByFour_18 ?_
  refine q_istore_n (lv' := [(1, .int (((((0 + ((f_gs F) 7)) * 4) + ((f_gs F) 6)) * 4) + ((f_gs F) 5))), (2, .int 5), (0, .ref (a 0))]) K dX0_standingByFour_19 (by decide) rfl ?_
  refine q_iinc 4 (lv' := [(2, .int 4), (1, .int (((((0 + ((f_gs F) 7)) * 4) + ((f_gs F) 6)) * 4) + ((f_gs F) 5))), (0, .ref (a 0))]) K 1 dX0_standingByFour_20 rfl rfl (by decide) rfl ?_
  refine q_goto 5 K dX0_standingByFour_23 (by decide) ?_
  refine q_iload_n K 0 dX0_standingByFour_5 rfl ?_
  refine q_if_lt 26 K dX0_standingByFour_6 (by decide) (fun c_0 => absurd c_0 (by decide)) (fun c_0 => ?_)
  refine q_iload_n K 1 dX0_standingByFour_9 rfl ?_
  refine q_iconst 4 K dX0_standingByFour_10 rfl ?_
  refine q_imul K dX0_standingByFour_11 ?_
  refine q_aload_n K 2 dX0_standingByFour_12 rfl ?_
  refine q_get (.ref (a 2)) K ws_X0 0 rfl rfl 1 (by decide) fl_X0_15 rfl dX0_standingByFour_13 ?_
  refine q_iload_n K 0 dX0_standingByFour_16 rfl ?_
  refine q_iald K 2 rfl (vp_in_nI (n := 4) (N := 8) (by omega) (by omega)) dX0_standingByFour_17 ?_
  refine q_eqi ((f_gs F) 4) rfl ?_
  refine q_iadd K dX0_standingByFour_18 ?_
  refine q_istore_n (lv' := [(1, .int (((((((0 + ((f_gs F) 7)) * 4) + ((f_gs F) 6)) * 4) + ((f_gs F) 5)) * 4) + ((f_gs F) 4))), (2, .int 4), (0, .ref (a 0))]) K dX0_standingByFour_19 (by decide) rfl ?_
  refine q_iinc 3 (lv' := [(2, .int 3), (1, .int (((((((0 + ((f_gs F) 7)) * 4) + ((f_gs F) 6)) * 4) + ((f_gs F) 5)) * 4) + ((f_gs F) 4))), (0, .ref (a 0))]) K 1 dX0_standingByFour_20 rfl rfl (by decide) rfl ?_
  refine q_goto 5 K dX0_standingByFour_23 (by decide) ?_
  refine q_iload_n K 0 dX0_standingByFour_5 rfl ?_
  refine q_if_lt 26 K dX0_standingByFour_6 (by decide) (fun c_0 => absurd c_0 (by decide)) (fun c_0 => ?_)
  refine q_iload_n K 1 dX0_standingByFour_9 rfl ?_
  refine q_iconst 4 K dX0_standingByFour_10 rfl ?_
  refine q_imul K dX0_standingByFour_11 ?_
  refine q_aload_n K 2 dX0_standingByFour_12 rfl ?_
  refine q_get (.ref (a 2)) K ws_X0 0 rfl rfl 1 (by decide) fl_X0_15 rfl dX0_standingByFour_13 ?_
  refine q_iload_n K 0 dX0_standingByFour_16 rfl ?_
  refine q_iald K 2 rfl (vp_in_nI (n := 3) (N := 8) (by omega) (by omega)) dX0_standingByFour_17 ?_
  refine q_eqi ((f_gs F) 3) rfl ?_
  refine q_iadd K dX0_standingByFour_18 ?_
  refine q_istore_n (lv' := [(1, .int (((((((((0 + ((f_gs F) 7)) * 4) + ((f_gs F) 6)) * 4) + ((f_gs F) 5)) * 4) + ((f_gs F) 4)) * 4) + ((f_gs F) 3))), (2, .int 3), (0, .ref (a 0))]) K dX0_standingByFour_19 (by decide) rfl ?_
  refine q_iinc 2 (lv' := [(2, .int 2), (1, .int (((((((((0 + ((f_gs F) 7)) * 4) + ((f_gs F) 6)) * 4) + ((f_gs F) 5)) * 4) + ((f_gs F) 4)) * 4) + ((f_gs F) 3))), (0, .ref (a 0))]) K 1 dX0_standingByFour_20 rfl rfl (by decide) rfl ?_
  refine q_goto 5 K dX0_standingByFour_23 (by decide) ?_
  refine q_iload_n K 0 dX0_standingByFour_5 rfl ?_
  refine q_if_lt 26 K dX0_standingByFour_6 (by decide) (fun c_0 => absurd c_0 (by decide)) (fun c_0 => ?_)
  refine q_iload_n K 1 dX0_standingByFour_9 rfl ?_
  refine q_iconst 4 K dX0_standingByFour_10 rfl ?_
  refine q_imul K dX0_standingByFour_11 ?_
  refine q_aload_n K 2 dX0_standingByFour_12 rfl ?_
  refine q_get (.ref (a 2)) K ws_X0 0 rfl rfl 1 (by decide) fl_X0_15 rfl dX0_standingByFour_13 ?_
  refine q_iload_n K 0 dX0_standingByFour_16 rfl ?_
  refine q_iald K 2 rfl (vp_in_nI (n := 2) (N := 8) (by omega) (by omega)) dX0_standingByFour_17 ?_
  refine q_eqi ((f_gs F) 2) rfl ?_
  refine q_iadd K dX0_standingByFour_18 ?_
  refine q_istore_n (lv' := [(1, .int (((((((((((0 + ((f_gs F) 7)) * 4) + ((f_gs F) 6)) * 4) + ((f_gs F) 5)) * 4) + ((f_gs F) 4)) * 4) + ((f_gs F) 3)) * 4) + ((f_gs F) 2))), (2, .int 2), (0, .ref (a 0))]) K dX0_standingByFour_19 (by decide) rfl ?_
  refine q_iinc 1 (lv' := [(2, .int 1), (1, .int (((((((((((0 + ((f_gs F) 7)) * 4) + ((f_gs F) 6)) * 4) + ((f_gs F) 5)) * 4) + ((f_gs F) 4)) * 4) + ((f_gs F) 3)) * 4) + ((f_gs F) 2))), (0, .ref (a 0))]) K 1 dX0_standingByFour_20 rfl rfl (by decide) rfl ?_
  refine q_goto 5 K dX0_standingByFour_23 (by decide) ?_
  refine q_iload_n K 0 dX0_standingByFour_5 rfl ?_
  refine q_if_lt 26 K dX0_standingByFour_6 (by decide) (fun c_0 => absurd c_0 (by decide)) (fun c_0 => ?_)
  refine q_iload_n K 1 dX0_standingByFour_9 rfl ?_
  refine q_iconst 4 K dX0_standingByFour_10 rfl ?_
  refine q_imul K dX0_standingByFour_11 ?_
  refine q_aload_n K 2 dX0_standingByFour_12 rfl ?_
  refine q_get (.ref (a 2)) K ws_X0 0 rfl rfl 1 (by decide) fl_X0_15 rfl dX0_standingByFour_13 ?_
  refine q_iload_n K 0 dX0_standingByFour_16 rfl ?_
  refine q_iald K 2 rfl (vp_in_nI (n := 1) (N := 8) (by omega) (by omega)) dX0_standingByFour_17 ?_
  refine q_eqi ((f_gs F) 1) rfl ?_
  refine q_iadd K dX0_standingByFour_18 ?_
  refine q_istore_n (lv' := [(1, .int (((((((((((((0 + ((f_gs F) 7)) * 4) + ((f_gs F) 6)) * 4) + ((f_gs F) 5)) * 4) + ((f_gs F) 4)) * 4) + ((f_gs F) 3)) * 4) + ((f_gs F) 2)) * 4) + ((f_gs F) 1))), (2, .int 1), (0, .ref (a 0))]) K dX0_standingByFour_19 (by decide) rfl ?_
  refine q_iinc 0 (lv' := [(2, .int 0), (1, .int (((((((((((((0 + ((f_gs F) 7)) * 4) + ((f_gs F) 6)) * 4) + ((f_gs F) 5)) * 4) + ((f_gs F) 4)) * 4) + ((f_gs F) 3)) * 4) + ((f_gs F) 2)) * 4) + ((f_gs F) 1))), (0, .ref (a 0))]) K 1 dX0_standingByFour_20 rfl rfl (by decide) rfl ?_
  refine q_goto 5 K dX0_standingByFour_23 (by decide) ?_
  refine q_iload_n K 0 dX0_standingByFour_5 rfl ?_
  refine q_if_lt 26 K dX0_standingByFour_6 (by decide) (fun c_0 => absurd c_0 (by decide)) (fun c_0 => ?_)
  refine q_iload_n K 1 dX0_standingByFour_9 rfl ?_
  refine q_iconst 4 K dX0_standingByFour_10 rfl ?_
  refine q_imul K dX0_standingByFour_11 ?_
  refine q_aload_n K 2 dX0_standingByFour_12 rfl ?_
  refine q_get (.ref (a 2)) K ws_X0 0 rfl rfl 1 (by decide) fl_X0_15 rfl dX0_standingByFour_13 ?_
  refine q_iload_n K 0 dX0_standingByFour_16 rfl ?_
  refine q_iald K 2 rfl (vp_in_nI (n := 0) (N := 8) (by omega) (by omega)) dX0_standingByFour_17 ?_
  refine q_eqi ((f_gs F) 0) rfl ?_
  refine q_iadd K dX0_standingByFour_18 ?_
  refine q_istore_n (lv' := [(1, .int (((((((((((((((0 + ((f_gs F) 7)) * 4) + ((f_gs F) 6)) * 4) + ((f_gs F) 5)) * 4) + ((f_gs F) 4)) * 4) + ((f_gs F) 3)) * 4) + ((f_gs F) 2)) * 4) + ((f_gs F) 1)) * 4) + ((f_gs F) 0))), (2, .int 0), (0, .ref (a 0))]) K dX0_standingByFour_19 (by decide) rfl ?_
  refine q_iinc (-1) (lv' := [(2, .int (-1)), (1, .int (((((((((((((((0 + ((f_gs F) 7)) * 4) + ((f_gs F) 6)) * 4) + ((f_gs F) 5)) * 4) + ((f_gs F) 4)) * 4) + ((f_gs F) 3)) * 4) + ((f_gs F) 2)) * 4) + ((f_gs F) 1)) * 4) + ((f_gs F) 0))), (0, .ref (a 0))]) K 1 dX0_standingByFour_20 rfl rfl (by decide) rfl ?_
  refine q_goto 5 K dX0_standingByFour_23 (by decide) ?_
  refine q_iload_n K 0 dX0_standingByFour_5 rfl ?_
  refine q_if_lt 26 K dX0_standingByFour_6 (by decide) (fun c_0 => ?_) (fun c_0 => absurd c_0 (by decide))
  refine q_iload_n K 1 dX0_standingByFour_26 rfl ?_
  exact Rt _ _ (((((((((((((((0 + ((f_gs F) 7)) * 4) + ((f_gs F) 6)) * 4) + ((f_gs F) 5)) * 4) + ((f_gs F) 4)) * 4) + ((f_gs F) 3)) * 4) + ((f_gs F) 2)) * 4) + ((f_gs F) 1)) * 4) + ((f_gs F) 0)) (w_F (k_Z M) a F) dX0_standingByFour_27 rfl (⟨rfl, rfl⟩)
theorem kv_X0_standingByFour : k_iv yX0_standingByFour cX0_standingByFour 3 (some .int) 0 := ⟨⟨im_X0_standingByFour, se_X0_standingByFour⟩, in_X0, co_X0_standingByFour, by decide +kernel⟩
set_option maxHeartbeats 4000000 in
set_option maxRecDepth 100000 in
theorem c_X0_notShut (l : Launch) (Z : kz_Z) (a : Nat → Nat) (F : FS) : KI l Z yX0_notShut cX0_notShut 3 .int 0 0 [.ref (a 0)] (w_F Z a F) (fun r w2 => r = f_ns F 8 ∧ w2 = w_F Z a F) := by
  refine ki_of (by decide) [(0, .ref (a 0))] (Nat.le_of_ble_eq_true rfl) rfl ?_
  intro M e1 e2 K Rt
  subst e1 e2
  refine q_iconst 0 K dX0_notShut_0 rfl ?_
  refine q_istore_n (lv' := [(1, .int 0), (0, .ref (a 0))]) K dX0_notShut_1 (by decide) rfl ?_
  refine q_iconst 0 K dX0_notShut_2 rfl ?_
  refine q_istore_n (lv' := [(2, .int 0), (1, .int 0), (0, .ref (a 0))]) K dX0_notShut_3 (by decide) rfl ?_
  refine q_loop (α := Nat) (fun n9 g => g + n9 = 8) 4 (fun g => [(2, .int (nI g)), (1, .int (f_ns F g)), (0, .ref (a 0))]) (fun g => w_F (k_Z M) a F) (fun n_1 g hI_2 ih_3 => ?_) 8 0 (by omega)
  refine q_iload_n K 0 dX0_notShut_4 rfl ?_
  refine q_bipush 8 K dX0_notShut_5 rfl ?_
  refine q_icmp_ge 31 K dX0_notShut_7 (by decide) (fun c_4 => ?_) (fun c_4 => ?_)
  · have c_4n : 8 ≤ g := (nI_leI (a := 8) (b := g) (by omega) (by omega)).mp c_4
    refine q_iload_n K 1 dX0_notShut_31 rfl ?_
    exact Rt _ _ (f_ns F g) (w_F (k_Z M) a F) dX0_notShut_32 rfl (⟨by rw [show g = 8 by omega], rfl⟩)
  · have c_4n : ¬ (8 ≤ g) := fun h9 => c_4 ((nI_leI (a := 8) (b := g) (by omega) (by omega)).mpr h9)
    refine q_aload_n K 2 dX0_notShut_10 rfl ?_
    refine q_get (.ref (a 2)) K ws_X0 0 rfl rfl 1 (by decide) fl_X0_15 rfl dX0_notShut_11 ?_
    refine q_iload_n K 0 dX0_notShut_14 rfl ?_
    refine q_iald K 2 rfl (vp_in_nI (n := g) (N := 8) (by omega) (by omega)) dX0_notShut_15 ?_
    refine q_eqi ((f_gs F) g) (by rw [nI_clamp (n := g) (by omega)]) ?_
    refine q_if_eq 25 K dX0_notShut_16 (by decide) (fun c_5 => ?_) (fun c_5 => ?_)
    · refine q_iinc (nI (g + 1)) (lv' := [(2, .int (nI (g + 1))), (1, .int (f_ns F g)), (0, .ref (a 0))]) K 0 dX0_notShut_25 rfl (kn_inc g) (by decide) rfl ?_
      refine q_goto 4 K dX0_notShut_28 (by decide) ?_
      rw [show f_ns F g = f_ns F (g + 1) by simp only [f_ns, if_neg c_4, if_pos c_5]]
      exact ih_3 (n_1 - 1) (g + 1) (by omega) (by omega)
    · refine q_iload_n K 1 dX0_notShut_19 rfl ?_
      refine q_iconst 1 K dX0_notShut_20 rfl ?_
      refine q_iload_n K 0 dX0_notShut_21 rfl ?_
      refine q_ishl K dX0_notShut_22 ?_
      refine q_ior K dX0_notShut_23 ?_
      refine q_istore_n (lv' := [(1, .int ((f_ns F g) ||| (1 <<< ((nI g) &&& 31)))), (2, .int (nI g)), (0, .ref (a 0))]) K dX0_notShut_24 (by decide) rfl ?_
      refine q_iinc (nI (g + 1)) (lv' := [(2, .int (nI (g + 1))), (1, .int ((f_ns F g) ||| (1 <<< ((nI g) &&& 31)))), (0, .ref (a 0))]) K 1 dX0_notShut_25 rfl (kn_inc g) (by decide) rfl ?_
      refine q_goto 4 K dX0_notShut_28 (by decide) ?_
      rw [show (f_ns F g) ||| (1 <<< ((nI g) &&& 31)) = f_ns F (g + 1) by simp only [f_ns, if_neg c_4, if_neg c_5]]
      exact ih_3 (n_1 - 1) (g + 1) (by omega) (by omega)
theorem kv_X0_notShut : k_iv yX0_notShut cX0_notShut 3 (some .int) 0 := ⟨⟨im_X0_notShut, se_X0_notShut⟩, in_X0, co_X0_notShut, by decide +kernel⟩
set_option maxHeartbeats 4000000 in
set_option maxRecDepth 100000 in
theorem c_X0_allBeasts (l : Launch) (Z : kz_Z) (a : Nat → Nat) (F : FS) : KI l Z yX0_allBeasts cX0_allBeasts 3 .int 0 0 [.ref (a 0)] (w_F Z a F) (fun r w2 => r = f_sumb F 9 ∧ w2 = w_F Z a F) := by
  refine ki_of (by decide) [(0, .ref (a 0))] (Nat.le_of_ble_eq_true rfl) rfl ?_
  intro M e1 e2 K Rt
  subst e1 e2
  refine q_iconst 0 K dX0_allBeasts_0 rfl ?_
  refine q_istore_n (lv' := [(1, .int 0), (0, .ref (a 0))]) K dX0_allBeasts_1 (by decide) rfl ?_
  refine q_iconst 0 K dX0_allBeasts_2 rfl ?_
  refine q_istore_n (lv' := [(2, .int 0), (1, .int 0), (0, .ref (a 0))]) K dX0_allBeasts_3 (by decide) rfl ?_
  refine q_loop (α := Nat) (fun n9 g => g + n9 = 9) 4 (fun g => [(2, .int (nI g)), (1, .int (f_sumb F g)), (0, .ref (a 0))]) (fun g => w_F (k_Z M) a F) (fun n_1 g hI_2 ih_3 => ?_) 9 0 (by omega)
  refine q_iload_n K 0 dX0_allBeasts_4 rfl ?_
  refine q_bipush 9 K dX0_allBeasts_5 rfl ?_
  refine q_icmp_ge 25 K dX0_allBeasts_7 (by decide) (fun c_4 => ?_) (fun c_4 => ?_)
  · have c_4n : 9 ≤ g := (nI_leI (a := 9) (b := g) (by omega) (by omega)).mp c_4
    refine q_iload_n K 1 dX0_allBeasts_25 rfl ?_
    exact Rt _ _ (f_sumb F g) (w_F (k_Z M) a F) dX0_allBeasts_26 rfl (⟨by rw [show g = 9 by omega], rfl⟩)
  · have c_4n : ¬ (9 ≤ g) := fun h9 => c_4 ((nI_leI (a := 9) (b := g) (by omega) (by omega)).mpr h9)
    refine q_iload_n K 1 dX0_allBeasts_10 rfl ?_
    refine q_aload_n K 2 dX0_allBeasts_11 rfl ?_
    refine q_get (.ref (a 1)) K ws_X0 0 rfl rfl 0 (by decide) fl_X0_9 rfl dX0_allBeasts_12 ?_
    refine q_iload_n K 0 dX0_allBeasts_15 rfl ?_
    refine q_iald K 1 rfl (vp_in_nI (n := g) (N := 9) (by omega) (by omega)) dX0_allBeasts_16 ?_
    refine q_eqi ((f_bs F) g) (by rw [nI_clamp (n := g) (by omega)]) ?_
    refine q_iadd K dX0_allBeasts_17 ?_
    refine q_istore_n (lv' := [(1, .int ((f_sumb F g) + ((f_bs F) g))), (2, .int (nI g)), (0, .ref (a 0))]) K dX0_allBeasts_18 (by decide) rfl ?_
    refine q_iinc (nI (g + 1)) (lv' := [(2, .int (nI (g + 1))), (1, .int ((f_sumb F g) + ((f_bs F) g))), (0, .ref (a 0))]) K 1 dX0_allBeasts_19 rfl (kn_inc g) (by decide) rfl ?_
    refine q_goto 4 K dX0_allBeasts_22 (by decide) ?_
    rw [show (f_sumb F g) + ((f_bs F) g) = f_sumb F (g + 1) by simp only [f_sumb, if_neg c_4]]
    exact ih_3 (n_1 - 1) (g + 1) (by omega) (by omega)
theorem kv_X0_allBeasts : k_iv yX0_allBeasts cX0_allBeasts 3 (some .int) 0 := ⟨⟨im_X0_allBeasts, se_X0_allBeasts⟩, in_X0, co_X0_allBeasts, by decide +kernel⟩
set_option maxHeartbeats 4000000 in
set_option maxRecDepth 100000 in
theorem c_X0_allPassed (l : Launch) (Z : kz_Z) (a : Nat → Nat) (F : FS) (m : Nat) (hm : m ≤ 8) (hm2 : f_wk F = nI m) : KI l Z yX0_allPassed cX0_allPassed 3 .int 0 0 [.ref (a 0)] (w_F Z a F) (fun r w2 => r = f_sump F m ∧ w2 = w_F Z a F) := by
  refine ki_of (by decide) [(0, .ref (a 0))] (Nat.le_of_ble_eq_true rfl) rfl ?_
  intro M e1 e2 K Rt
  subst e1 e2
  refine q_iconst 0 K dX0_allPassed_0 rfl ?_
  refine q_istore_n (lv' := [(1, .int 0), (0, .ref (a 0))]) K dX0_allPassed_1 (by decide) rfl ?_
  refine q_iconst 0 K dX0_allPassed_2 rfl ?_
  refine q_istore_n (lv' := [(2, .int 0), (1, .int 0), (0, .ref (a 0))]) K dX0_allPassed_3 (by decide) rfl ?_
  refine q_loop (α := Nat) (fun n9 g => g + n9 = m) 4 (fun g => [(2, .int (nI g)), (1, .int (f_sump F g)), (0, .ref (a 0))]) (fun g => w_F (k_Z M) a F) (fun n_1 g hI_2 ih_3 => ?_) m 0 (by omega)
  refine q_iload_n K 0 dX0_allPassed_4 rfl ?_
  refine q_aload_n K 2 dX0_allPassed_5 rfl ?_
  refine q_get (.int (f_wk F)) K ws_X0 0 rfl rfl 4 (by decide) fl_X0_26 rfl dX0_allPassed_6 ?_
  refine q_eqi (nI m) hm2 ?_
  refine q_icmp_ge 29 K dX0_allPassed_9 (by decide) (fun c_4 => ?_) (fun c_4 => ?_)
  · have c_4n : m ≤ g := (nI_leI (a := m) (b := g) (by omega) (by omega)).mp c_4
    refine q_iload_n K 1 dX0_allPassed_29 rfl ?_
    exact Rt _ _ (f_sump F g) (w_F (k_Z M) a F) dX0_allPassed_30 rfl (⟨by rw [show g = m by omega], rfl⟩)
  · have c_4n : ¬ (m ≤ g) := fun h9 => c_4 ((nI_leI (a := m) (b := g) (by omega) (by omega)).mpr h9)
    refine q_iload_n K 1 dX0_allPassed_12 rfl ?_
    refine q_aload_n K 2 dX0_allPassed_13 rfl ?_
    refine q_get (.ref (a 3)) K ws_X0 0 rfl rfl 2 (by decide) fl_X0_20 rfl dX0_allPassed_14 ?_
    refine q_iconst 4 K dX0_allPassed_17 rfl ?_
    refine q_aldg (y := a 9) K 3 rfl (vp_in_nI (n := 4) (N := 5) (by omega) (by omega)) rfl dX0_allPassed_18 ?_
    refine q_iload_n K 0 dX0_allPassed_19 rfl ?_
    refine q_iald K 9 rfl (vp_in_nI (n := g) (N := 8) (by omega) (by omega)) dX0_allPassed_20 ?_
    refine q_eqi ((f_ps F) g) (by rw [nI_clamp (n := g) (by omega)]) ?_
    refine q_iadd K dX0_allPassed_21 ?_
    refine q_istore_n (lv' := [(1, .int ((f_sump F g) + ((f_ps F) g))), (2, .int (nI g)), (0, .ref (a 0))]) K dX0_allPassed_22 (by decide) rfl ?_
    refine q_iinc (nI (g + 1)) (lv' := [(2, .int (nI (g + 1))), (1, .int ((f_sump F g) + ((f_ps F) g))), (0, .ref (a 0))]) K 1 dX0_allPassed_23 rfl (kn_inc g) (by decide) rfl ?_
    refine q_goto 4 K dX0_allPassed_26 (by decide) ?_
    rw [show (f_sump F g) + ((f_ps F) g) = f_sump F (g + 1) by simp only [f_sump, if_neg c_4]]
    exact ih_3 (n_1 - 1) (g + 1) (by omega) (by omega)
theorem kv_X0_allPassed : k_iv yX0_allPassed cX0_allPassed 3 (some .int) 0 := ⟨⟨im_X0_allPassed, se_X0_allPassed⟩, in_X0, co_X0_allPassed, by decide +kernel⟩
set_option maxHeartbeats 4000000 in
set_option maxRecDepth 100000 in
theorem c_X0_fullestField (l : Launch) (Z : kz_Z) (a : Nat → Nat) (F : FS) : KI l Z yX0_fullestField cX0_fullestField 3 .int 0 0 [.ref (a 0)] (w_F Z a F) (fun r w2 => r = nI (f_best F 8) ∧ w2 = w_F Z a F) := by
  refine ki_of (by decide) [(0, .ref (a 0))] (Nat.le_of_ble_eq_true rfl) rfl ?_
  intro M e1 e2 K Rt
  subst e1 e2
  refine q_iconst 0 K dX0_fullestField_0 rfl ?_
  refine q_istore_n (lv' := [(1, .int 0), (0, .ref (a 0))]) K dX0_fullestField_1 (by decide) rfl ?_
  refine q_iconst 1 K dX0_fullestField_2 rfl ?_
  refine q_istore_n (lv' := [(2, .int 1), (1, .int 0), (0, .ref (a 0))]) K dX0_fullestField_3 (by decide) rfl ?_
  refine q_loop (α := Nat) (fun n9 g => g + n9 = 8) 4 (fun g => [(2, .int (nI (g + 1))), (1, .int (nI (f_best F g))), (0, .ref (a 0))]) (fun g => w_F (k_Z M) a F) (fun n_1 g hI_2 ih_3 => ?_) 8 0 rfl
  have hbt := f_best_le F g
  refine q_iload_n K 0 dX0_fullestField_4 rfl ?_
  refine q_bipush 9 K dX0_fullestField_5 rfl ?_
  refine q_icmp_ge 33 K dX0_fullestField_7 (by decide) (fun c_4 => ?_) (fun c_4 => ?_)
  · have c_4n : 9 ≤ g + 1 := (nI_leI (a := 9) (b := g + 1) (by omega) (by omega)).mp c_4
    refine q_iload_n K 1 dX0_fullestField_33 rfl ?_
    exact Rt _ _ (nI (f_best F g)) (w_F (k_Z M) a F) dX0_fullestField_34 rfl (⟨by rw [show g = 8 by omega], rfl⟩)
  · have c_4n : ¬ (9 ≤ g + 1) := fun h9 => c_4 ((nI_leI (a := 9) (b := g + 1) (by omega) (by omega)).mpr h9)
    refine q_aload_n K 2 dX0_fullestField_10 rfl ?_
    refine q_get (.ref (a 1)) K ws_X0 0 rfl rfl 0 (by decide) fl_X0_9 rfl dX0_fullestField_11 ?_
    refine q_iload_n K 0 dX0_fullestField_14 rfl ?_
    refine q_iald K 1 rfl (vp_in_nI (n := g + 1) (N := 9) (by omega) (by omega)) dX0_fullestField_15 ?_
    refine q_eqi ((f_bs F) (g + 1)) (by rw [nI_clamp (n := g + 1) (by omega)]) ?_
    refine q_aload_n K 2 dX0_fullestField_16 rfl ?_
    refine q_get (.ref (a 1)) K ws_X0 0 rfl rfl 0 (by decide) fl_X0_9 rfl dX0_fullestField_17 ?_
    refine q_iload_n K 1 dX0_fullestField_20 rfl ?_
    refine q_iald K 1 rfl (vp_in_nI (n := f_best F g) (N := 9) (by omega) (by omega)) dX0_fullestField_21 ?_
    refine q_eqi ((f_bs F) (f_best F g)) (by rw [nI_clamp (n := f_best F g) (by omega)]) ?_
    refine q_icmp_le 27 K dX0_fullestField_22 (by decide) (fun c_5 => ?_) (fun c_5 => ?_)
    · refine q_iinc (nI ((g + 1) + 1)) (lv' := [(2, .int (nI ((g + 1) + 1))), (1, .int (nI (f_best F g))), (0, .ref (a 0))]) K 0 dX0_fullestField_27 rfl (kn_inc (g + 1)) (by decide) rfl ?_
      refine q_goto 4 K dX0_fullestField_30 (by decide) ?_
      rw [show nI (f_best F g) = nI (f_best F (g + 1)) by simp only [f_best, if_pos c_5]]
      exact ih_3 (n_1 - 1) (g + 1) (by omega) (by omega)
    · refine q_iload_n K 0 dX0_fullestField_25 rfl ?_
      refine q_istore_n (lv' := [(1, .int (nI (g + 1))), (2, .int (nI (g + 1))), (0, .ref (a 0))]) K dX0_fullestField_26 (by decide) rfl ?_
      refine q_iinc (nI ((g + 1) + 1)) (lv' := [(2, .int (nI ((g + 1) + 1))), (1, .int (nI (g + 1))), (0, .ref (a 0))]) K 1 dX0_fullestField_27 rfl (kn_inc (g + 1)) (by decide) rfl ?_
      refine q_goto 4 K dX0_fullestField_30 (by decide) ?_
      rw [show nI (g + 1) = nI (f_best F (g + 1)) by simp only [f_best, if_neg c_5]]
      exact ih_3 (n_1 - 1) (g + 1) (by omega) (by omega)
theorem kv_X0_fullestField : k_iv yX0_fullestField cX0_fullestField 3 (some .int) 0 := ⟨⟨im_X0_fullestField, se_X0_fullestField⟩, in_X0, co_X0_fullestField, by decide +kernel⟩
set_option maxHeartbeats 4000000 in
set_option maxRecDepth 100000 in
theorem c_X0_spotsInUse (l : Launch) (Z : kz_Z) (a : Nat → Nat) (F : FS) : KI l Z yX0_spotsInUse cX0_spotsInUse 3 .int 0 0 [.ref (a 0)] (w_F Z a F) (fun r w2 => r = f_spn F 10 ∧ w2 = w_F Z a F) := by
  refine ki_of (by decide) [(0, .ref (a 0))] (Nat.le_of_ble_eq_true rfl) rfl ?_
  intro M e1 e2 K Rt
  subst e1 e2
  refine q_iconst 0 K dX0_spotsInUse_0 rfl ?_
  refine q_istore_n (lv' := [(1, .int 0), (0, .ref (a 0))]) K dX0_spotsInUse_1 (by decide) rfl ?_
  refine q_iconst 0 K dX0_spotsInUse_2 rfl ?_
  refine q_istore_n (lv' := [(2, .int 0), (1, .int 0), (0, .ref (a 0))]) K dX0_spotsInUse_3 (by decide) rfl ?_
  refine q_loop (α := Nat) (fun n9 g => g + n9 = 10) 4 (fun g => [(2, .int (nI g)), (1, .int (f_spn F g)), (0, .ref (a 0))]) (fun g => w_F (k_Z M) a F) (fun n_1 g hI_2 ih_3 => ?_) 10 0 (by omega)
  refine q_iload_n K 0 dX0_spotsInUse_4 rfl ?_
  refine q_bipush 10 K dX0_spotsInUse_5 rfl ?_
  refine q_icmp_ge 29 K dX0_spotsInUse_7 (by decide) (fun c_4 => ?_) (fun c_4 => ?_)
  · have c_4n : 10 ≤ g := (nI_leI (a := 10) (b := g) (by omega) (by omega)).mp c_4
    refine q_iload_n K 1 dX0_spotsInUse_29 rfl ?_
    exact Rt _ _ (f_spn F g) (w_F (k_Z M) a F) dX0_spotsInUse_30 rfl (⟨by rw [show g = 10 by omega], rfl⟩)
  · have c_4n : ¬ (10 ≤ g) := fun h9 => c_4 ((nI_leI (a := 10) (b := g) (by omega) (by omega)).mpr h9)
    refine q_aload_n K 2 dX0_spotsInUse_10 rfl ?_
    refine q_get (.ref (a 4)) K ws_X0 0 rfl rfl 3 (by decide) fl_X0_23 rfl dX0_spotsInUse_11 ?_
    refine q_iload_n K 0 dX0_spotsInUse_14 rfl ?_
    refine q_iald K 4 rfl (vp_in_nI (n := g) (N := 10) (by omega) (by omega)) dX0_spotsInUse_15 ?_
    refine q_eqi ((f_hd F) g) (by rw [nI_clamp (n := g) (by omega)]) ?_
    refine q_iconst (-1) K dX0_spotsInUse_16 rfl ?_
    refine q_icmp_eq 23 K dX0_spotsInUse_17 (by decide) (fun c_5 => ?_) (fun c_5 => ?_)
    · refine q_iinc (nI (g + 1)) (lv' := [(2, .int (nI (g + 1))), (1, .int (f_spn F g)), (0, .ref (a 0))]) K 0 dX0_spotsInUse_23 rfl (kn_inc g) (by decide) rfl ?_
      refine q_goto 4 K dX0_spotsInUse_26 (by decide) ?_
      rw [show f_spn F g = f_spn F (g + 1) by simp only [f_spn, if_neg c_4, if_pos c_5]]
      exact ih_3 (n_1 - 1) (g + 1) (by omega) (by omega)
    · refine q_iinc ((f_spn F g) + 1) (lv' := [(1, .int ((f_spn F g) + 1)), (2, .int (nI g)), (0, .ref (a 0))]) K 1 dX0_spotsInUse_20 rfl rfl (by decide) rfl ?_
      refine q_iinc (nI (g + 1)) (lv' := [(2, .int (nI (g + 1))), (1, .int ((f_spn F g) + 1)), (0, .ref (a 0))]) K 1 dX0_spotsInUse_23 rfl (kn_inc g) (by decide) rfl ?_
      refine q_goto 4 K dX0_spotsInUse_26 (by decide) ?_
      rw [show (f_spn F g) + 1 = f_spn F (g + 1) by simp only [f_spn, if_neg c_4, if_neg c_5]]
      exact ih_3 (n_1 - 1) (g + 1) (by omega) (by omega)
theorem kv_X0_spotsInUse : k_iv yX0_spotsInUse cX0_spotsInUse 3 (some .int) 0 := ⟨⟨im_X0_spotsInUse, se_X0_spotsInUse⟩, in_X0, co_X0_spotsInUse, by decide +kernel⟩
set_option maxHeartbeats 4000000 in
set_option maxRecDepth 100000 in
theorem c_X0_draw (l : Launch) (Z : kz_Z) (a : Nat → Nat) (F : FS) : KI l Z yX0_draw cX0_draw 1 .int 0 0 [.ref (a 0)] (w_F Z a F) (fun r w2 => r = f_drw (f_nz (f_zz F)) ∧ w2 = w_F Z a (f_setz F (f_nz (f_zz F)))) := by
  refine ki_of (by decide) [(0, .ref (a 0))] (Nat.le_of_ble_eq_true rfl) rfl ?_
  intro M e1 e2 K Rt
  subst e1 e2
  refine q_aload_n K 0 dX0_draw_0 rfl ?_
  refine q_aload_n K 0 dX0_draw_1 rfl ?_
  refine q_get (.int (f_zz F)) K ws_X0 0 rfl rfl 7 (by decide) fl_X0_36 rfl dX0_draw_2 ?_
  refine q_ldc K dX0_draw_5 ct_X0_81 ?_
  refine q_imul K dX0_draw_7 ?_
  refine q_sipush 12345 K dX0_draw_8 rfl ?_
  refine q_iadd K dX0_draw_11 ?_
  refine q_topi (fun z1 ez1 => ?_)
  have ez1 : z1 = f_nz (f_zz F) := ez1
  refine q_put (ty := .int) (ws' := w_F (k_Z M) a (f_bs F, f_gs F, f_kd F, f_fd F, f_wy F, f_md F, f_ps F, f_hd F, f_wk F, f_wd F, f_hr F, z1)) K ws_X0 tyX0 tyX0_ok nmX0 0 rfl rfl 7 (by decide) fl_X0_36 rfl (by decide +kernel) rfl rfl (Nat.le_of_ble_eq_true rfl) rfl dX0_draw_12 ?_
  refine q_aload_n K 0 dX0_draw_15 rfl ?_
  refine q_get (.int z1) K ws_X0 0 rfl rfl 7 (by decide) fl_X0_36 rfl dX0_draw_16 ?_
  refine q_bipush 8 K dX0_draw_19 rfl ?_
  refine q_iushr K dX0_draw_21 ?_
  refine q_eqi (f_drw z1) rfl ?_
  exact Rt _ _ (f_drw z1) (w_F (k_Z M) a (f_bs F, f_gs F, f_kd F, f_fd F, f_wy F, f_md F, f_ps F, f_hd F, f_wk F, f_wd F, f_hr F, z1)) dX0_draw_22 rfl (⟨by rw [ez1], by rw [ez1]; rfl⟩)
theorem kv_X0_draw : k_iv yX0_draw cX0_draw 1 (some .int) 0 := ⟨⟨im_X0_draw, se_X0_draw⟩, in_X0, co_X0_draw, by decide +kernel⟩
set_option maxHeartbeats 4000000 in
set_option maxRecDepth 100000 in
theorem c_X0_addWalker (l : Launch) (Z : kz_Z) (a : Nat → Nat) (F : FS) (m : Nat) (hm : m ≤ 8) (hm2 : f_wk F = nI m) (kind field : Int32) : KI l Z yX0_addWalker cX0_addWalker 4 .int 0 0 [.ref (a 0), .int kind, .int field] (w_F Z a F) (fun r w2 => (m = 8 ∧ r = -1 ∧ w2 = w_F Z a F) ∨ (m < 8 ∧ r = nI m ∧ w2 = w_F Z a (f_add F kind field m))) := by
  refine ki_of (by decide) [(0, .ref (a 0)), (1, .int kind), (2, .int field)] (Nat.le_of_ble_eq_true rfl) rfl ?_
  intro M e1 e2 K Rt
  subst e1 e2
  refine q_aload_n K 0 dX0_addWalker_0 rfl ?_
  refine q_get (.int (f_wk F)) K ws_X0 0 rfl rfl 4 (by decide) fl_X0_26 rfl dX0_addWalker_1 ?_
  refine q_eqi (nI m) hm2 ?_
  refine q_bipush 8 K dX0_addWalker_4 rfl ?_
  refine q_icmp_lt 11 K dX0_addWalker_6 (by decide) (fun c_1 => ?_) (fun c_1 => ?_)
  · have c_1n : m < 8 := (nI_ltI (a := m) (b := 8) (by omega) (by omega)).mp c_1
    refine q_aload_n K 0 dX0_addWalker_11 rfl ?_
    refine q_get (.int (f_wk F)) K ws_X0 0 rfl rfl 4 (by decide) fl_X0_26 rfl dX0_addWalker_12 ?_
    refine q_eqi (nI m) hm2 ?_
    refine q_istore_n (lv' := [(3, .int (nI m)), (0, .ref (a 0)), (1, .int kind), (2, .int field)]) K dX0_addWalker_15 (by decide) rfl ?_
    refine q_aload_n K 1 dX0_addWalker_16 rfl ?_
    refine q_dup K dX0_addWalker_17 rfl ?_
    refine q_get (.int (f_wk F)) K ws_X0 0 rfl rfl 4 (by decide) fl_X0_26 rfl dX0_addWalker_18 ?_
    refine q_eqi (nI m) hm2 ?_
    refine q_iconst 1 K dX0_addWalker_21 rfl ?_
    refine q_iadd K dX0_addWalker_22 ?_
    refine q_eqi (nI (m + 1)) (kn_add m 1) ?_
    refine q_put (ty := .int) (ws' := w_F (k_Z M) a (f_bs F, f_gs F, f_kd F, f_fd F, f_wy F, f_md F, f_ps F, f_hd F, nI (m + 1), f_wd F, f_hr F, f_zz F)) K ws_X0 tyX0 tyX0_ok nmX0 0 rfl rfl 4 (by decide) fl_X0_26 rfl (by decide +kernel) rfl rfl (Nat.le_of_ble_eq_true rfl) rfl dX0_addWalker_23 ?_
    refine q_aload_n K 1 dX0_addWalker_26 rfl ?_
    refine q_get (.ref (a 3)) K ws_X0 0 rfl rfl 2 (by decide) fl_X0_20 rfl dX0_addWalker_27 ?_
    refine q_iconst 0 K dX0_addWalker_30 rfl ?_
    refine q_aldg (y := a 5) K 3 rfl (vp_in_nI (n := 0) (N := 5) (by omega) (by omega)) rfl dX0_addWalker_31 ?_
    refine q_iload_n K 0 dX0_addWalker_32 rfl ?_
    refine q_iload_n K 2 dX0_addWalker_33 rfl ?_
    refine q_iast (ws' := w_F (k_Z M) a (f_bs F, f_gs F, upd (f_kd F) m kind, f_fd F, f_wy F, f_md F, f_ps F, f_hd F, nI (m + 1), f_wd F, f_hr F, f_zz F)) K 5 rfl (vp_in_nI (n := m) (N := 8) (by omega) (by omega)) (by rw [nI_clamp (n := m) (by omega)] <;> rfl) dX0_addWalker_34 ?_
    refine q_aload_n K 1 dX0_addWalker_35 rfl ?_
    refine q_get (.ref (a 3)) K ws_X0 0 rfl rfl 2 (by decide) fl_X0_20 rfl dX0_addWalker_36 ?_
    refine q_iconst 1 K dX0_addWalker_39 rfl ?_
    refine q_aldg (y := a 6) K 3 rfl (vp_in_nI (n := 1) (N := 5) (by omega) (by omega)) rfl dX0_addWalker_40 ?_
    refine q_iload_n K 0 dX0_addWalker_41 rfl ?_
    refine q_iload_n K 3 dX0_addWalker_42 rfl ?_
    refine q_iast (ws' := w_F (k_Z M) a (f_bs F, f_gs F, upd (f_kd F) m kind, upd (f_fd F) m field, f_wy F, f_md F, f_ps F, f_hd F, nI (m + 1), f_wd F, f_hr F, f_zz F)) K 6 rfl (vp_in_nI (n := m) (N := 8) (by omega) (by omega)) (by rw [nI_clamp (n := m) (by omega)] <;> rfl) dX0_addWalker_43 ?_
    refine q_aload_n K 1 dX0_addWalker_44 rfl ?_
    refine q_get (.ref (a 3)) K ws_X0 0 rfl rfl 2 (by decide) fl_X0_20 rfl dX0_addWalker_45 ?_
    refine q_iconst 2 K dX0_addWalker_48 rfl ?_
    refine q_aldg (y := a 7) K 3 rfl (vp_in_nI (n := 2) (N := 5) (by omega) (by omega)) rfl dX0_addWalker_49 ?_
    refine q_iload_n K 0 dX0_addWalker_50 rfl ?_
    refine q_iconst 0 K dX0_addWalker_51 rfl ?_
    refine q_iast (ws' := w_F (k_Z M) a (f_bs F, f_gs F, upd (f_kd F) m kind, upd (f_fd F) m field, upd (f_wy F) m 0, f_md F, f_ps F, f_hd F, nI (m + 1), f_wd F, f_hr F, f_zz F)) K 7 rfl (vp_in_nI (n := m) (N := 8) (by omega) (by omega)) (by rw [nI_clamp (n := m) (by omega)] <;> rfl) dX0_addWalker_52 ?_
    refine q_aload_n K 1 dX0_addWalker_53 rfl ?_
    refine q_get (.ref (a 3)) K ws_X0 0 rfl rfl 2 (by decide) fl_X0_20 rfl dX0_addWalker_54 ?_
    refine q_iconst 3 K dX0_addWalker_57 rfl ?_
    refine q_aldg (y := a 8) K 3 rfl (vp_in_nI (n := 3) (N := 5) (by omega) (by omega)) rfl dX0_addWalker_58 ?_
    refine q_iload_n K 0 dX0_addWalker_59 rfl ?_
    refine q_iconst 3 K dX0_addWalker_60 rfl ?_
    refine q_iast (ws' := w_F (k_Z M) a (f_bs F, f_gs F, upd (f_kd F) m kind, upd (f_fd F) m field, upd (f_wy F) m 0, upd (f_md F) m 3, f_ps F, f_hd F, nI (m + 1), f_wd F, f_hr F, f_zz F)) K 8 rfl (vp_in_nI (n := m) (N := 8) (by omega) (by omega)) (by rw [nI_clamp (n := m) (by omega)] <;> rfl) dX0_addWalker_61 ?_
    refine q_aload_n K 1 dX0_addWalker_62 rfl ?_
    refine q_get (.ref (a 3)) K ws_X0 0 rfl rfl 2 (by decide) fl_X0_20 rfl dX0_addWalker_63 ?_
    refine q_iconst 4 K dX0_addWalker_66 rfl ?_
    refine q_aldg (y := a 9) K 3 rfl (vp_in_nI (n := 4) (N := 5) (by omega) (by omega)) rfl dX0_addWalker_67 ?_
    refine q_iload_n K 0 dX0_addWalker_68 rfl ?_
    refine q_iconst 0 K dX0_addWalker_69 rfl ?_
    refine q_iast (ws' := w_F (k_Z M) a (f_bs F, f_gs F, upd (f_kd F) m kind, upd (f_fd F) m field, upd (f_wy F) m 0, upd (f_md F) m 3, upd (f_ps F) m 0, f_hd F, nI (m + 1), f_wd F, f_hr F, f_zz F)) K 9 rfl (vp_in_nI (n := m) (N := 8) (by omega) (by omega)) (by rw [nI_clamp (n := m) (by omega)] <;> rfl) dX0_addWalker_70 ?_
    refine q_iload_n K 0 dX0_addWalker_71 rfl ?_
    exact Rt _ _ (nI m) (w_F (k_Z M) a (f_bs F, f_gs F, upd (f_kd F) m kind, upd (f_fd F) m field, upd (f_wy F) m 0, upd (f_md F) m 3, upd (f_ps F) m 0, f_hd F, nI (m + 1), f_wd F, f_hr F, f_zz F)) dX0_addWalker_72 rfl (Or.inr ⟨by omega, rfl, rfl⟩)
  · have c_1n : ¬ (m < 8) := fun h9 => c_1 ((nI_ltI (a := m) (b := 8) (by omega) (by omega)).mpr h9)
    refine q_iconst (-1) K dX0_addWalker_9 rfl ?_
    exact Rt _ _ (-1) (w_F (k_Z M) a F) dX0_addWalker_10 rfl (Or.inl ⟨by omega, rfl, rfl⟩)
theorem kv_X0_addWalker : k_iv yX0_addWalker cX0_addWalker 4 (some .int) 2 := ⟨⟨im_X0_addWalker, se_X0_addWalker⟩, in_X0, co_X0_addWalker, by decide +kernel⟩
set_option maxHeartbeats 4000000 in
set_option maxRecDepth 100000 in
theorem c_X0_become (l : Launch) (Z : kz_Z) (a b : Nat → Nat) (F G : FS) : KV l Z yX0_become cX0_become 3 1 40 [.ref (a 0), .ref (b 0)] (w_F Z a F ++ (w_F Z b G)) (fun w2 => w2 = w_F Z a G ++ w_F Z b G) := by
  refine kv_of (by decide) [(0, .ref (a 0)), (1, .ref (b 0))] (Nat.le_of_ble_eq_true rfl) rfl ?_
  intro M e1 e2 K Rt
  subst e1 e2
  refine q_aload_n K 1 dX0_become_0 rfl ?_
  refine q_get (.ref (b 1)) K ws_X0 10 rfl rfl 0 (by decide) fl_X0_9 rfl dX0_become_1 ?_
  refine q_iconst 0 K dX0_become_4 rfl ?_
  refine q_aload_n K 0 dX0_become_5 rfl ?_
  refine q_get (.ref (a 1)) K ws_X0 0 rfl rfl 0 (by decide) fl_X0_9 rfl dX0_become_6 ?_
  refine q_iconst 0 K dX0_become_9 rfl ?_
  refine q_bipush 9 K dX0_become_10 rfl ?_
  refine q_copy (ws' := w_F (k_Z M) a (va_cpy (f_bs G) (f_bs F) 0 0 9, f_gs F, f_kd F, f_fd F, f_wy F, f_md F, f_ps F, f_hd F, f_wk F, f_wd F, f_hr F, f_zz F) ++ (w_F (k_Z M) b G)) K ml_X0_39 11 1 rfl rfl (by decide) (by decide) (by decide) (by decide) (by decide) (Nat.le_of_ble_eq_true rfl) (Nat.le_of_ble_eq_true rfl) rfl dX0_become_12 ?_
  refine q_ext (ws' := w_F (k_Z M) a (f_bs G, f_gs F, f_kd F, f_fd F, f_wy F, f_md F, f_ps F, f_hd F, f_wk F, f_wd F, f_hr F, f_zz F) ++ (w_F (k_Z M) b G)) 1 (f_bs G) rfl (fun k hk => kn_cpy hk) rfl ?_
  refine q_aload_n K 1 dX0_become_15 rfl ?_
  refine q_get (.ref (b 2)) K ws_X0 10 rfl rfl 1 (by decide) fl_X0_15 rfl dX0_become_16 ?_
  refine q_iconst 0 K dX0_become_19 rfl ?_
  refine q_aload_n K 0 dX0_become_20 rfl ?_
  refine q_get (.ref (a 2)) K ws_X0 0 rfl rfl 1 (by decide) fl_X0_15 rfl dX0_become_21 ?_
  refine q_iconst 0 K dX0_become_24 rfl ?_
  refine q_bipush 8 K dX0_become_25 rfl ?_
  refine q_copy (ws' := w_F (k_Z M) a (f_bs G, va_cpy (f_gs G) (f_gs F) 0 0 8, f_kd F, f_fd F, f_wy F, f_md F, f_ps F, f_hd F, f_wk F, f_wd F, f_hr F, f_zz F) ++ (w_F (k_Z M) b G)) K ml_X0_39 12 2 rfl rfl (by decide) (by decide) (by decide) (by decide) (by decide) (Nat.le_of_ble_eq_true rfl) (Nat.le_of_ble_eq_true rfl) rfl dX0_become_27 ?_
  refine q_ext (ws' := w_F (k_Z M) a (f_bs G, f_gs G, f_kd F, f_fd F, f_wy F, f_md F, f_ps F, f_hd F, f_wk F, f_wd F, f_hr F, f_zz F) ++ (w_F (k_Z M) b G)) 2 (f_gs G) rfl (fun k hk => kn_cpy hk) rfl ?_
  refine q_iconst 0 K dX0_become_30 rfl ?_
  refine q_istore_n (lv' := [(2, .int 0), (0, .ref (a 0)), (1, .ref (b 0))]) K dX0_become_31 (by decide) rfl ?_
  refine q_iload_n K 0 dX0_become_32 rfl ?_
  refine q_iconst 5 K dX0_become_33 rfl ?_
  refine q_icmp_ge 62 K dX0_become_34 (by decide) (fun c_0 => absurd c_0 (by decide)) (fun c_0 => ?_)
  refine q_aload_n K 2 dX0_become_37 rfl ?_
  refine q_get (.ref (b 3)) K ws_X0 10 rfl rfl 2 (by decide) fl_X0_20 rfl dX0_become_38 ?_
  refine q_iload_n K 0 dX0_become_41 rfl ?_
  refine q_aldg (y := b 5) K 13 rfl (vp_in_nI (n := 0) (N := 5) (by omega) (by omega)) rfl dX0_become_42 ?_
  refine q_iconst 0 K dX0_become_43 rfl ?_
  refine q_aload_n K 1 dX0_become_44 rfl ?_
  refine q_get (.ref (a 3)) K ws_X0 0 rfl rfl 2 (by decide) fl_X0_20 rfl dX0_become_45 ?_
  refine q_iload_n K 0 dX0_become_48 rfl ?_
  refine q_aldg (y := a 5) K 3 rfl (vp_in_nI (n := 0) (N := 5) (by omega) (by omega)) rfl dX0_become_49 ?_
  refine q_iconst 0 K dX0_become_50 rfl ?_
  refine q_bipush 8 K dX0_become_51 rfl ?_
  refine q_copy (ws' := w_F (k_Z M) a (f_bs G, f_gs G, va_cpy (f_kd G) (f_kd F) 0 0 8, f_fd F, f_wy F, f_md F, f_ps F, f_hd F, f_wk F, f_wd F, f_hr F, f_zz F) ++ (w_F (k_Z M) b G)) K ml_X0_39 15 5 rfl rfl (by decide) (by decide) (by decide) (by decide) (by decide) (Nat.le_of_ble_eq_true rfl) (Nat.le_of_ble_eq_true rfl) rfl dX0_become_53 ?_
  refine q_ext (ws' := w_F (k_Z M) a (f_bs G, f_gs G, f_kd G, f_fd F, f_wy F, f_md F, f_ps F, f_hd F, f_wk F, f_wd F, f_hr F, f_zz F) ++ (w_F (k_Z M) b G)) 5 (f_kd G) rfl (fun k hk => kn_cpy hk) rfl ?_
  refine q_iinc 1 (lv' := [(2, .int 1), (0, .ref (a 0)), (1, .ref (b 0))]) K 0 dX0_become_56 rfl rfl (by decide) rfl ?_
  refine q_goto 32 K dX0_become_59 (by decide) ?_
  refine q_iload_n K 0 dX0_become_32 rfl ?_
  refine q_iconst 5 K dX0_become_33 rfl ?_
  refine q_icmp_ge 62 K dX0_become_34 (by decide) (fun c_0 => absurd c_0 (by decide)) (fun c_0 => ?_)
  refine q_aload_n K 2 dX0_become_37 rfl ?_
  refine q_get (.ref (b 3)) K ws_X0 10 rfl rfl 2 (by decide) fl_X0_20 rfl dX0_become_38 ?_
  refine q_iload_n K 0 dX0_become_41 rfl ?_
  refine q_aldg (y := b 6) K 13 rfl (vp_in_nI (n := 1) (N := 5) (by omega) (by omega)) rfl dX0_become_42 ?_
  refine q_iconst 0 K dX0_become_43 rfl ?_
  refine q_aload_n K 1 dX0_become_44 rfl ?_
  refine q_get (.ref (a 3)) K ws_X0 0 rfl rfl 2 (by decide) fl_X0_20 rfl dX0_become_45 ?_
  refine q_iload_n K 0 dX0_become_48 rfl ?_
  refine q_aldg (y := a 6) K 3 rfl (vp_in_nI (n := 1) (N := 5) (by omega) (by omega)) rfl dX0_become_49 ?_
  refine q_iconst 0 K dX0_become_50 rfl ?_
  refine q_bipush 8 K dX0_become_51 rfl ?_
  refine q_copy (ws' := w_F (k_Z M) a (f_bs G, f_gs G, f_kd G, va_cpy (f_fd G) (f_fd F) 0 0 8, f_wy F, f_md F, f_ps F, f_hd F, f_wk F, f_wd F, f_hr F, f_zz F) ++ (w_F (k_Z M) b G)) K ml_X0_39 16 6 rfl rfl (by decide) (by decide) (by decide) (by decide) (by decide) (Nat.le_of_ble_eq_true rfl) (Nat.le_of_ble_eq_true rfl) rfl dX0_become_53 ?_
  refine q_ext (ws' := w_F (k_Z M) a (f_bs G, f_gs G, f_kd G, f_fd G, f_wy F, f_md F, f_ps F, f_hd F, f_wk F, f_wd F, f_hr F, f_zz F) ++ (w_F (k_Z M) b G)) 6 (f_fd G) rfl (fun k hk => kn_cpy hk) rfl ?_
  refine q_iinc 2 (lv' := [(2, .int 2), (0, .ref (a 0)), (1, .ref (b 0))]) K 0 dX0_become_56 rfl rfl (by decide) rfl ?_
  refine q_goto 32 K dX0_become_59 (by decide) ?_
  refine q_iload_n K 0 dX0_become_32 rfl ?_
  refine q_iconst 5 K dX0_become_33 rfl ?_
  refine q_icmp_ge 62 K dX0_become_34 (by decide) (fun c_0 => absurd c_0 (by decide)) (fun c_0 => ?_)
  refine q_aload_n K 2 dX0_become_37 rfl ?_
  refine q_get (.ref (b 3)) K ws_X0 10 rfl rfl 2 (by decide) fl_X0_20 rfl dX0_become_38 ?_
  refine q_iload_n K 0 dX0_become_41 rfl ?_
  refine q_aldg (y := b 7) K 13 rfl (vp_in_nI (n := 2) (N := 5) (by omega) (by omega)) rfl dX0_become_42 ?_
  refine q_iconst 0 K dX0_become_43 rfl ?_
  refine q_aload_n K 1 dX0_become_44 rfl ?_
  refine q_get (.ref (a 3)) K ws_X0 0 rfl rfl 2 (by decide) fl_X0_20 rfl dX0_become_45 ?_
  refine q_iload_n K 0 dX0_become_48 rfl ?_
  refine q_aldg (y := a 7) K 3 rfl (vp_in_nI (n := 2) (N := 5) (by omega) (by omega)) rfl dX0_become_49 ?_
  refine q_iconst 0 K dX0_become_50 rfl ?_
  refine q_bipush 8 K dX0_become_51 rfl ?_
  refine q_copy (ws' := w_F (k_Z M) a (f_bs G, f_gs G, f_kd G, f_fd G, va_cpy (f_wy G) (f_wy F) 0 0 8, f_md F, f_ps F, f_hd F, f_wk F, f_wd F, f_hr F, f_zz F) ++ (w_F (k_Z M) b G)) K ml_X0_39 17 7 rfl rfl (by decide) (by decide) (by decide) (by decide) (by decide) (Nat.le_of_ble_eq_true rfl) (Nat.le_of_ble_eq_true rfl) rfl dX0_become_53 ?_
  refine q_ext (ws' := w_F (k_Z M) a (f_bs G, f_gs G, f_kd G, f_fd G, f_wy G, f_md F, f_ps F, f_hd F, f_wk F, f_wd F, f_hr F, f_zz F) ++ (w_F (k_Z M) b G)) 7 (f_wy G) rfl (fun k hk => kn_cpy hk) rfl ?_
  refine q_iinc 3 (lv' := [(2, .int 3), (0, .ref (a 0)), (1, .ref (b 0))]) K 0 dX0_become_56 rfl rfl (by decide) rfl ?_
  refine q_goto 32 K dX0_become_59 (by decide) ?_
  refine q_iload_n K 0 dX0_become_32 rfl ?_
  refine q_iconst 5 K dX0_become_33 rfl ?_
  refine q_icmp_ge 62 K dX0_become_34 (by decide) (fun c_0 => absurd c_0 (by decide)) (fun c_0 => ?_)
  refine q_aload_n K 2 dX0_become_37 rfl ?_
  refine q_get (.ref (b 3)) K ws_X0 10 rfl rfl 2 (by decide) fl_X0_20 rfl dX0_become_38 ?_
  refine q_iload_n K 0 dX0_become_41 rfl ?_
  refine q_aldg (y := b 8) K 13 rfl (vp_in_nI (n := 3) (N := 5) (by omega) (by omega)) rfl dX0_become_42 ?_
  refine q_iconst 0 K dX0_become_43 rfl ?_
  refine q_aload_n K 1 dX0_become_44 rfl ?_
  refine q_get (.ref (a 3)) K ws_X0 0 rfl rfl 2 (by decide) fl_X0_20 rfl dX0_become_45 ?_
  refine q_iload_n K 0 dX0_become_48 rfl ?_
  refine q_aldg (y := a 8) K 3 rfl (vp_in_nI (n := 3) (N := 5) (by omega) (by omega)) rfl dX0_become_49 ?_
  refine q_iconst 0 K dX0_become_50 rfl ?_
  refine q_bipush 8 K dX0_become_51 rfl ?_
  refine q_copy (ws' := w_F (k_Z M) a (f_bs G, f_gs G, f_kd G, f_fd G, f_wy G, va_cpy (f_md G) (f_md F) 0 0 8, f_ps F, f_hd F, f_wk F, f_wd F, f_hr F, f_zz F) ++ (w_F (k_Z M) b G)) K ml_X0_39 18 8 rfl rfl (by decide) (by decide) (by decide) (by decide) (by decide) (Nat.le_of_ble_eq_true rfl) (Nat.le_of_ble_eq_true rfl) rfl dX0_become_53 ?_
  refine q_ext (ws' := w_F (k_Z M) a (f_bs G, f_gs G, f_kd G, f_fd G, f_wy G, f_md G, f_ps F, f_hd F, f_wk F, f_wd F, f_hr F, f_zz F) ++ (w_F (k_Z M) b G)) 8 (f_md G) rfl (fun k hk => kn_cpy hk) rfl ?_
  refine q_iinc 4 (lv' := [(2, .int 4), (0, .ref (a 0)), (1, .ref (b 0))]) K 0 dX0_become_56 rfl rfl (by decide) rfl ?_
  refine q_goto 32 K dX0_become_59 (by decide) ?_
  refine q_iload_n K 0 dX0_become_32 rfl ?_
  refine q_iconst 5 K dX0_become_33 rfl ?_
  refine q_icmp_ge 62 K dX0_become_34 (by decide) (fun c_0 => absurd c_0 (by decide)) (fun c_0 => ?_)
  refine q_aload_n K 2 dX0_become_37 rfl ?_
  refine q_get (.ref (b 3)) K ws_X0 10 rfl rfl 2 (by decide) fl_X0_20 rfl dX0_become_38 ?_
  refine q_iload_n K 0 dX0_become_41 rfl ?_
  refine q_aldg (y := b 9) K 13 rfl (vp_in_nI (n := 4) (N := 5) (by omega) (by omega)) rfl dX0_become_42 ?_
  refine q_iconst 0 K dX0_become_43 rfl ?_
  refine q_aload_n K 1 dX0_become_44 rfl ?_
  refine q_get (.ref (a 3)) K ws_X0 0 rfl rfl 2 (by decide) fl_X0_20 rfl dX0_become_45 ?_
  refine q_iload_n K 0 dX0_become_48 rfl ?_
  refine q_aldg (y := a 9) K 3 rfl (vp_in_nI (n := 4) (N := 5) (by omega) (by omega)) rfl dX0_become_49 ?_
  refine q_iconst 0 K dX0_become_50 rfl ?_
  refine q_bipush 8 K dX0_become_51 rfl ?_
  refine q_copy (ws' := w_F (k_Z M) a (f_bs G, f_gs G, f_kd G, f_fd G, f_wy G, f_md G, va_cpy (f_ps G) (f_ps F) 0 0 8, f_hd F, f_wk F, f_wd F, f_hr F, f_zz F) ++ (w_F (k_Z M) b G)) K ml_X0_39 19 9 rfl rfl (by decide) (by decide) (by decide) (by decide) (by decide) (Nat.le_of_ble_eq_true rfl) (Nat.le_of_ble_eq_true rfl) rfl dX0_become_53 ?_
  refine q_ext (ws' := w_F (k_Z M) a (f_bs G, f_gs G, f_kd G, f_fd G, f_wy G, f_md G, f_ps G, f_hd F, f_wk F, f_wd F, f_hr F, f_zz F) ++ (w_F (k_Z M) b G)) 9 (f_ps G) rfl (fun k hk => kn_cpy hk) rfl ?_
  refine q_iinc 5 (lv' := [(2, .int 5), (0, .ref (a 0)), (1, .ref (b 0))]) K 0 dX0_become_56 rfl rfl (by decide) rfl ?_
  refine q_goto 32 K dX0_become_59 (by decide) ?_
  refine q_iload_n K 0 dX0_become_32 rfl ?_
  refine q_iconst 5 K dX0_become_33 rfl ?_
  refine q_icmp_ge 62 K dX0_become_34 (by decide) (fun c_0 => ?_) (fun c_0 => absurd c_0 (by decide))
  refine q_aload_n K 2 dX0_become_62 rfl ?_
  refine q_get (.ref (b 4)) K ws_X0 10 rfl rfl 3 (by decide) fl_X0_23 rfl dX0_become_63 ?_
  refine q_iconst 0 K dX0_become_66 rfl ?_
  refine q_aload_n K 1 dX0_become_67 rfl ?_
  refine q_get (.ref (a 4)) K ws_X0 0 rfl rfl 3 (by decide) fl_X0_23 rfl dX0_become_68 ?_
  refine q_iconst 0 K dX0_become_71 rfl ?_
  refine q_bipush 10 K dX0_become_72 rfl ?_
  refine q_copy (ws' := w_F (k_Z M) a (f_bs G, f_gs G, f_kd G, f_fd G, f_wy G, f_md G, f_ps G, va_cpy (f_hd G) (f_hd F) 0 0 10, f_wk F, f_wd F, f_hr F, f_zz F) ++ (w_F (k_Z M) b G)) K ml_X0_39 14 4 rfl rfl (by decide) (by decide) (by decide) (by decide) (by decide) (Nat.le_of_ble_eq_true rfl) (Nat.le_of_ble_eq_true rfl) rfl dX0_become_74 ?_
  refine q_ext (ws' := w_F (k_Z M) a (f_bs G, f_gs G, f_kd G, f_fd G, f_wy G, f_md G, f_ps G, f_hd G, f_wk F, f_wd F, f_hr F, f_zz F) ++ (w_F (k_Z M) b G)) 4 (f_hd G) rfl (fun k hk => kn_cpy hk) rfl ?_
  refine q_aload_n K 1 dX0_become_77 rfl ?_
  refine q_aload_n K 2 dX0_become_78 rfl ?_
  refine q_get (.int (f_wk G)) K ws_X0 10 rfl rfl 4 (by decide) fl_X0_26 rfl dX0_become_79 ?_
  refine q_put (ty := .int) (ws' := w_F (k_Z M) a (f_bs G, f_gs G, f_kd G, f_fd G, f_wy G, f_md G, f_ps G, f_hd G, f_wk G, f_wd F, f_hr F, f_zz F) ++ (w_F (k_Z M) b G)) K ws_X0 tyX0 tyX0_ok nmX0 0 rfl rfl 4 (by decide) fl_X0_26 rfl (by decide +kernel) rfl rfl (Nat.le_of_ble_eq_true rfl) rfl dX0_become_82 ?_
  refine q_aload_n K 1 dX0_become_85 rfl ?_
  refine q_aload_n K 2 dX0_become_86 rfl ?_
  refine q_get (.int (f_wd G)) K ws_X0 10 rfl rfl 5 (by decide) fl_X0_30 rfl dX0_become_87 ?_
  refine q_put (ty := .int) (ws' := w_F (k_Z M) a (f_bs G, f_gs G, f_kd G, f_fd G, f_wy G, f_md G, f_ps G, f_hd G, f_wk G, f_wd G, f_hr F, f_zz F) ++ (w_F (k_Z M) b G)) K ws_X0 tyX0 tyX0_ok nmX0 0 rfl rfl 5 (by decide) fl_X0_30 rfl (by decide +kernel) rfl rfl (Nat.le_of_ble_eq_true rfl) rfl dX0_become_90 ?_
  refine q_aload_n K 1 dX0_become_93 rfl ?_
  refine q_aload_n K 2 dX0_become_94 rfl ?_
  refine q_get (.int (f_hr G)) K ws_X0 10 rfl rfl 6 (by decide) fl_X0_33 rfl dX0_become_95 ?_
  refine q_put (ty := .int) (ws' := w_F (k_Z M) a (f_bs G, f_gs G, f_kd G, f_fd G, f_wy G, f_md G, f_ps G, f_hd G, f_wk G, f_wd G, f_hr G, f_zz F) ++ (w_F (k_Z M) b G)) K ws_X0 tyX0 tyX0_ok nmX0 0 rfl rfl 6 (by decide) fl_X0_33 rfl (by decide +kernel) rfl rfl (Nat.le_of_ble_eq_true rfl) rfl dX0_become_98 ?_
  refine q_aload_n K 1 dX0_become_101 rfl ?_
  refine q_aload_n K 2 dX0_become_102 rfl ?_
  refine q_get (.int (f_zz G)) K ws_X0 10 rfl rfl 7 (by decide) fl_X0_36 rfl dX0_become_103 ?_
  refine q_put (ty := .int) (ws' := w_F (k_Z M) a (f_bs G, f_gs G, f_kd G, f_fd G, f_wy G, f_md G, f_ps G, f_hd G, f_wk G, f_wd G, f_hr G, f_zz G) ++ (w_F (k_Z M) b G)) K ws_X0 tyX0 tyX0_ok nmX0 0 rfl rfl 7 (by decide) fl_X0_36 rfl (by decide +kernel) rfl rfl (Nat.le_of_ble_eq_true rfl) rfl dX0_become_106 ?_
  exact Rt _ _ (w_F (k_Z M) a (f_bs G, f_gs G, f_kd G, f_fd G, f_wy G, f_md G, f_ps G, f_hd G, f_wk G, f_wd G, f_hr G, f_zz G) ++ (w_F (k_Z M) b G)) dX0_become_109 (rfl)
theorem kv_X0_become : k_iv yX0_become cX0_become 3 none 1 := ⟨⟨im_X0_become, se_X0_become⟩, in_X0, co_X0_become, by decide +kernel⟩
set_option maxHeartbeats 4000000 in
set_option maxRecDepth 100000 in
theorem c_X0_standsAsTold (l : Launch) (Z : kz_Z) (a b : Nat → Nat) (F : FS) (S : SS) (z : Nat) (hz : z ≤ 40) (hz2 : s_sz S = nI z) : KI l Z yX0_standsAsTold cX0_standsAsTold 3 .boolean 0 0 [.ref (a 0), .ref (b 0)] (w_F Z a F ++ (w_S Z b S)) (fun r w2 => r = (if f_told (s_nm S) (f_gs F) (min z 8) = true then 1 else 0) ∧ w2 = w_F Z a F ++ w_S Z b S) := by
  refine ki_of (by decide) [(0, .ref (a 0)), (1, .ref (b 0))] (Nat.le_of_ble_eq_true rfl) rfl ?_
  intro M e1 e2 K Rt
  subst e1 e2
  refine q_iconst 0 K dX0_standsAsTold_0 rfl ?_
  refine q_istore_n (lv' := [(2, .int 0), (0, .ref (a 0)), (1, .ref (b 0))]) K dX0_standsAsTold_1 (by decide) rfl ?_
  refine q_loop (α := Nat) (fun n9 i => (i + n9 = min z 8) ∧ f_told (s_nm S) (f_gs F) i = true) 2 (fun i => [(2, .int (nI i)), (0, .ref (a 0)), (1, .ref (b 0))]) (fun i => w_F (k_Z M) a F ++ (w_S (k_Z M) b S)) (fun n_1 i hI_2 ih_3 => ?_) (min z 8) 0 ⟨by omega, rfl⟩
  obtain ⟨hI, hT⟩ := hI_2
  refine q_iload_n K 0 dX0_standsAsTold_2 rfl ?_
  refine q_aload_n K 2 dX0_standsAsTold_3 rfl ?_
  refine q_get (.int (s_sz S)) K ws_X1 10 rfl rfl 2 (by decide) fl_X0_82 rfl dX0_standsAsTold_4 ?_
  refine q_eqi (nI z) hz2 ?_
  refine q_icmp_ge 49 K dX0_standsAsTold_7 (by decide) (fun c_4 => ?_) (fun c_4 => ?_)
  · have c_4n : z ≤ i := (nI_leI (a := z) (b := i) (by omega) (by omega)).mp c_4
    refine q_iconst 1 K dX0_standsAsTold_49 rfl ?_
    exact Rt _ _ 1 (w_F (k_Z M) a F ++ (w_S (k_Z M) b S)) dX0_standsAsTold_50 rfl (⟨(if_pos (by rw [show min z 8 = i by omega]; exact hT)).symm, rfl⟩)
  · have c_4n : ¬ (z ≤ i) := fun h9 => c_4 ((nI_leI (a := z) (b := i) (by omega) (by omega)).mpr h9)
    refine q_iload_n K 0 dX0_standsAsTold_10 rfl ?_
    refine q_bipush 8 K dX0_standsAsTold_11 rfl ?_
    refine q_icmp_ge 49 K dX0_standsAsTold_13 (by decide) (fun c_5 => ?_) (fun c_5 => ?_)
    · have c_5n : 8 ≤ i := (nI_leI (a := 8) (b := i) (by omega) (by omega)).mp c_5
      refine q_iconst 1 K dX0_standsAsTold_49 rfl ?_
      exact Rt _ _ 1 (w_F (k_Z M) a F ++ (w_S (k_Z M) b S)) dX0_standsAsTold_50 rfl (⟨(if_pos (by rw [show min z 8 = i by omega]; exact hT)).symm, rfl⟩)
    · have c_5n : ¬ (8 ≤ i) := fun h9 => c_5 ((nI_leI (a := 8) (b := i) (by omega) (by omega)).mpr h9)
      refine q_aload_n K 2 dX0_standsAsTold_16 rfl ?_
      refine q_get (.ref (b 1)) K ws_X1 10 rfl rfl 0 (by decide) fl_X0_87 rfl dX0_standsAsTold_17 ?_
      refine q_iload_n K 0 dX0_standsAsTold_20 rfl ?_
      refine q_iald K 11 rfl (vp_in_nI (n := i) (N := 40) (by omega) (by omega)) dX0_standsAsTold_21 ?_
      refine q_eqi ((s_nm S) i) (by rw [nI_clamp (n := i) (by omega)]) ?_
      refine q_iconst (-1) K dX0_standsAsTold_22 rfl ?_
      refine q_icmp_eq 43 K dX0_standsAsTold_23 (by decide) (fun c_6 => ?_) (fun c_6 => ?_)
      · refine q_iinc (nI (i + 1)) (lv' := [(2, .int (nI (i + 1))), (0, .ref (a 0)), (1, .ref (b 0))]) K 0 dX0_standsAsTold_43 rfl (kn_inc i) (by decide) rfl ?_
        refine q_goto 2 K dX0_standsAsTold_46 (by decide) ?_
        exact ih_3 (n_1 - 1) (i + 1) (by omega) ⟨by omega, by rw [f_told, hT, decide_eq_true c_6]; simp⟩
      · refine q_aload_n K 2 dX0_standsAsTold_26 rfl ?_
        refine q_get (.ref (b 1)) K ws_X1 10 rfl rfl 0 (by decide) fl_X0_87 rfl dX0_standsAsTold_27 ?_
        refine q_iload_n K 0 dX0_standsAsTold_30 rfl ?_
        refine q_iald K 11 rfl (vp_in_nI (n := i) (N := 40) (by omega) (by omega)) dX0_standsAsTold_31 ?_
        refine q_eqi ((s_nm S) i) (by rw [nI_clamp (n := i) (by omega)]) ?_
        refine q_aload_n K 1 dX0_standsAsTold_32 rfl ?_
        refine q_get (.ref (a 2)) K ws_X0 0 rfl rfl 1 (by decide) fl_X0_15 rfl dX0_standsAsTold_33 ?_
        refine q_iload_n K 0 dX0_standsAsTold_36 rfl ?_
        refine q_iald K 2 rfl (vp_in_nI (n := i) (N := 8) (by omega) (by omega)) dX0_standsAsTold_37 ?_
        refine q_eqi ((f_gs F) i) (by rw [nI_clamp (n := i) (by omega)]) ?_
        refine q_icmp_eq 43 K dX0_standsAsTold_38 (by decide) (fun c_7 => ?_) (fun c_7 => ?_)
        · refine q_iinc (nI (i + 1)) (lv' := [(2, .int (nI (i + 1))), (0, .ref (a 0)), (1, .ref (b 0))]) K 0 dX0_standsAsTold_43 rfl (kn_inc i) (by decide) rfl ?_
          refine q_goto 2 K dX0_standsAsTold_46 (by decide) ?_
          exact ih_3 (n_1 - 1) (i + 1) (by omega) ⟨by omega, by rw [f_told, hT, decide_eq_true c_7]; simp⟩
        · refine q_iconst 0 K dX0_standsAsTold_41 rfl ?_
          exact Rt _ _ 0 (w_F (k_Z M) a F ++ (w_S (k_Z M) b S)) dX0_standsAsTold_42 rfl (⟨(if_neg (by rw [f_told_no c_6 c_7 (min z 8) (by omega)]; decide)).symm, rfl⟩)
theorem kv_X0_standsAsTold : k_iv yX0_standsAsTold cX0_standsAsTold 3 (some .boolean) 1 := ⟨⟨im_X0_standsAsTold, se_X0_standsAsTold⟩, in_X0, co_X0_standsAsTold, by decide +kernel⟩
