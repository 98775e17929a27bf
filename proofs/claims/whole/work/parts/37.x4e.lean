set_option maxHeartbeats 4000000 in
set_option maxRecDepth 100000 in
theorem c_X4_beastsAll (l : Launch) (Z : kz_Z) (B : Nat → Nat) (X : AS) (D : DJ) : KI l Z yX4_beastsAll cX4_beastsAll 3 .int 0 0 [.ref (B 0)] (w_M Z B X D) (fun r w2 => r = f_sumb (a_F X) 9 ∧ w2 = w_M Z B X D) := by
  refine ki_of (by decide) [(0, .ref (B 0))] (Nat.le_of_ble_eq_true rfl) rfl ?_
  intro M e1 e2 K Rt
  subst e1 e2
  refine q_iconst 0 K dX4_beastsAll_0 rfl ?_
  refine q_istore_n (lv' := [(1, .int 0), (0, .ref (B 0))]) K dX4_beastsAll_1 (by decide) rfl ?_
  refine q_iconst 0 K dX4_beastsAll_2 rfl ?_
  refine q_istore_n (lv' := [(2, .int 0), (1, .int 0), (0, .ref (B 0))]) K dX4_beastsAll_3 (by decide) rfl ?_
  refine q_loop (α := Nat) (fun n9 g => g + n9 = 9) 4 (fun g => [(2, .int (nI g)), (1, .int (f_sumb (a_F X) g)), (0, .ref (B 0))]) (fun g => w_M (k_Z M) B X D) (fun n_1 g hI_2 ih_3 => ?_) 9 0 (by omega)
  refine q_iload_n K 0 dX4_beastsAll_4 rfl ?_
  refine q_bipush 9 K dX4_beastsAll_5 rfl ?_
  refine q_icmp_ge 27 K dX4_beastsAll_7 (by decide) (fun c_4 => ?_) (fun c_4 => ?_)
  · have c_4n : 9 ≤ g := (nI_leI (a := 9) (b := g) (by omega) (by omega)).mp c_4
    refine q_iload_n K 1 dX4_beastsAll_27 rfl ?_
    exact Rt _ _ (f_sumb (a_F X) g) (w_M (k_Z M) B X D) dX4_beastsAll_28 rfl (⟨by rw [show g = 9 by omega], rfl⟩)
  · have c_4n : ¬ (9 ≤ g) := fun h9 => c_4 ((nI_leI (a := 9) (b := g) (by omega) (by omega)).mpr h9)
    refine q_iload_n K 1 dX4_beastsAll_10 rfl ?_
    refine q_aload_n K 2 dX4_beastsAll_11 rfl ?_
    refine q_get (.ref (B 1)) K ws_X4 0 rfl rfl 0 (by decide) fl_X4_7 rfl dX4_beastsAll_12 ?_
    refine q_iconst 4 K dX4_beastsAll_15 rfl ?_
    refine q_iload_n K 0 dX4_beastsAll_16 rfl ?_
    refine q_iadd K dX4_beastsAll_17 ?_
    refine q_eqi (nI (4 + g)) (kn_add 4 g) ?_
    refine q_iald K 1 rfl (vp_in_nI (n := 4 + g) (N := 71) (by omega) (by omega)) dX4_beastsAll_18 ?_
    refine q_eqi (f_bs (a_F X) g) (by rw [nI_clamp (n := 4 + g) (by omega)]; exact rw_bs _ (by omega)) ?_
    refine q_iadd K dX4_beastsAll_19 ?_
    refine q_istore_n (lv' := [(1, .int ((f_sumb (a_F X) g) + (f_bs (a_F X) g))), (2, .int (nI g)), (0, .ref (B 0))]) K dX4_beastsAll_20 (by decide) rfl ?_
    refine q_iinc (nI (g + 1)) (lv' := [(2, .int (nI (g + 1))), (1, .int ((f_sumb (a_F X) g) + (f_bs (a_F X) g))), (0, .ref (B 0))]) K 1 dX4_beastsAll_21 rfl (kn_inc g) (by decide) rfl ?_
    refine q_goto 4 K dX4_beastsAll_24 (by decide) ?_
    rw [show (f_sumb (a_F X) g) + (f_bs (a_F X) g) = f_sumb (a_F X) (g + 1) from rfl]
    exact ih_3 (n_1 - 1) (g + 1) (by omega) (by omega)
theorem kv_X4_beastsAll : k_iv yX4_beastsAll cX4_beastsAll 3 (some .int) 0 := ⟨⟨im_X4_beastsAll, se_X4_beastsAll⟩, in_X4, co_X4_beastsAll, by decide +kernel⟩
set_option maxHeartbeats 4000000 in
set_option maxRecDepth 100000 in
theorem c_X4_notShut (l : Launch) (Z : kz_Z) (B : Nat → Nat) (X : AS) (D : DJ) : KI l Z yX4_notShut cX4_notShut 3 .int 0 0 [.ref (B 0)] (w_M Z B X D) (fun r w2 => r = f_ns (a_F X) 8 ∧ w2 = w_M Z B X D) := by
  refine ki_of (by decide) [(0, .ref (B 0))] (Nat.le_of_ble_eq_true rfl) rfl ?_
  intro M e1 e2 K Rt
  subst e1 e2
  refine q_iconst 0 K dX4_notShut_0 rfl ?_
  refine q_istore_n (lv' := [(1, .int 0), (0, .ref (B 0))]) K dX4_notShut_1 (by decide) rfl ?_
  refine q_iconst 0 K dX4_notShut_2 rfl ?_
  refine q_istore_n (lv' := [(2, .int 0), (1, .int 0), (0, .ref (B 0))]) K dX4_notShut_3 (by decide) rfl ?_
  refine q_loop (α := Nat) (fun n9 g => g + n9 = 8) 4 (fun g => [(2, .int (nI g)), (1, .int (f_ns (a_F X) g)), (0, .ref (B 0))]) (fun g => w_M (k_Z M) B X D) (fun n_1 g hI_2 ih_3 => ?_) 8 0 (by omega)
  refine q_iload_n K 0 dX4_notShut_4 rfl ?_
  refine q_bipush 8 K dX4_notShut_5 rfl ?_
  refine q_icmp_ge 38 K dX4_notShut_7 (by decide) (fun c_4 => ?_) (fun c_4 => ?_)
  · have c_4n : 8 ≤ g := (nI_leI (a := 8) (b := g) (by omega) (by omega)).mp c_4
    refine q_iload_n K 1 dX4_notShut_38 rfl ?_
    exact Rt _ _ (f_ns (a_F X) g) (w_M (k_Z M) B X D) dX4_notShut_39 rfl (⟨by rw [show g = 8 by omega], rfl⟩)
  · have c_4n : ¬ (8 ≤ g) := fun h9 => c_4 ((nI_leI (a := 8) (b := g) (by omega) (by omega)).mpr h9)
    refine q_iload_n K 1 dX4_notShut_10 rfl ?_
    refine q_aload_n K 2 dX4_notShut_11 rfl ?_
    refine q_get (.ref (B 1)) K ws_X4 0 rfl rfl 0 (by decide) fl_X4_7 rfl dX4_notShut_12 ?_
    refine q_bipush 13 K dX4_notShut_15 rfl ?_
    refine q_iload_n K 0 dX4_notShut_17 rfl ?_
    refine q_iadd K dX4_notShut_18 ?_
    refine q_eqi (nI (13 + g)) (kn_add 13 g) ?_
    refine q_iald K 1 rfl (vp_in_nI (n := 13 + g) (N := 71) (by omega) (by omega)) dX4_notShut_19 ?_
    refine q_eqi (f_gs (a_F X) g) (by rw [nI_clamp (n := 13 + g) (by omega)]; exact rw_gs _ (by omega)) ?_
    refine q_if_ne 27 K dX4_notShut_20 (by decide) (fun c_5 => ?_) (fun c_5 => ?_)
    · refine q_iconst 1 K dX4_notShut_27 rfl ?_
      refine q_iload_n K 0 dX4_notShut_28 rfl ?_
      refine q_ishl K dX4_notShut_29 ?_
      refine q_ior K dX4_notShut_30 ?_
      refine q_istore_n (lv' := [(1, .int ((f_ns (a_F X) g) ||| (1 <<< ((nI g) &&& 31)))), (2, .int (nI g)), (0, .ref (B 0))]) K dX4_notShut_31 (by decide) rfl ?_
      refine q_iinc (nI (g + 1)) (lv' := [(2, .int (nI (g + 1))), (1, .int ((f_ns (a_F X) g) ||| (1 <<< ((nI g) &&& 31)))), (0, .ref (B 0))]) K 1 dX4_notShut_32 rfl (kn_inc g) (by decide) rfl ?_
      refine q_goto 4 K dX4_notShut_35 (by decide) ?_
      rw [show (f_ns (a_F X) g) ||| (1 <<< ((nI g) &&& 31)) = f_ns (a_F X) (g + 1) by simp only [f_ns, if_neg c_5, Int32.or_zero]]
      exact ih_3 (n_1 - 1) (g + 1) (by omega) (by omega)
    · refine q_iconst 0 K dX4_notShut_23 rfl ?_
      refine q_goto 30 K dX4_notShut_24 (by decide) ?_
      refine q_ior K dX4_notShut_30 ?_
      refine q_istore_n (lv' := [(1, .int ((f_ns (a_F X) g) ||| 0)), (2, .int (nI g)), (0, .ref (B 0))]) K dX4_notShut_31 (by decide) rfl ?_
      refine q_iinc (nI (g + 1)) (lv' := [(2, .int (nI (g + 1))), (1, .int ((f_ns (a_F X) g) ||| 0)), (0, .ref (B 0))]) K 1 dX4_notShut_32 rfl (kn_inc g) (by decide) rfl ?_
      refine q_goto 4 K dX4_notShut_35 (by decide) ?_
      rw [show (f_ns (a_F X) g) ||| 0 = f_ns (a_F X) (g + 1) by simp only [f_ns, if_pos c_5, Int32.or_zero]]
      exact ih_3 (n_1 - 1) (g + 1) (by omega) (by omega)
theorem kv_X4_notShut : k_iv yX4_notShut cX4_notShut 3 (some .int) 0 := ⟨⟨im_X4_notShut, se_X4_notShut⟩, in_X4, co_X4_notShut, by decide +kernel⟩
set_option maxHeartbeats 4000000 in
set_option maxRecDepth 100000 in
theorem c_X4_passedAll (l : Launch) (Z : kz_Z) (B : Nat → Nat) (X : AS) (D : DJ) (m : Nat) (hm : m ≤ 8) (hm2 : f_wk (a_F X) = nI m) : KI l Z yX4_passedAll cX4_passedAll 3 .int 1 22 [.ref (B 0)] (w_M Z B X D) (fun r w2 => r = f_sump (a_F X) m ∧ w2 = w_M Z B X D) := by
  refine ki_of (by decide) [(0, .ref (B 0))] (Nat.le_of_ble_eq_true rfl) rfl ?_
  intro M e1 e2 K Rt
  subst e1 e2
  refine q_iconst 0 K dX4_passedAll_0 rfl ?_
  refine q_istore_n (lv' := [(1, .int 0), (0, .ref (B 0))]) K dX4_passedAll_1 (by decide) rfl ?_
  refine q_iconst 0 K dX4_passedAll_2 rfl ?_
  refine q_istore_n (lv' := [(2, .int 0), (1, .int 0), (0, .ref (B 0))]) K dX4_passedAll_3 (by decide) rfl ?_
  refine q_loop (α := Nat) (fun n9 g => g + n9 = m) 4 (fun g => [(2, .int (nI g)), (1, .int (f_sump (a_F X) g)), (0, .ref (B 0))]) (fun g => w_M (k_Z M) B X D) (fun n_1 g hI_2 ih_3 => ?_) m 0 (by omega)
  refine q_iload_n K 0 dX4_passedAll_4 rfl ?_
  refine q_aload_n K 2 dX4_passedAll_5 rfl ?_
  refine q_get (.ref (B 1)) K ws_X4 0 rfl rfl 0 (by decide) fl_X4_7 rfl dX4_passedAll_6 ?_
  refine q_iconst 0 K dX4_passedAll_9 rfl ?_
  refine q_iald K 1 rfl (vp_in_nI (n := 0) (N := 71) (by omega) (by omega)) dX4_passedAll_10 ?_
  refine q_eqi (f_wk (a_F X)) rfl ?_
  refine q_eqi (nI m) hm2 ?_
  refine q_icmp_ge 29 K dX4_passedAll_11 (by decide) (fun c_4 => ?_) (fun c_4 => ?_)
  · have c_4n : m ≤ g := (nI_leI (a := m) (b := g) (by omega) (by omega)).mp c_4
    refine q_iload_n K 1 dX4_passedAll_29 rfl ?_
    exact Rt _ _ (f_sump (a_F X) g) (w_M (k_Z M) B X D) dX4_passedAll_30 rfl (⟨by rw [show g = m by omega], rfl⟩)
  · have c_4n : ¬ (m ≤ g) := fun h9 => c_4 ((nI_leI (a := m) (b := g) (by omega) (by omega)).mpr h9)
    refine q_iload_n K 1 dX4_passedAll_14 rfl ?_
    refine q_aload_n K 2 dX4_passedAll_15 rfl ?_
    refine q_iload_n K 0 dX4_passedAll_16 rfl ?_
    refine q_iconst 4 K dX4_passedAll_17 rfl ?_
    refine q_wI (q0 := 0) (As := [.int (nI g), .int 4]) (rest := [.int (f_sump (a_F X) g)]) K kv_X4_its (c_X4_its (k_l M) (k_Z M) B X D g 4 (by omega) (by omega)) rfl rfl ml_X4_62 rfl rfl (Nat.le_of_ble_eq_true rfl) ⟨Nat.le_of_ble_eq_true rfl, Nat.le_of_ble_eq_true rfl⟩ dX4_passedAll_18 (fun r_6 w2 h_5 => ?_)
    obtain ⟨e_r_6, rfl⟩ := h_5
    refine q_eqi (f_ps (a_F X) g) e_r_6 ?_
    refine q_iadd K dX4_passedAll_21 ?_
    refine q_istore_n (lv' := [(1, .int ((f_sump (a_F X) g) + (f_ps (a_F X) g))), (2, .int (nI g)), (0, .ref (B 0))]) K dX4_passedAll_22 (by decide) rfl ?_
    refine q_iinc (nI (g + 1)) (lv' := [(2, .int (nI (g + 1))), (1, .int ((f_sump (a_F X) g) + (f_ps (a_F X) g))), (0, .ref (B 0))]) K 1 dX4_passedAll_23 rfl (kn_inc g) (by decide) rfl ?_
    refine q_goto 4 K dX4_passedAll_26 (by decide) ?_
    rw [show (f_sump (a_F X) g) + (f_ps (a_F X) g) = f_sump (a_F X) (g + 1) from rfl]
    exact ih_3 (n_1 - 1) (g + 1) (by omega) (by omega)
theorem kv_X4_passedAll : k_iv yX4_passedAll cX4_passedAll 3 (some .int) 0 := ⟨⟨im_X4_passedAll, se_X4_passedAll⟩, in_X4, co_X4_passedAll, by decide +kernel⟩
set_option maxHeartbeats 4000000 in
set_option maxRecDepth 100000 in
theorem c_X4_fullest (l : Launch) (Z : kz_Z) (B : Nat → Nat) (X : AS) (D : DJ) : KI l Z yX4_fullest cX4_fullest 3 .int 0 0 [.ref (B 0)] (w_M Z B X D) (fun r w2 => r = nI (f_best (a_F X) 8) ∧ w2 = w_M Z B X D) := by
  refine ki_of (by decide) [(0, .ref (B 0))] (Nat.le_of_ble_eq_true rfl) rfl ?_
  intro M e1 e2 K Rt
  subst e1 e2
  refine q_iconst 0 K dX4_fullest_0 rfl ?_
  refine q_istore_n (lv' := [(1, .int 0), (0, .ref (B 0))]) K dX4_fullest_1 (by decide) rfl ?_
  refine q_iconst 1 K dX4_fullest_2 rfl ?_
  refine q_istore_n (lv' := [(2, .int 1), (1, .int 0), (0, .ref (B 0))]) K dX4_fullest_3 (by decide) rfl ?_
  refine q_loop (α := Nat) (fun n9 g => g + n9 = 8) 4 (fun g => [(2, .int (nI (g + 1))), (1, .int (nI (f_best (a_F X) g))), (0, .ref (B 0))]) (fun g => w_M (k_Z M) B X D) (fun n_1 g hI_2 ih_3 => ?_) 8 0 rfl
  have hbt := f_best_le (a_F X) g
  refine q_iload_n K 0 dX4_fullest_4 rfl ?_
  refine q_bipush 9 K dX4_fullest_5 rfl ?_
  refine q_icmp_ge 41 K dX4_fullest_7 (by decide) (fun c_4 => ?_) (fun c_4 => ?_)
  · have c_4n : 9 ≤ g + 1 := (nI_leI (a := 9) (b := g + 1) (by omega) (by omega)).mp c_4
    refine q_iload_n K 1 dX4_fullest_41 rfl ?_
    exact Rt _ _ (nI (f_best (a_F X) g)) (w_M (k_Z M) B X D) dX4_fullest_42 rfl (⟨by rw [show g = 8 by omega], rfl⟩)
  · have c_4n : ¬ (9 ≤ g + 1) := fun h9 => c_4 ((nI_leI (a := 9) (b := g + 1) (by omega) (by omega)).mpr h9)
    refine q_aload_n K 2 dX4_fullest_10 rfl ?_
    refine q_get (.ref (B 1)) K ws_X4 0 rfl rfl 0 (by decide) fl_X4_7 rfl dX4_fullest_11 ?_
    refine q_iconst 4 K dX4_fullest_14 rfl ?_
    refine q_iload_n K 0 dX4_fullest_15 rfl ?_
    refine q_iadd K dX4_fullest_16 ?_
    refine q_eqi (nI (4 + (g + 1))) (kn_add 4 (g + 1)) ?_
    refine q_iald K 1 rfl (vp_in_nI (n := 4 + (g + 1)) (N := 71) (by omega) (by omega)) dX4_fullest_17 ?_
    refine q_eqi (f_bs (a_F X) (g + 1)) (by rw [nI_clamp (n := 4 + (g + 1)) (by omega)]; exact rw_bs _ (by omega)) ?_
    refine q_aload_n K 2 dX4_fullest_18 rfl ?_
    refine q_get (.ref (B 1)) K ws_X4 0 rfl rfl 0 (by decide) fl_X4_7 rfl dX4_fullest_19 ?_
    refine q_iconst 4 K dX4_fullest_22 rfl ?_
    refine q_iload_n K 1 dX4_fullest_23 rfl ?_
    refine q_iadd K dX4_fullest_24 ?_
    refine q_eqi (nI (4 + (f_best (a_F X) g))) (kn_add 4 (f_best (a_F X) g)) ?_
    refine q_iald K 1 rfl (vp_in_nI (n := 4 + (f_best (a_F X) g)) (N := 71) (by omega) (by omega)) dX4_fullest_25 ?_
    refine q_eqi (f_bs (a_F X) (f_best (a_F X) g)) (by rw [nI_clamp (n := 4 + (f_best (a_F X) g)) (by omega)]; exact rw_bs _ (by omega)) ?_
    refine q_icmp_le 33 K dX4_fullest_26 (by decide) (fun c_5 => ?_) (fun c_5 => ?_)
    · refine q_iload_n K 1 dX4_fullest_33 rfl ?_
      refine q_istore_n (lv' := [(1, .int (nI (f_best (a_F X) g))), (2, .int (nI (g + 1))), (0, .ref (B 0))]) K dX4_fullest_34 (by decide) rfl ?_
      refine q_iinc (nI ((g + 1) + 1)) (lv' := [(2, .int (nI ((g + 1) + 1))), (1, .int (nI (f_best (a_F X) g))), (0, .ref (B 0))]) K 1 dX4_fullest_35 rfl (kn_inc (g + 1)) (by decide) rfl ?_
      refine q_goto 4 K dX4_fullest_38 (by decide) ?_
      rw [show nI (f_best (a_F X) g) = nI (f_best (a_F X) (g + 1)) by simp only [f_best, if_pos c_5]]
      exact ih_3 (n_1 - 1) (g + 1) (by omega) (by omega)
    · refine q_iload_n K 0 dX4_fullest_29 rfl ?_
      refine q_goto 34 K dX4_fullest_30 (by decide) ?_
      refine q_istore_n (lv' := [(1, .int (nI (g + 1))), (2, .int (nI (g + 1))), (0, .ref (B 0))]) K dX4_fullest_34 (by decide) rfl ?_
      refine q_iinc (nI ((g + 1) + 1)) (lv' := [(2, .int (nI ((g + 1) + 1))), (1, .int (nI (g + 1))), (0, .ref (B 0))]) K 1 dX4_fullest_35 rfl (kn_inc (g + 1)) (by decide) rfl ?_
      refine q_goto 4 K dX4_fullest_38 (by decide) ?_
      rw [show nI (g + 1) = nI (f_best (a_F X) (g + 1)) by simp only [f_best, if_neg c_5]]
      exact ih_3 (n_1 - 1) (g + 1) (by omega) (by omega)
theorem kv_X4_fullest : k_iv yX4_fullest cX4_fullest 3 (some .int) 0 := ⟨⟨im_X4_fullest, se_X4_fullest⟩, in_X4, co_X4_fullest, by decide +kernel⟩
set_option maxHeartbeats 4000000 in
set_option maxRecDepth 100000 in
theorem c_X4_now (l : Launch) (Z : kz_Z) (B : Nat → Nat) (X : AS) (D : DJ) (m : Nat) (hm : m ≤ 8) (hm2 : f_wk (a_F X) = nI m) (hok : f_ok (a_F X)) (what : Int32) : KI l Z yX4_now cX4_now 2 .int 2 44 [.ref (B 0), .int what] (w_M Z B X D) (fun r w2 => ∃ D2, r = (o_now X what).1 ∧ w2 = w_M Z B (o_now X what).2 D2) := by
  refine ki_of (by decide) [(0, .ref (B 0)), (1, .int what)] (Nat.le_of_ble_eq_true rfl) rfl ?_
  intro M e1 e2 K Rt
  subst e1 e2
  refine q_iload_n K 1 dX4_now_0 rfl ?_
  by_cases c_1 : what = 0
  · refine q_tableIn (off := 39) 40 K dX4_now_1 (by rw [c_1]; decide) (by rw [c_1]; decide) (by rw [c_1]; rfl) (by decide) ?_
    refine q_aload_n K 0 dX4_now_40 rfl ?_
    refine q_get (.ref (B 1)) K ws_X4 0 rfl rfl 0 (by decide) fl_X4_7 rfl dX4_now_41 ?_
    refine q_iconst 1 K dX4_now_44 rfl ?_
    refine q_iald K 1 rfl (vp_in_nI (n := 1) (N := 71) (by omega) (by omega)) dX4_now_45 ?_
    refine q_eqi (f_hr (a_F X)) rfl ?_
    exact Rt _ _ (f_hr (a_F X)) (w_M (k_Z M) B X D) dX4_now_46 rfl (⟨D, by simp only [o_now, a_fin, if_pos c_1, f_mm hm hm2] <;> rfl, by simp only [o_now, a_fin, if_pos c_1, f_mm hm hm2] <;> rfl⟩)
  by_cases c_2 : what = 1
  · refine q_tableIn (off := 46) 47 K dX4_now_1 (by rw [c_2]; decide) (by rw [c_2]; decide) (by rw [c_2]; rfl) (by decide) ?_
    refine q_aload_n K 0 dX4_now_47 rfl ?_
    refine q_wI (q0 := 0) (As := []) (rest := []) K kv_X4_beastsAll (c_X4_beastsAll (k_l M) (k_Z M) B X D) rfl rfl ml_X4_129 rfl rfl (Nat.le_of_ble_eq_true rfl) ⟨Nat.le_of_ble_eq_true rfl, Nat.le_of_ble_eq_true rfl⟩ dX4_now_48 (fun r_4 w2 h_3 => ?_)
    obtain ⟨e_r_4, rfl⟩ := h_3
    refine q_eqi (f_sumb (a_F X) 9) e_r_4 ?_
    exact Rt _ _ (f_sumb (a_F X) 9) (w_M (k_Z M) B X D) dX4_now_51 rfl (⟨D, by simp only [o_now, a_fin, if_neg c_1, if_pos c_2, f_mm hm hm2] <;> rfl, by simp only [o_now, a_fin, if_neg c_1, if_pos c_2, f_mm hm hm2] <;> rfl⟩)
  by_cases c_5 : what = 2
  · refine q_tableIn (off := 51) 52 K dX4_now_1 (by rw [c_5]; decide) (by rw [c_5]; decide) (by rw [c_5]; rfl) (by decide) ?_
    refine q_aload_n K 0 dX4_now_52 rfl ?_
    refine q_wI (q0 := 0) (As := []) (rest := []) K kv_X4_notShut (c_X4_notShut (k_l M) (k_Z M) B X D) rfl rfl ml_X4_132 rfl rfl (Nat.le_of_ble_eq_true rfl) ⟨Nat.le_of_ble_eq_true rfl, Nat.le_of_ble_eq_true rfl⟩ dX4_now_53 (fun r_7 w2 h_6 => ?_)
    obtain ⟨e_r_7, rfl⟩ := h_6
    refine q_eqi (f_ns (a_F X) 8) e_r_7 ?_
    exact Rt _ _ (f_ns (a_F X) 8) (w_M (k_Z M) B X D) dX4_now_56 rfl (⟨D, by simp only [o_now, a_fin, if_neg c_1, if_neg c_2, if_pos c_5, f_mm hm hm2] <;> rfl, by simp only [o_now, a_fin, if_neg c_1, if_neg c_2, if_pos c_5, f_mm hm hm2] <;> rfl⟩)
  by_cases c_8 : what = 3
  · refine q_tableIn (off := 56) 57 K dX4_now_1 (by rw [c_8]; decide) (by rw [c_8]; decide) (by rw [c_8]; rfl) (by decide) ?_
    refine q_aload_n K 0 dX4_now_57 rfl ?_
    refine q_wI (q0 := 0) (As := []) (rest := []) K kv_X4_allStand (c_X4_allStand (k_l M) (k_Z M) B X D) rfl rfl ml_X4_125 rfl rfl (Nat.le_of_ble_eq_true rfl) ⟨Nat.le_of_ble_eq_true rfl, Nat.le_of_ble_eq_true rfl⟩ dX4_now_58 (fun r_10 w2 h_9 => ?_)
    obtain ⟨e_r_10, rfl⟩ := h_9
    refine q_eqi (f_by4 (a_F X)) e_r_10 ?_
    exact Rt _ _ (f_by4 (a_F X)) (w_M (k_Z M) B X D) dX4_now_61 rfl (⟨D, by simp only [o_now, a_fin, if_neg c_1, if_neg c_2, if_neg c_5, if_pos c_8, f_mm hm hm2] <;> rfl, by simp only [o_now, a_fin, if_neg c_1, if_neg c_2, if_neg c_5, if_pos c_8, f_mm hm hm2] <;> rfl⟩)
  by_cases c_11 : what = 4
  · refine q_tableIn (off := 61) 62 K dX4_now_1 (by rw [c_11]; decide) (by rw [c_11]; decide) (by rw [c_11]; rfl) (by decide) ?_
    refine q_aload_n K 0 dX4_now_62 rfl ?_
    refine q_wI (q0 := 0) (As := []) (rest := []) K kv_X4_passedAll (c_X4_passedAll (k_l M) (k_Z M) B X D m hm hm2) rfl rfl ml_X4_135 rfl rfl (Nat.le_of_ble_eq_true rfl) ⟨Nat.le_of_ble_eq_true rfl, Nat.le_of_ble_eq_true rfl⟩ dX4_now_63 (fun r_13 w2 h_12 => ?_)
    obtain ⟨e_r_13, rfl⟩ := h_12
    refine q_eqi (f_sump (a_F X) m) e_r_13 ?_
    exact Rt _ _ (f_sump (a_F X) m) (w_M (k_Z M) B X D) dX4_now_66 rfl (⟨D, by simp only [o_now, a_fin, if_neg c_1, if_neg c_2, if_neg c_5, if_neg c_8, if_pos c_11, f_mm hm hm2] <;> rfl, by simp only [o_now, a_fin, if_neg c_1, if_neg c_2, if_neg c_5, if_neg c_8, if_pos c_11, f_mm hm hm2] <;> rfl⟩)
  by_cases c_14 : what = 5
  · refine q_tableIn (off := 66) 67 K dX4_now_1 (by rw [c_14]; decide) (by rw [c_14]; decide) (by rw [c_14]; rfl) (by decide) ?_
    refine q_aload_n K 0 dX4_now_67 rfl ?_
    refine q_wI (q0 := 0) (As := []) (rest := []) K kv_X4_fullest (c_X4_fullest (k_l M) (k_Z M) B X D) rfl rfl ml_X4_138 rfl rfl (Nat.le_of_ble_eq_true rfl) ⟨Nat.le_of_ble_eq_true rfl, Nat.le_of_ble_eq_true rfl⟩ dX4_now_68 (fun r_16 w2 h_15 => ?_)
    obtain ⟨e_r_16, rfl⟩ := h_15
    refine q_eqi (nI (f_best (a_F X) 8)) e_r_16 ?_
    exact Rt _ _ (nI (f_best (a_F X) 8)) (w_M (k_Z M) B X D) dX4_now_71 rfl (⟨D, by simp only [o_now, a_fin, if_neg c_1, if_neg c_2, if_neg c_5, if_neg c_8, if_neg c_11, if_pos c_14, f_mm hm hm2] <;> rfl, by simp only [o_now, a_fin, if_neg c_1, if_neg c_2, if_neg c_5, if_neg c_8, if_neg c_11, if_pos c_14, f_mm hm hm2] <;> rfl⟩)
  refine q_tableOut 72 K dX4_now_1 (by have := lv_neT (a := 0) c_1 rfl; have := lv_neT (a := 1) c_2 rfl; have := lv_neT (a := 2) c_5 rfl; have := lv_neT (a := 3) c_8 rfl; have := lv_neT (a := 4) c_11 rfl; have := lv_neT (a := 5) c_14 rfl; omega) (by decide) ?_
  refine q_aload_n K 0 dX4_now_72 rfl ?_
  refine q_ldc K dX4_now_73 ct_X4_40 ?_
  refine q_eqi (r_fin 0) (by decide) ?_
  refine q_wI (q0 := 0) (As := [.int (r_fin 0)]) (rest := []) K kv_X4_finds (c_X4_finds (k_l M) (k_Z M) B X D 0 (by omega)) rfl rfl ml_X4_48 rfl rfl (Nat.le_of_ble_eq_true rfl) ⟨Nat.le_of_ble_eq_true rfl, Nat.le_of_ble_eq_true rfl⟩ dX4_now_75 (fun r_18 w2 h_17 => ?_)
  obtain ⟨e_r_18, rfl⟩ := h_17
  refine q_eqi (r_fin 0) e_r_18 ?_
  refine q_ws (ws' := w_M (k_Z M) B (a_F X, a_K X, a_kp X, fd_up (a_fd X) 0, a_tp X, a_S X) D) rfl ?_
  exact Rt _ _ (r_fin 0) (w_M (k_Z M) B (a_F X, a_K X, a_kp X, fd_up (a_fd X) 0, a_tp X, a_S X) D) dX4_now_78 rfl (⟨D, by simp only [o_now, a_fin, if_neg c_1, if_neg c_2, if_neg c_5, if_neg c_8, if_neg c_11, if_neg c_14, f_mm hm hm2] <;> rfl, by simp only [o_now, a_fin, if_neg c_1, if_neg c_2, if_neg c_5, if_neg c_8, if_neg c_11, if_neg c_14, f_mm hm hm2] <;> rfl⟩)
theorem kv_X4_now : k_iv yX4_now cX4_now 2 (some .int) 1 := ⟨⟨im_X4_now, se_X4_now⟩, in_X4, co_X4_now, by decide +kernel⟩
set_option maxHeartbeats 4000000 in
set_option maxRecDepth 100000 in
theorem c_X4_go (l : Launch) (Z : kz_Z) (B : Nat → Nat) (X : AS) (D : DJ) (m : Nat) (hm : m ≤ 8) (hm2 : f_wk (a_F X) = nI m) (hok : f_ok (a_F X)) (hh : ∃ h : Nat, h ≤ 99999 ∧ f_hr (a_F X) = nI h) (n : Int32) : KI l Z yX4_go cX4_go 2 .int 5 119 [.ref (B 0), .int n] (w_M Z B X D) (fun r w2 => ∃ D2, r = (o_go X n).1 ∧ w2 = w_M Z B (o_go X n).2 D2) := by
  refine ki_of (by decide) [(0, .ref (B 0)), (1, .int n)] (Nat.le_of_ble_eq_true rfl) rfl ?_
  intro M e1 e2 K Rt
  subst e1 e2
  refine q_iload_n K 1 dX4_go_0 rfl ?_
  refine q_i2l K dX4_go_1 ?_
  refine q_lconst 1 K dX4_go_2 rfl ?_
  refine q_ldc2 K dX4_go_3 ct_X4_118 ?_
  refine q_cp (rest := []) K ks_X4_isIn (c_X4_isIn (k_l M) (k_Z M) n.toInt64 1 60) ml_X4_43 rfl rfl (Nat.le_of_ble_eq_true rfl) ⟨Nat.le_of_ble_eq_true rfl, Nat.le_of_ble_eq_true rfl⟩ dX4_go_6 (fun r_1 e_r_1 => ?_)
  have e_r_1 : r_1 = if inR n 1 60 then 1 else 0 := kn_if e_r_1 (kn_i64 (v := n) (lo := 1) (hi := 60))
  refine q_if_ne 19 K dX4_go_9 (by decide) (fun c_2 => ?_) (fun c_2 => ?_)
  · have c_2 : inR n 1 60 := (kn_ne e_r_1).mp c_2
    obtain ⟨k, h_k, e_k⟩ := kn_rng1 (n := 60) c_2 rfl
    subst e_k
    refine q_aload_n K 0 dX4_go_19 rfl ?_
    refine q_get (.ref (B 1)) K ws_X4 0 rfl rfl 0 (by decide) fl_X4_7 rfl dX4_go_20 ?_
    refine q_iconst 1 K dX4_go_23 rfl ?_
    refine q_iald K 1 rfl (vp_in_nI (n := 1) (N := 71) (by omega) (by omega)) dX4_go_24 ?_
    refine q_eqi (f_hr (a_F X)) rfl ?_
    refine q_iload_n K 1 dX4_go_25 rfl ?_
    refine q_iadd K dX4_go_26 ?_
    refine q_ldc K dX4_go_27 ct_X4_120 ?_
    refine q_icmp_le 39 K dX4_go_29 (by decide) (fun c_3 => ?_) (fun c_3 => ?_)
    · refine q_aload_n K 0 dX4_go_39 rfl ?_
      refine q_iload_n K 1 dX4_go_40 rfl ?_
      refine q_wV (q0 := 0) (As := [.int (nI k)]) (rest := []) K kv_X4_goes (c_X4_goes (k_l M) (k_Z M) B X D m hm hm2 hok k (by omega)) rfl rfl ml_X4_122 rfl rfl (Nat.le_of_ble_eq_true rfl) ⟨Nat.le_of_ble_eq_true rfl, Nat.le_of_ble_eq_true rfl⟩ dX4_go_41 (fun w2 h_4 => ?_)
      obtain ⟨x_6, rfl⟩ := h_4
      refine q_ws (ws' := w_M (k_Z M) B (f_hoursR (f_gn 0) (a_F X) k, a_K X, a_kp X, a_fd X, a_tp X, a_S X) (d_bf D, d_as D, x_6, d_tk D, d_fr D, d_to D, d_vl D, d_fa D)) rfl ?_
      refine q_ws (ws' := w_M (k_Z M) B (f_hoursC goA (a_F X) k, a_K X, a_kp X, a_fd X, a_tp X, a_S X) (d_bf D, d_as D, x_6, d_tk D, d_fr D, d_to D, d_vl D, d_fa D)) (by rw [f_goC hm hm2 hh (by omega) c_3]) ?_
      refine q_aload_n K 0 dX4_go_44 rfl ?_
      refine q_wI (q0 := 0) (As := []) (rest := []) K kv_X4_allStand (c_X4_allStand (k_l M) (k_Z M) B (f_hoursC goA (a_F X) k, a_K X, a_kp X, a_fd X, a_tp X, a_S X) (d_bf D, d_as D, x_6, d_tk D, d_fr D, d_to D, d_vl D, d_fa D)) rfl rfl ml_X4_125 rfl rfl (Nat.le_of_ble_eq_true rfl) ⟨Nat.le_of_ble_eq_true rfl, Nat.le_of_ble_eq_true rfl⟩ dX4_go_45 (fun r_8 w2 h_7 => ?_)
      obtain ⟨e_r_8, rfl⟩ := h_7
      refine q_eqi (f_by4 (f_hoursC goA (a_F X) k)) e_r_8 ?_
      exact Rt _ _ (f_by4 (f_hoursC goA (a_F X) k)) (w_M (k_Z M) B (f_hoursC goA (a_F X) k, a_K X, a_kp X, a_fd X, a_tp X, a_S X) (d_bf D, d_as D, x_6, d_tk D, d_fr D, d_to D, d_vl D, d_fa D)) dX4_go_48 rfl (⟨(d_bf D, d_as D, x_6, d_tk D, d_fr D, d_to D, d_vl D, d_fa D), by simp only [o_go, a_fin, if_pos c_2, if_pos c_3, e_r_1, nI_clamp (n := k) (by omega)] <;> rfl, by simp only [o_go, a_fin, if_pos c_2, if_pos c_3, nI_clamp (n := k) (by omega)] <;> rfl⟩)
    · refine q_aload_n K 0 dX4_go_32 rfl ?_
      refine q_ldc K dX4_go_33 ct_X4_121 ?_
      refine q_eqi (r_fin 4) (by decide) ?_
      refine q_wI (q0 := 0) (As := [.int (r_fin 4)]) (rest := []) K kv_X4_finds (c_X4_finds (k_l M) (k_Z M) B X D 4 (by omega)) rfl rfl ml_X4_48 rfl rfl (Nat.le_of_ble_eq_true rfl) ⟨Nat.le_of_ble_eq_true rfl, Nat.le_of_ble_eq_true rfl⟩ dX4_go_35 (fun r_10 w2 h_9 => ?_)
      obtain ⟨e_r_10, rfl⟩ := h_9
      refine q_eqi (r_fin 4) e_r_10 ?_
      refine q_ws (ws' := w_M (k_Z M) B (a_F X, a_K X, a_kp X, fd_up (a_fd X) 4, a_tp X, a_S X) D) rfl ?_
      exact Rt _ _ (r_fin 4) (w_M (k_Z M) B (a_F X, a_K X, a_kp X, fd_up (a_fd X) 4, a_tp X, a_S X) D) dX4_go_38 rfl (⟨D, by simp only [o_go, a_fin, if_pos c_2, if_neg c_3, e_r_1, nI_clamp (n := k) (by omega)] <;> rfl, by simp only [o_go, a_fin, if_pos c_2, if_neg c_3, nI_clamp (n := k) (by omega)] <;> rfl⟩)
  · have c_2 : ¬ (inR n 1 60) := (kn_eq e_r_1).mp c_2
    refine q_aload_n K 0 dX4_go_12 rfl ?_
    refine q_ldc K dX4_go_13 ct_X4_40 ?_
    refine q_eqi (r_fin 0) (by decide) ?_
    refine q_wI (q0 := 0) (As := [.int (r_fin 0)]) (rest := []) K kv_X4_finds (c_X4_finds (k_l M) (k_Z M) B X D 0 (by omega)) rfl rfl ml_X4_48 rfl rfl (Nat.le_of_ble_eq_true rfl) ⟨Nat.le_of_ble_eq_true rfl, Nat.le_of_ble_eq_true rfl⟩ dX4_go_15 (fun r_12 w2 h_11 => ?_)
    obtain ⟨e_r_12, rfl⟩ := h_11
    refine q_eqi (r_fin 0) e_r_12 ?_
    refine q_ws (ws' := w_M (k_Z M) B (a_F X, a_K X, a_kp X, fd_up (a_fd X) 0, a_tp X, a_S X) D) rfl ?_
    exact Rt _ _ (r_fin 0) (w_M (k_Z M) B (a_F X, a_K X, a_kp X, fd_up (a_fd X) 0, a_tp X, a_S X) D) dX4_go_18 rfl (⟨D, by simp only [o_go, a_fin, if_neg c_2, e_r_1] <;> rfl, by simp only [o_go, a_fin, if_neg c_2] <;> rfl⟩)
theorem kv_X4_go : k_iv yX4_go cX4_go 2 (some .int) 1 := ⟨⟨im_X4_go, se_X4_go⟩, in_X4, co_X4_go, by decide +kernel⟩
set_option maxHeartbeats 4000000 in
set_option maxRecDepth 100000 in
theorem c_X4_copyRow (l : Launch) (Z : kz_Z) (a b : Nat) (f g : Nat → Int32) : KV l Z yX4_copyRow cX4_copyRow 3 0 0 [.ref a, .ref b] ([(a, .inl (Z.2.1 0, 71, .inl f)), (b, .inl (Z.2.1 0, 71, .inl (g)))]) (fun w2 => w2 = [(a, .inl (Z.2.1 0, 71, .inl f)), (b, .inl (Z.2.1 0, 71, .inl f))]) := by
  refine kv_of (by decide) [(0, .ref a), (1, .ref b)] (Nat.le_of_ble_eq_true rfl) rfl ?_
  intro M e1 e2 K Rt
  subst e1 e2
  refine q_iconst 0 K dX4_copyRow_0 rfl ?_
  refine q_istore_n (lv' := [(2, .int 0), (0, .ref a), (1, .ref b)]) K dX4_copyRow_1 (by decide) rfl ?_
  refine q_loop (α := Nat) (fun n9 i => i + n9 = 71) 2 (fun i => [(2, .int (nI i)), (0, .ref a), (1, .ref b)]) (fun i => [(a, .inl ((k_Z M).2.1 0, 71, .inl f)), (b, .inl ((k_Z M).2.1 0, 71, .inl (k_cp f g i)))]) (fun n_1 i hI_2 ih_3 => ?_) 71 0 (by omega)
  refine q_iload_n K 0 dX4_copyRow_2 rfl ?_
  refine q_bipush 71 K dX4_copyRow_3 rfl ?_
  refine q_icmp_ge 20 K dX4_copyRow_5 (by decide) (fun c_4 => ?_) (fun c_4 => ?_)
  · have c_4n : 71 ≤ i := (nI_leI (a := 71) (b := i) (by omega) (by omega)).mp c_4
    refine q_ext (ws' := [(a, .inl ((k_Z M).2.1 0, 71, .inl f)), (b, .inl ((k_Z M).2.1 0, 71, .inl f))]) 1 f rfl (fun j hj => (k_cp_at f g i (by omega)).symm) rfl ?_
    exact Rt _ _ ([(a, .inl ((k_Z M).2.1 0, 71, .inl f)), (b, .inl ((k_Z M).2.1 0, 71, .inl (f)))]) dX4_copyRow_20 (rfl)
  · have c_4n : ¬ (71 ≤ i) := fun h9 => c_4 ((nI_leI (a := 71) (b := i) (by omega) (by omega)).mpr h9)
    refine q_aload_n K 2 dX4_copyRow_8 rfl ?_
    refine q_iload_n K 0 dX4_copyRow_9 rfl ?_
    refine q_aload_n K 1 dX4_copyRow_10 rfl ?_
    refine q_iload_n K 0 dX4_copyRow_11 rfl ?_
    refine q_iald K 0 rfl (vp_in_nI (n := i) (N := 71) (by omega) (by omega)) dX4_copyRow_12 ?_
    refine q_eqi (f i) (by rw [nI_clamp (n := i) (by omega)]) ?_
    refine q_iast (ws' := [(a, .inl ((k_Z M).2.1 0, 71, .inl f)), (b, .inl ((k_Z M).2.1 0, 71, .inl (upd (k_cp f g i) i (f i))))]) K 1 rfl (vp_in_nI (n := i) (N := 71) (by omega) (by omega)) (by rw [nI_clamp (n := i) (by omega)] <;> rfl) dX4_copyRow_13 ?_
    refine q_iinc (nI (i + 1)) (lv' := [(2, .int (nI (i + 1))), (0, .ref a), (1, .ref b)]) K 0 dX4_copyRow_14 rfl (kn_inc i) (by decide) rfl ?_
    refine q_goto 2 K dX4_copyRow_17 (by decide) ?_
    exact ih_3 (n_1 - 1) (i + 1) (by omega) (by omega)
theorem ks_X4_copyRow : k_is yX4_copyRow cX4_copyRow 3 none 2 := ⟨sm_X4_copyRow, in_X4, co_X4_copyRow, by decide +kernel⟩
set_option maxHeartbeats 4000000 in
set_option maxRecDepth 100000 in
theorem c_X4_thenAt (l : Launch) (Z : kz_Z) (B : Nat → Nat) (X : AS) (D : DJ) (m : Nat) (hm : m ≤ 8) (hm2 : f_wk (a_F X) = nI m) (hok : f_ok (a_F X)) (i : Nat) (hi : i < 71) (n : Nat) (hn : n ≤ 100) : KI l Z yX4_thenAt cX4_thenAt 4 .int 5 119 [.ref (B 0), .int (nI i), .int (nI n)] (w_M Z B X D) (fun r w2 => ∃ D2, r = f_rw (f_hoursR (f_gn 0) (a_F X) n) i ∧ w2 = w_M Z B X D2) := by
  refine ki_of (by decide) [(0, .ref (B 0)), (1, .int (nI i)), (2, .int (nI n))] (Nat.le_of_ble_eq_true rfl) rfl ?_
  intro M e1 e2 K Rt
  subst e1 e2
  refine q_aload_n K 0 dX4_thenAt_0 rfl ?_
  refine q_get (.ref (B 1)) K ws_X4 0 rfl rfl 0 (by decide) fl_X4_7 rfl dX4_thenAt_1 ?_
  refine q_aload_n K 0 dX4_thenAt_4 rfl ?_
  refine q_get (.ref (B 4)) K ws_X4 0 rfl rfl 3 (by decide) fl_X4_19 rfl dX4_thenAt_5 ?_
  refine q_perm (ws' := ([1, 4, 0, 2, 3, 5, 6, 7, 8, 9, 10] : List Nat).map (fun i9 => (w_M (k_Z M) B X D).getD i9 (0, .inr (0, [])))) (k_pick _ (show (List.range 11).Perm _ by decide) rfl) ?_
  refine q_csV (rest := []) K ks_X4_copyRow (c_X4_copyRow (k_l M) (k_Z M) (B 1) (B 4) (f_rw (a_F X)) (d_as D)) [] (([0, 2, 3, 5, 6, 7, 8, 9, 10] : List Nat).map (fun i9 => (w_M (k_Z M) B X D).getD i9 (0, .inr (0, [])))) rfl ml_X4_141 rfl rfl (Nat.le_of_ble_eq_true rfl) ⟨Nat.le_of_ble_eq_true rfl, Nat.le_of_ble_eq_true rfl⟩ dX4_thenAt_8 (fun w2 h_1 => ?_)
  obtain rfl := h_1
  refine q_perm (ws' := w_M (k_Z M) B X (d_bf D, f_rw (a_F X), d_gn D, d_tk D, d_fr D, d_to D, d_vl D, d_fa D)) (k_pick [2, 0, 3, 4, 1, 5, 6, 7, 8, 9, 10] (show (List.range 11).Perm _ by decide) rfl) ?_
  refine q_aload_n K 0 dX4_thenAt_11 rfl ?_
  refine q_iload_n K 2 dX4_thenAt_12 rfl ?_
  refine q_wV (q0 := 0) (As := [.int (nI n)]) (rest := []) K kv_X4_goes (c_X4_goes (k_l M) (k_Z M) B X (d_bf D, f_rw (a_F X), d_gn D, d_tk D, d_fr D, d_to D, d_vl D, d_fa D) m hm hm2 hok n (by omega)) rfl rfl ml_X4_122 rfl rfl (Nat.le_of_ble_eq_true rfl) ⟨Nat.le_of_ble_eq_true rfl, Nat.le_of_ble_eq_true rfl⟩ dX4_thenAt_13 (fun w2 h_2 => ?_)
  obtain ⟨x_4, rfl⟩ := h_2
  refine q_ws (ws' := w_M (k_Z M) B (f_hoursR (f_gn 0) (a_F X) n, a_K X, a_kp X, a_fd X, a_tp X, a_S X) (d_bf D, f_rw (a_F X), x_4, d_tk D, d_fr D, d_to D, d_vl D, d_fa D)) rfl ?_
  refine q_aload_n K 0 dX4_thenAt_16 rfl ?_
  refine q_get (.ref (B 1)) K ws_X4 0 rfl rfl 0 (by decide) fl_X4_7 rfl dX4_thenAt_17 ?_
  refine q_iload_n K 1 dX4_thenAt_20 rfl ?_
  refine q_iald K 1 rfl (vp_in_nI (n := i) (N := 71) (by omega) (by omega)) dX4_thenAt_21 ?_
  refine q_eqi ((f_rw (f_hoursR (f_gn 0) (a_F X) n)) i) (by rw [nI_clamp (n := i) (by omega)]) ?_
  refine q_istore_n (lv' := [(3, .int ((f_rw (f_hoursR (f_gn 0) (a_F X) n)) i)), (0, .ref (B 0)), (1, .int (nI i)), (2, .int (nI n))]) K dX4_thenAt_22 (by decide) rfl ?_
  refine q_aload_n K 1 dX4_thenAt_23 rfl ?_
  refine q_get (.ref (B 4)) K ws_X4 0 rfl rfl 3 (by decide) fl_X4_19 rfl dX4_thenAt_24 ?_
  refine q_aload_n K 1 dX4_thenAt_27 rfl ?_
  refine q_get (.ref (B 1)) K ws_X4 0 rfl rfl 0 (by decide) fl_X4_7 rfl dX4_thenAt_28 ?_
  refine q_perm (ws' := ([4, 1, 0, 2, 3, 5, 6, 7, 8, 9, 10] : List Nat).map (fun i9 => (w_M (k_Z M) B (f_hoursR (f_gn 0) (a_F X) n, a_K X, a_kp X, a_fd X, a_tp X, a_S X) (d_bf D, f_rw (a_F X), x_4, d_tk D, d_fr D, d_to D, d_vl D, d_fa D)).getD i9 (0, .inr (0, [])))) (k_pick _ (show (List.range 11).Perm _ by decide) rfl) ?_
  refine q_csV (rest := []) K ks_X4_copyRow (c_X4_copyRow (k_l M) (k_Z M) (B 4) (B 1) (f_rw (a_F X)) (f_rw (f_hoursR (f_gn 0) (a_F X) n))) [] (([0, 2, 3, 5, 6, 7, 8, 9, 10] : List Nat).map (fun i9 => (w_M (k_Z M) B (f_hoursR (f_gn 0) (a_F X) n, a_K X, a_kp X, a_fd X, a_tp X, a_S X) (d_bf D, f_rw (a_F X), x_4, d_tk D, d_fr D, d_to D, d_vl D, d_fa D)).getD i9 (0, .inr (0, [])))) rfl ml_X4_141 rfl rfl (Nat.le_of_ble_eq_true rfl) ⟨Nat.le_of_ble_eq_true rfl, Nat.le_of_ble_eq_true rfl⟩ dX4_thenAt_31 (fun w2 h_5 => ?_)
  obtain rfl := h_5
  refine q_perm (ws' := w_M (k_Z M) B X (d_bf D, f_rw (a_F X), x_4, d_tk D, d_fr D, d_to D, d_vl D, d_fa D)) (k_pick [2, 1, 3, 4, 0, 5, 6, 7, 8, 9, 10] (show (List.range 11).Perm _ by decide) rfl) ?_
  refine q_iload_n K 0 dX4_thenAt_34 rfl ?_
  exact Rt _ _ ((f_rw (f_hoursR (f_gn 0) (a_F X) n)) i) (w_M (k_Z M) B X (d_bf D, f_rw (a_F X), x_4, d_tk D, d_fr D, d_to D, d_vl D, d_fa D)) dX4_thenAt_35 rfl (⟨(d_bf D, f_rw (a_F X), x_4, d_tk D, d_fr D, d_to D, d_vl D, d_fa D), rfl, rfl⟩)
theorem kv_X4_thenAt : k_iv yX4_thenAt cX4_thenAt 4 (some .int) 2 := ⟨⟨im_X4_thenAt, se_X4_thenAt⟩, in_X4, co_X4_thenAt, by decide +kernel⟩
set_option maxHeartbeats 4000000 in
set_option maxRecDepth 100000 in
theorem c_X4_ahead (l : Launch) (Z : kz_Z) (B : Nat → Nat) (X : AS) (D : DJ) (m : Nat) (hm : m ≤ 8) (hm2 : f_wk (a_F X) = nI m) (hok : f_ok (a_F X)) (field n : Int32) : KI l Z yX4_ahead cX4_ahead 3 .int 6 142 [.ref (B 0), .int field, .int n] (w_M Z B X D) (fun r w2 => ∃ D2, r = (o_ahead X field n).1 ∧ w2 = w_M Z B (o_ahead X field n).2 D2) := by
  refine ki_of (by decide) [(0, .ref (B 0)), (1, .int field), (2, .int n)] (Nat.le_of_ble_eq_true rfl) rfl ?_
  intro M e1 e2 K Rt
  subst e1 e2
  refine q_iload_n K 1 dX4_ahead_0 rfl ?_
  refine q_cp (rest := []) K ks_X4_isField (c_X4_isField (k_l M) (k_Z M) field) ml_X4_52 rfl rfl (Nat.le_of_ble_eq_true rfl) ⟨Nat.le_of_ble_eq_true rfl, Nat.le_of_ble_eq_true rfl⟩ dX4_ahead_1 (fun r_1 e_r_1 => ?_)
  refine q_if_eq 30 K dX4_ahead_4 (by decide) (fun c_2 => ?_) (fun c_2 => ?_)
  · have c_2 : ¬ (inR field 0 8) := (kn_eq e_r_1).mp c_2
    refine q_aload_n K 0 dX4_ahead_30 rfl ?_
    refine q_ldc K dX4_ahead_31 ct_X4_40 ?_
    refine q_eqi (r_fin 0) (by decide) ?_
    refine q_wI (q0 := 0) (As := [.int (r_fin 0)]) (rest := []) K kv_X4_finds (c_X4_finds (k_l M) (k_Z M) B X D 0 (by omega)) rfl rfl ml_X4_48 rfl rfl (Nat.le_of_ble_eq_true rfl) ⟨Nat.le_of_ble_eq_true rfl, Nat.le_of_ble_eq_true rfl⟩ dX4_ahead_33 (fun r_4 w2 h_3 => ?_)
    obtain ⟨e_r_4, rfl⟩ := h_3
    refine q_eqi (r_fin 0) e_r_4 ?_
    refine q_ws (ws' := w_M (k_Z M) B (a_F X, a_K X, a_kp X, fd_up (a_fd X) 0, a_tp X, a_S X) D) rfl ?_
    exact Rt _ _ (r_fin 0) (w_M (k_Z M) B (a_F X, a_K X, a_kp X, fd_up (a_fd X) 0, a_tp X, a_S X) D) dX4_ahead_36 rfl (⟨D, by simp only [o_ahead, a_fin, if_neg c_2, e_r_1] <;> rfl, by simp only [o_ahead, a_fin, if_neg c_2] <;> rfl⟩)
  · have c_2 : inR field 0 8 := (kn_ne e_r_1).mp c_2
    obtain ⟨f, h_f, e_f⟩ := kn_rng (n := 8) c_2 rfl
    subst e_f
    refine q_iload_n K 2 dX4_ahead_7 rfl ?_
    refine q_i2l K dX4_ahead_8 ?_
    refine q_lconst 0 K dX4_ahead_9 rfl ?_
    refine q_ldc2 K dX4_ahead_10 ct_X4_145 ?_
    refine q_cp (rest := []) K ks_X4_isIn (c_X4_isIn (k_l M) (k_Z M) n.toInt64 0 100) ml_X4_43 rfl rfl (Nat.le_of_ble_eq_true rfl) ⟨Nat.le_of_ble_eq_true rfl, Nat.le_of_ble_eq_true rfl⟩ dX4_ahead_13 (fun r_5 e_r_5 => ?_)
    have e_r_5 : r_5 = if inR n 0 100 then 1 else 0 := kn_if e_r_5 (kn_i64 (v := n) (lo := 0) (hi := 100))
    refine q_if_eq 30 K dX4_ahead_16 (by decide) (fun c_6 => ?_) (fun c_6 => ?_)
    · have c_6 : ¬ (inR n 0 100) := (kn_eq e_r_5).mp c_6
      refine q_aload_n K 0 dX4_ahead_30 rfl ?_
      refine q_ldc K dX4_ahead_31 ct_X4_40 ?_
      refine q_eqi (r_fin 0) (by decide) ?_
      refine q_wI (q0 := 0) (As := [.int (r_fin 0)]) (rest := []) K kv_X4_finds (c_X4_finds (k_l M) (k_Z M) B X D 0 (by omega)) rfl rfl ml_X4_48 rfl rfl (Nat.le_of_ble_eq_true rfl) ⟨Nat.le_of_ble_eq_true rfl, Nat.le_of_ble_eq_true rfl⟩ dX4_ahead_33 (fun r_8 w2 h_7 => ?_)
      obtain ⟨e_r_8, rfl⟩ := h_7
      refine q_eqi (r_fin 0) e_r_8 ?_
      refine q_ws (ws' := w_M (k_Z M) B (a_F X, a_K X, a_kp X, fd_up (a_fd X) 0, a_tp X, a_S X) D) rfl ?_
      exact Rt _ _ (r_fin 0) (w_M (k_Z M) B (a_F X, a_K X, a_kp X, fd_up (a_fd X) 0, a_tp X, a_S X) D) dX4_ahead_36 rfl (⟨D, by simp only [o_ahead, a_fin, if_pos c_2, if_neg c_6, e_r_1, e_r_5, nI_clamp (n := f) (by omega)] <;> rfl, by simp only [o_ahead, a_fin, if_pos c_2, if_neg c_6, nI_clamp (n := f) (by omega)] <;> rfl⟩)
    · have c_6 : inR n 0 100 := (kn_ne e_r_5).mp c_6
      obtain ⟨k, h_k, e_k⟩ := kn_rng (n := 100) c_6 rfl
      subst e_k
      refine q_aload_n K 0 dX4_ahead_19 rfl ?_
      refine q_iconst 4 K dX4_ahead_20 rfl ?_
      refine q_iload_n K 1 dX4_ahead_21 rfl ?_
      refine q_iadd K dX4_ahead_22 ?_
      refine q_eqi (nI (4 + f)) (kn_add 4 f) ?_
      refine q_iload_n K 2 dX4_ahead_23 rfl ?_
      refine q_wI (q0 := 0) (As := [.int (nI (4 + f)), .int (nI k)]) (rest := []) K kv_X4_thenAt (c_X4_thenAt (k_l M) (k_Z M) B X D m hm hm2 hok (4 + f) (by omega) k (by omega)) rfl rfl ml_X4_147 rfl rfl (Nat.le_of_ble_eq_true rfl) ⟨Nat.le_of_ble_eq_true rfl, Nat.le_of_ble_eq_true rfl⟩ dX4_ahead_24 (fun r_10 w2 h_9 => ?_)
      obtain ⟨D_11, e_r_10, rfl⟩ := h_9
      refine q_eqi (f_bs (f_hoursC goA (a_F X) k) f) ((e_r_10.trans (rw_bs _ (by omega))).trans (hC_bs (F := a_F X) hm hm2 _ _)) ?_
      refine q_ws (ws' := w_M (k_Z M) B X D_11) rfl ?_
      refine q_goto 36 K dX4_ahead_27 (by decide) ?_
      exact Rt _ _ (f_bs (f_hoursC goA (a_F X) k) f) (w_M (k_Z M) B X D_11) dX4_ahead_36 rfl (⟨D_11, by simp only [o_ahead, a_fin, if_pos c_2, if_pos c_6, e_r_1, e_r_5, nI_clamp (n := f) (by omega), nI_clamp (n := k) (by omega)] <;> rfl, by simp only [o_ahead, a_fin, if_pos c_2, if_pos c_6, nI_clamp (n := f) (by omega), nI_clamp (n := k) (by omega)] <;> rfl⟩)
theorem kv_X4_ahead : k_iv yX4_ahead cX4_ahead 3 (some .int) 2 := ⟨⟨im_X4_ahead, se_X4_ahead⟩, in_X4, co_X4_ahead, by decide +kernel⟩
set_option maxHeartbeats 4000000 in
set_option maxRecDepth 100000 in
theorem c_X4_stand (l : Launch) (Z : kz_Z) (B : Nat → Nat) (X : AS) (D : DJ) (m : Nat) (hm : m ≤ 8) (hm2 : f_wk (a_F X) = nI m) (hok : f_ok (a_F X)) (gate n : Int32) : KI l Z yX4_stand cX4_stand 3 .int 6 142 [.ref (B 0), .int gate, .int n] (w_M Z B X D) (fun r w2 => ∃ D2, r = (o_stand X gate n).1 ∧ w2 = w_M Z B (o_stand X gate n).2 D2) := by
  refine ki_of (by decide) [(0, .ref (B 0)), (1, .int gate), (2, .int n)] (Nat.le_of_ble_eq_true rfl) rfl ?_
  intro M e1 e2 K Rt
  subst e1 e2
  refine q_iload_n K 1 dX4_stand_0 rfl ?_
  refine q_cp (rest := []) K ks_X4_isGate (c_X4_isGate (k_l M) (k_Z M) gate) ml_X4_68 rfl rfl (Nat.le_of_ble_eq_true rfl) ⟨Nat.le_of_ble_eq_true rfl, Nat.le_of_ble_eq_true rfl⟩ dX4_stand_1 (fun r_1 e_r_1 => ?_)
  refine q_if_eq 31 K dX4_stand_4 (by decide) (fun c_2 => ?_) (fun c_2 => ?_)
  · have c_2 : ¬ (inR gate 0 7) := (kn_eq e_r_1).mp c_2
    refine q_aload_n K 0 dX4_stand_31 rfl ?_
    refine q_ldc K dX4_stand_32 ct_X4_40 ?_
    refine q_eqi (r_fin 0) (by decide) ?_
    refine q_wI (q0 := 0) (As := [.int (r_fin 0)]) (rest := []) K kv_X4_finds (c_X4_finds (k_l M) (k_Z M) B X D 0 (by omega)) rfl rfl ml_X4_48 rfl rfl (Nat.le_of_ble_eq_true rfl) ⟨Nat.le_of_ble_eq_true rfl, Nat.le_of_ble_eq_true rfl⟩ dX4_stand_34 (fun r_4 w2 h_3 => ?_)
    obtain ⟨e_r_4, rfl⟩ := h_3
    refine q_eqi (r_fin 0) e_r_4 ?_
    refine q_ws (ws' := w_M (k_Z M) B (a_F X, a_K X, a_kp X, fd_up (a_fd X) 0, a_tp X, a_S X) D) rfl ?_
    exact Rt _ _ (r_fin 0) (w_M (k_Z M) B (a_F X, a_K X, a_kp X, fd_up (a_fd X) 0, a_tp X, a_S X) D) dX4_stand_37 rfl (⟨D, by simp only [o_stand, a_fin, if_neg c_2, e_r_1] <;> rfl, by simp only [o_stand, a_fin, if_neg c_2] <;> rfl⟩)
  · have c_2 : inR gate 0 7 := (kn_ne e_r_1).mp c_2
    obtain ⟨g, h_g, e_g⟩ := kn_rng (n := 7) c_2 rfl
    subst e_g
    refine q_iload_n K 2 dX4_stand_7 rfl ?_
    refine q_i2l K dX4_stand_8 ?_
    refine q_lconst 0 K dX4_stand_9 rfl ?_
    refine q_ldc2 K dX4_stand_10 ct_X4_145 ?_
    refine q_cp (rest := []) K ks_X4_isIn (c_X4_isIn (k_l M) (k_Z M) n.toInt64 0 100) ml_X4_43 rfl rfl (Nat.le_of_ble_eq_true rfl) ⟨Nat.le_of_ble_eq_true rfl, Nat.le_of_ble_eq_true rfl⟩ dX4_stand_13 (fun r_5 e_r_5 => ?_)
    have e_r_5 : r_5 = if inR n 0 100 then 1 else 0 := kn_if e_r_5 (kn_i64 (v := n) (lo := 0) (hi := 100))
    refine q_if_eq 31 K dX4_stand_16 (by decide) (fun c_6 => ?_) (fun c_6 => ?_)
    · have c_6 : ¬ (inR n 0 100) := (kn_eq e_r_5).mp c_6
      refine q_aload_n K 0 dX4_stand_31 rfl ?_
      refine q_ldc K dX4_stand_32 ct_X4_40 ?_
      refine q_eqi (r_fin 0) (by decide) ?_
      refine q_wI (q0 := 0) (As := [.int (r_fin 0)]) (rest := []) K kv_X4_finds (c_X4_finds (k_l M) (k_Z M) B X D 0 (by omega)) rfl rfl ml_X4_48 rfl rfl (Nat.le_of_ble_eq_true rfl) ⟨Nat.le_of_ble_eq_true rfl, Nat.le_of_ble_eq_true rfl⟩ dX4_stand_34 (fun r_8 w2 h_7 => ?_)
      obtain ⟨e_r_8, rfl⟩ := h_7
      refine q_eqi (r_fin 0) e_r_8 ?_
      refine q_ws (ws' := w_M (k_Z M) B (a_F X, a_K X, a_kp X, fd_up (a_fd X) 0, a_tp X, a_S X) D) rfl ?_
      exact Rt _ _ (r_fin 0) (w_M (k_Z M) B (a_F X, a_K X, a_kp X, fd_up (a_fd X) 0, a_tp X, a_S X) D) dX4_stand_37 rfl (⟨D, by simp only [o_stand, a_fin, if_pos c_2, if_neg c_6, e_r_1, e_r_5, nI_clamp (n := g) (by omega)] <;> rfl, by simp only [o_stand, a_fin, if_pos c_2, if_neg c_6, nI_clamp (n := g) (by omega)] <;> rfl⟩)
    · have c_6 : inR n 0 100 := (kn_ne e_r_5).mp c_6
      obtain ⟨k, h_k, e_k⟩ := kn_rng (n := 100) c_6 rfl
      subst e_k
      refine q_aload_n K 0 dX4_stand_19 rfl ?_
      refine q_bipush 13 K dX4_stand_20 rfl ?_
      refine q_iload_n K 1 dX4_stand_22 rfl ?_
      refine q_iadd K dX4_stand_23 ?_
      refine q_eqi (nI (13 + g)) (kn_add 13 g) ?_
      refine q_iload_n K 2 dX4_stand_24 rfl ?_
      refine q_wI (q0 := 0) (As := [.int (nI (13 + g)), .int (nI k)]) (rest := []) K kv_X4_thenAt (c_X4_thenAt (k_l M) (k_Z M) B X D m hm hm2 hok (13 + g) (by omega) k (by omega)) rfl rfl ml_X4_147 rfl rfl (Nat.le_of_ble_eq_true rfl) ⟨Nat.le_of_ble_eq_true rfl, Nat.le_of_ble_eq_true rfl⟩ dX4_stand_25 (fun r_10 w2 h_9 => ?_)
      obtain ⟨D_11, e_r_10, rfl⟩ := h_9
      refine q_eqi (f_gs (f_hoursC goA (a_F X) k) g) ((e_r_10.trans (rw_gs _ (by omega))).trans (hC_gs (F := a_F X) hm hm2 _ _)) ?_
      refine q_ws (ws' := w_M (k_Z M) B X D_11) rfl ?_
      refine q_goto 37 K dX4_stand_28 (by decide) ?_
      exact Rt _ _ (f_gs (f_hoursC goA (a_F X) k) g) (w_M (k_Z M) B X D_11) dX4_stand_37 rfl (⟨D_11, by simp only [o_stand, a_fin, if_pos c_2, if_pos c_6, e_r_1, e_r_5, nI_clamp (n := g) (by omega), nI_clamp (n := k) (by omega)] <;> rfl, by simp only [o_stand, a_fin, if_pos c_2, if_pos c_6, nI_clamp (n := g) (by omega), nI_clamp (n := k) (by omega)] <;> rfl⟩)
theorem kv_X4_stand : k_iv yX4_stand cX4_stand 3 (some .int) 2 := ⟨⟨im_X4_stand, se_X4_stand⟩, in_X4, co_X4_stand, by decide +kernel⟩
set_option maxHeartbeats 4000000 in
set_option maxRecDepth 100000 in
theorem c_X4_where (l : Launch) (Z : kz_Z) (B : Nat → Nat) (X : AS) (D : DJ) (m : Nat) (hm : m ≤ 8) (hm2 : f_wk (a_F X) = nI m) (hok : f_ok (a_F X)) (w what n : Int32) : KI l Z yX4_where cX4_where 5 .int 6 142 [.ref (B 0), .int w, .int what, .int n] (w_M Z B X D) (fun r w2 => ∃ D2, r = (o_where X w what n).1 ∧ w2 = w_M Z B (o_where X w what n).2 D2) := by
  refine ki_of (by decide) [(0, .ref (B 0)), (1, .int w), (2, .int what), (3, .int n)] (Nat.le_of_ble_eq_true rfl) rfl ?_
  intro M e1 e2 K Rt
  subst e1 e2
  refine q_aload_n K 0 dX4_where_0 rfl ?_
  refine q_iload_n K 1 dX4_where_1 rfl ?_
  refine q_wI (q0 := 0) (As := [.int w]) (rest := []) K kv_X4_isWalker (c_X4_isWalker (k_l M) (k_Z M) B X D m hm hm2 w) rfl rfl ml_X4_89 rfl rfl (Nat.le_of_ble_eq_true rfl) ⟨Nat.le_of_ble_eq_true rfl, Nat.le_of_ble_eq_true rfl⟩ dX4_where_2 (fun r_2 w2 h_1 => ?_)
  obtain ⟨e_r_2, rfl⟩ := h_1
  refine q_if_eq 34 K dX4_where_5 (by decide) (fun c_3 => ?_) (fun c_3 => ?_)
  · have c_3 : ¬ (isW X w) := (kn_eq e_r_2).mp c_3
    refine q_iconst 0 K dX4_where_34 rfl ?_
    refine q_istore (lv' := [(4, .int 0), (0, .ref (B 0)), (1, .int w), (2, .int what), (3, .int n)]) K dX4_where_35 (by decide) rfl ?_
    refine q_iload K 0 dX4_where_37 rfl ?_
    refine q_if_eq 55 K dX4_where_39 (by decide) (fun c_0 => ?_) (fun c_0 => absurd c_0 (by decide))
    refine q_aload_n K 1 dX4_where_55 rfl ?_
    refine q_ldc K dX4_where_56 ct_X4_40 ?_
    refine q_eqi (r_fin 0) (by decide) ?_
    refine q_wI (q0 := 0) (As := [.int (r_fin 0)]) (rest := []) K kv_X4_finds (c_X4_finds (k_l M) (k_Z M) B X D 0 (by omega)) rfl rfl ml_X4_48 rfl rfl (Nat.le_of_ble_eq_true rfl) ⟨Nat.le_of_ble_eq_true rfl, Nat.le_of_ble_eq_true rfl⟩ dX4_where_58 (fun r_5 w2 h_4 => ?_)
    obtain ⟨e_r_5, rfl⟩ := h_4
    refine q_eqi (r_fin 0) e_r_5 ?_
    refine q_ws (ws' := w_M (k_Z M) B (a_F X, a_K X, a_kp X, fd_up (a_fd X) 0, a_tp X, a_S X) D) rfl ?_
    exact Rt _ _ (r_fin 0) (w_M (k_Z M) B (a_F X, a_K X, a_kp X, fd_up (a_fd X) 0, a_tp X, a_S X) D) dX4_where_61 rfl (⟨D, by simp only [o_where, a_fin, if_neg c_3, e_r_2] <;> rfl, by simp only [o_where, a_fin, if_neg c_3] <;> rfl⟩)
  · have c_3 : isW X w := (kn_ne e_r_2).mp c_3
    obtain ⟨u, h_u, e_u⟩ := isW_nat hm hm2 c_3
    subst e_u
    refine q_iload_n K 2 dX4_where_8 rfl ?_
    refine q_iconst 1 K dX4_where_9 rfl ?_
    refine q_icmp_eq 18 K dX4_where_10 (by decide) (fun c_6 => ?_) (fun c_6 => ?_)
    · rw [c_6]
      refine q_iload_n K 3 dX4_where_18 rfl ?_
      refine q_i2l K dX4_where_19 ?_
      refine q_lconst 0 K dX4_where_20 rfl ?_
      refine q_ldc2 K dX4_where_21 ct_X4_145 ?_
      refine q_cp (rest := []) K ks_X4_isIn (c_X4_isIn (k_l M) (k_Z M) n.toInt64 0 100) ml_X4_43 rfl rfl (Nat.le_of_ble_eq_true rfl) ⟨Nat.le_of_ble_eq_true rfl, Nat.le_of_ble_eq_true rfl⟩ dX4_where_24 (fun r_7 e_r_7 => ?_)
      have e_r_7 : r_7 = if inR n 0 100 then 1 else 0 := kn_if e_r_7 (kn_i64 (v := n) (lo := 0) (hi := 100))
      refine q_if_eq 34 K dX4_where_27 (by decide) (fun c_8 => ?_) (fun c_8 => ?_)
      · have c_8 : ¬ (inR n 0 100) := (kn_eq e_r_7).mp c_8
        refine q_iconst 0 K dX4_where_34 rfl ?_
        refine q_istore (lv' := [(4, .int 0), (0, .ref (B 0)), (1, .int (nI u)), (2, .int 1), (3, .int n)]) K dX4_where_35 (by decide) rfl ?_
        refine q_iload K 0 dX4_where_37 rfl ?_
        refine q_if_eq 55 K dX4_where_39 (by decide) (fun c_0 => ?_) (fun c_0 => absurd c_0 (by decide))
        refine q_aload_n K 1 dX4_where_55 rfl ?_
        refine q_ldc K dX4_where_56 ct_X4_40 ?_
        refine q_eqi (r_fin 0) (by decide) ?_
        refine q_wI (q0 := 0) (As := [.int (r_fin 0)]) (rest := []) K kv_X4_finds (c_X4_finds (k_l M) (k_Z M) B X D 0 (by omega)) rfl rfl ml_X4_48 rfl rfl (Nat.le_of_ble_eq_true rfl) ⟨Nat.le_of_ble_eq_true rfl, Nat.le_of_ble_eq_true rfl⟩ dX4_where_58 (fun r_10 w2 h_9 => ?_)
        obtain ⟨e_r_10, rfl⟩ := h_9
        refine q_eqi (r_fin 0) e_r_10 ?_
        refine q_ws (ws' := w_M (k_Z M) B (a_F X, a_K X, a_kp X, fd_up (a_fd X) 0, a_tp X, a_S X) D) rfl ?_
        exact Rt _ _ (r_fin 0) (w_M (k_Z M) B (a_F X, a_K X, a_kp X, fd_up (a_fd X) 0, a_tp X, a_S X) D) dX4_where_61 rfl (⟨D, by simp only [o_where, a_fin, if_pos c_3, if_pos c_6, if_neg c_8, e_r_2, e_r_7, nI_clamp (n := u) (by omega)] <;> rfl, by simp only [o_where, a_fin, if_pos c_3, if_pos c_6, if_neg c_8, nI_clamp (n := u) (by omega)] <;> rfl⟩)
      · have c_8 : inR n 0 100 := (kn_ne e_r_7).mp c_8
        obtain ⟨k, h_k, e_k⟩ := kn_rng (n := 100) c_8 rfl
        subst e_k
        refine q_iconst 1 K dX4_where_30 rfl ?_
        refine q_goto 35 K dX4_where_31 (by decide) ?_
        refine q_istore (lv' := [(4, .int 1), (0, .ref (B 0)), (1, .int (nI u)), (2, .int 1), (3, .int (nI k))]) K dX4_where_35 (by decide) rfl ?_
        refine q_iload K 0 dX4_where_37 rfl ?_
        refine q_if_eq 55 K dX4_where_39 (by decide) (fun c_0 => absurd c_0 (by decide)) (fun c_0 => ?_)
        refine q_aload_n K 1 dX4_where_42 rfl ?_
        refine q_iload_n K 2 dX4_where_43 rfl ?_
        refine q_iload_n K 3 dX4_where_44 rfl ?_
        refine q_cp (rest := [.ref (B 0)]) K ks_X4_at (c_X4_at (k_l M) (k_Z M) u 1) ml_X4_76 rfl rfl (Nat.le_of_ble_eq_true rfl) ⟨Nat.le_of_ble_eq_true rfl, Nat.le_of_ble_eq_true rfl⟩ dX4_where_45 (fun r_11 e_r_11 => ?_)
        refine q_eqi (nI ((21 + (5 * u)) + 1)) e_r_11 ?_
        refine q_iload_n K 4 dX4_where_48 rfl ?_
        refine q_wI (q0 := 0) (As := [.int (nI ((21 + (5 * u)) + 1)), .int (nI k)]) (rest := []) K kv_X4_thenAt (c_X4_thenAt (k_l M) (k_Z M) B X D m hm hm2 hok ((21 + (5 * u)) + 1) (by omega) k (by omega)) rfl rfl ml_X4_147 rfl rfl (Nat.le_of_ble_eq_true rfl) ⟨Nat.le_of_ble_eq_true rfl, Nat.le_of_ble_eq_true rfl⟩ dX4_where_49 (fun r_13 w2 h_12 => ?_)
        obtain ⟨D_14, e_r_13, rfl⟩ := h_12
        refine q_eqi (f_fd (f_hoursC goA (a_F X) k) u) ((e_r_13.trans (rw_at _ (by omega) (by omega))).trans (hC_fd (F := a_F X) hm hm2 _ _)) ?_
        refine q_ws (ws' := w_M (k_Z M) B X D_14) rfl ?_
        refine q_goto 61 K dX4_where_52 (by decide) ?_
        exact Rt _ _ (f_fd (f_hoursC goA (a_F X) k) u) (w_M (k_Z M) B X D_14) dX4_where_61 rfl (⟨D_14, by simp only [o_where, a_fin, if_pos c_3, if_pos c_6, if_pos c_8, e_r_2, e_r_7, nI_clamp (n := u) (by omega), nI_clamp (n := k) (by omega)] <;> rfl, by simp only [o_where, a_fin, if_pos c_3, if_pos c_6, if_pos c_8, nI_clamp (n := u) (by omega), nI_clamp (n := k) (by omega)] <;> rfl⟩)
    · refine q_iload_n K 2 dX4_where_13 rfl ?_
      refine q_iconst 3 K dX4_where_14 rfl ?_
      refine q_icmp_ne 34 K dX4_where_15 (by decide) (fun c_15 => ?_) (fun c_15 => ?_)
      · refine q_iconst 0 K dX4_where_34 rfl ?_
        refine q_istore (lv' := [(4, .int 0), (0, .ref (B 0)), (1, .int (nI u)), (2, .int what), (3, .int n)]) K dX4_where_35 (by decide) rfl ?_
        refine q_iload K 0 dX4_where_37 rfl ?_
        refine q_if_eq 55 K dX4_where_39 (by decide) (fun c_0 => ?_) (fun c_0 => absurd c_0 (by decide))
        refine q_aload_n K 1 dX4_where_55 rfl ?_
        refine q_ldc K dX4_where_56 ct_X4_40 ?_
        refine q_eqi (r_fin 0) (by decide) ?_
        refine q_wI (q0 := 0) (As := [.int (r_fin 0)]) (rest := []) K kv_X4_finds (c_X4_finds (k_l M) (k_Z M) B X D 0 (by omega)) rfl rfl ml_X4_48 rfl rfl (Nat.le_of_ble_eq_true rfl) ⟨Nat.le_of_ble_eq_true rfl, Nat.le_of_ble_eq_true rfl⟩ dX4_where_58 (fun r_17 w2 h_16 => ?_)
        obtain ⟨e_r_17, rfl⟩ := h_16
        refine q_eqi (r_fin 0) e_r_17 ?_
        refine q_ws (ws' := w_M (k_Z M) B (a_F X, a_K X, a_kp X, fd_up (a_fd X) 0, a_tp X, a_S X) D) rfl ?_
        exact Rt _ _ (r_fin 0) (w_M (k_Z M) B (a_F X, a_K X, a_kp X, fd_up (a_fd X) 0, a_tp X, a_S X) D) dX4_where_61 rfl (⟨D, by simp only [o_where, a_fin, if_pos c_3, if_neg c_6, if_neg c_15, e_r_2, nI_clamp (n := u) (by omega)] <;> rfl, by simp only [o_where, a_fin, if_pos c_3, if_neg c_6, if_neg c_15, nI_clamp (n := u) (by omega)] <;> rfl⟩)
      · rw [c_15]
        refine q_iload_n K 3 dX4_where_18 rfl ?_
        refine q_i2l K dX4_where_19 ?_
        refine q_lconst 0 K dX4_where_20 rfl ?_
        refine q_ldc2 K dX4_where_21 ct_X4_145 ?_
        refine q_cp (rest := []) K ks_X4_isIn (c_X4_isIn (k_l M) (k_Z M) n.toInt64 0 100) ml_X4_43 rfl rfl (Nat.le_of_ble_eq_true rfl) ⟨Nat.le_of_ble_eq_true rfl, Nat.le_of_ble_eq_true rfl⟩ dX4_where_24 (fun r_18 e_r_18 => ?_)
        have e_r_18 : r_18 = if inR n 0 100 then 1 else 0 := kn_if e_r_18 (kn_i64 (v := n) (lo := 0) (hi := 100))
        refine q_if_eq 34 K dX4_where_27 (by decide) (fun c_19 => ?_) (fun c_19 => ?_)
        · have c_19 : ¬ (inR n 0 100) := (kn_eq e_r_18).mp c_19
          refine q_iconst 0 K dX4_where_34 rfl ?_
          refine q_istore (lv' := [(4, .int 0), (0, .ref (B 0)), (1, .int (nI u)), (2, .int 3), (3, .int n)]) K dX4_where_35 (by decide) rfl ?_
          refine q_iload K 0 dX4_where_37 rfl ?_
          refine q_if_eq 55 K dX4_where_39 (by decide) (fun c_0 => ?_) (fun c_0 => absurd c_0 (by decide))
          refine q_aload_n K 1 dX4_where_55 rfl ?_
          refine q_ldc K dX4_where_56 ct_X4_40 ?_
          refine q_eqi (r_fin 0) (by decide) ?_
          refine q_wI (q0 := 0) (As := [.int (r_fin 0)]) (rest := []) K kv_X4_finds (c_X4_finds (k_l M) (k_Z M) B X D 0 (by omega)) rfl rfl ml_X4_48 rfl rfl (Nat.le_of_ble_eq_true rfl) ⟨Nat.le_of_ble_eq_true rfl, Nat.le_of_ble_eq_true rfl⟩ dX4_where_58 (fun r_21 w2 h_20 => ?_)
          obtain ⟨e_r_21, rfl⟩ := h_20
          refine q_eqi (r_fin 0) e_r_21 ?_
          refine q_ws (ws' := w_M (k_Z M) B (a_F X, a_K X, a_kp X, fd_up (a_fd X) 0, a_tp X, a_S X) D) rfl ?_
          exact Rt _ _ (r_fin 0) (w_M (k_Z M) B (a_F X, a_K X, a_kp X, fd_up (a_fd X) 0, a_tp X, a_S X) D) dX4_where_61 rfl (⟨D, by simp only [o_where, a_fin, if_pos c_3, if_neg c_6, if_pos c_15, if_neg c_19, e_r_2, e_r_18, nI_clamp (n := u) (by omega)] <;> rfl, by simp only [o_where, a_fin, if_pos c_3, if_neg c_6, if_pos c_15, if_neg c_19, nI_clamp (n := u) (by omega)] <;> rfl⟩)
        · have c_19 : inR n 0 100 := (kn_ne e_r_18).mp c_19
          obtain ⟨k, h_k, e_k⟩ := kn_rng (n := 100) c_19 rfl
          subst e_k
          refine q_iconst 1 K dX4_where_30 rfl ?_
          refine q_goto 35 K dX4_where_31 (by decide) ?_
          refine q_istore (lv' := [(4, .int 1), (0, .ref (B 0)), (1, .int (nI u)), (2, .int 3), (3, .int (nI k))]) K dX4_where_35 (by decide) rfl ?_
          refine q_iload K 0 dX4_where_37 rfl ?_
          refine q_if_eq 55 K dX4_where_39 (by decide) (fun c_0 => absurd c_0 (by decide)) (fun c_0 => ?_)
          refine q_aload_n K 1 dX4_where_42 rfl ?_
          refine q_iload_n K 2 dX4_where_43 rfl ?_
          refine q_iload_n K 3 dX4_where_44 rfl ?_
          refine q_cp (rest := [.ref (B 0)]) K ks_X4_at (c_X4_at (k_l M) (k_Z M) u 3) ml_X4_76 rfl rfl (Nat.le_of_ble_eq_true rfl) ⟨Nat.le_of_ble_eq_true rfl, Nat.le_of_ble_eq_true rfl⟩ dX4_where_45 (fun r_22 e_r_22 => ?_)
          refine q_eqi (nI ((21 + (5 * u)) + 3)) e_r_22 ?_
          refine q_iload_n K 4 dX4_where_48 rfl ?_
          refine q_wI (q0 := 0) (As := [.int (nI ((21 + (5 * u)) + 3)), .int (nI k)]) (rest := []) K kv_X4_thenAt (c_X4_thenAt (k_l M) (k_Z M) B X D m hm hm2 hok ((21 + (5 * u)) + 3) (by omega) k (by omega)) rfl rfl ml_X4_147 rfl rfl (Nat.le_of_ble_eq_true rfl) ⟨Nat.le_of_ble_eq_true rfl, Nat.le_of_ble_eq_true rfl⟩ dX4_where_49 (fun r_24 w2 h_23 => ?_)
          obtain ⟨D_25, e_r_24, rfl⟩ := h_23
          refine q_eqi (f_md (f_hoursC goA (a_F X) k) u) ((e_r_24.trans (rw_at _ (by omega) (by omega))).trans (hC_md (F := a_F X) hm hm2 _ _)) ?_
          refine q_ws (ws' := w_M (k_Z M) B X D_25) rfl ?_
          refine q_goto 61 K dX4_where_52 (by decide) ?_
          exact Rt _ _ (f_md (f_hoursC goA (a_F X) k) u) (w_M (k_Z M) B X D_25) dX4_where_61 rfl (⟨D_25, by simp only [o_where, a_fin, if_pos c_3, if_neg c_6, if_pos c_15, if_pos c_19, e_r_2, e_r_18, nI_clamp (n := u) (by omega), nI_clamp (n := k) (by omega)] <;> rfl, by simp only [o_where, a_fin, if_pos c_3, if_neg c_6, if_pos c_15, if_pos c_19, nI_clamp (n := u) (by omega), nI_clamp (n := k) (by omega)] <;> rfl⟩)
theorem kv_X4_where : k_iv yX4_where cX4_where 5 (some .int) 3 := ⟨⟨im_X4_where, se_X4_where⟩, in_X4, co_X4_where, by decide +kernel⟩
set_option maxHeartbeats 4000000 in
set_option maxRecDepth 100000 in
theorem c_X4_corn (l : Launch) (Z : kz_Z) (B : Nat → Nat) (X : AS) (D : DJ) (m : Nat) (hm : m ≤ 8) (hm2 : f_wk (a_F X) = nI m) (hok : f_ok (a_F X)) (field v : Int32) : KI l Z yX4_corn cX4_corn 4 .int 4 97 [.ref (B 0), .int field, .int v] (w_M Z B X D) (fun r w2 => ∃ D2, r = (o_corn X field v).1 ∧ w2 = w_M Z B (o_corn X field v).2 D2) := by
  refine ki_of (by decide) [(0, .ref (B 0)), (1, .int field), (2, .int v)] (Nat.le_of_ble_eq_true rfl) rfl ?_
  intro M e1 e2 K Rt
  subst e1 e2
  refine q_iload_n K 1 dX4_corn_0 rfl ?_
  refine q_cp (rest := []) K ks_X4_isField (c_X4_isField (k_l M) (k_Z M) field) ml_X4_52 rfl rfl (Nat.le_of_ble_eq_true rfl) ⟨Nat.le_of_ble_eq_true rfl, Nat.le_of_ble_eq_true rfl⟩ dX4_corn_1 (fun r_1 e_r_1 => ?_)
  refine q_if_eq 19 K dX4_corn_4 (by decide) (fun c_2 => ?_) (fun c_2 => ?_)
  · have c_2 : ¬ (inR field 0 8) := (kn_eq e_r_1).mp c_2
    refine q_aload_n K 0 dX4_corn_19 rfl ?_
    refine q_ldc K dX4_corn_20 ct_X4_40 ?_
    refine q_eqi (r_fin 0) (by decide) ?_
    refine q_wI (q0 := 0) (As := [.int (r_fin 0)]) (rest := []) K kv_X4_finds (c_X4_finds (k_l M) (k_Z M) B X D 0 (by omega)) rfl rfl ml_X4_48 rfl rfl (Nat.le_of_ble_eq_true rfl) ⟨Nat.le_of_ble_eq_true rfl, Nat.le_of_ble_eq_true rfl⟩ dX4_corn_22 (fun r_4 w2 h_3 => ?_)
    obtain ⟨e_r_4, rfl⟩ := h_3
    refine q_eqi (r_fin 0) e_r_4 ?_
    refine q_ws (ws' := w_M (k_Z M) B (a_F X, a_K X, a_kp X, fd_up (a_fd X) 0, a_tp X, a_S X) D) rfl ?_
    exact Rt _ _ (r_fin 0) (w_M (k_Z M) B (a_F X, a_K X, a_kp X, fd_up (a_fd X) 0, a_tp X, a_S X) D) dX4_corn_25 rfl (⟨D, by simp only [o_corn, a_fin, if_neg c_2, e_r_1] <;> rfl, by simp only [o_corn, a_fin, if_neg c_2] <;> rfl⟩)
  · have c_2 : inR field 0 8 := (kn_ne e_r_1).mp c_2
    obtain ⟨f, h_f, e_f⟩ := kn_rng (n := 8) c_2 rfl
    subst e_f
    refine q_iload_n K 2 dX4_corn_7 rfl ?_
    refine q_i2l K dX4_corn_8 ?_
    refine q_lconst 0 K dX4_corn_9 rfl ?_
    refine q_ldc2 K dX4_corn_10 ct_X4_56 ?_
    refine q_cp (rest := []) K ks_X4_isIn (c_X4_isIn (k_l M) (k_Z M) v.toInt64 0 9999) ml_X4_43 rfl rfl (Nat.le_of_ble_eq_true rfl) ⟨Nat.le_of_ble_eq_true rfl, Nat.le_of_ble_eq_true rfl⟩ dX4_corn_13 (fun r_5 e_r_5 => ?_)
    have e_r_5 : r_5 = if inR v 0 9999 then 1 else 0 := kn_if e_r_5 (kn_i64 (v := v) (lo := 0) (hi := 9999))
    refine q_if_ne 26 K dX4_corn_16 (by decide) (fun c_6 => ?_) (fun c_6 => ?_)
    · have c_6 : inR v 0 9999 := (kn_ne e_r_5).mp c_6
      refine q_aload_n K 0 dX4_corn_26 rfl ?_
      refine q_get (.ref (B 1)) K ws_X4 0 rfl rfl 0 (by decide) fl_X4_7 rfl dX4_corn_27 ?_
      refine q_aload_n K 0 dX4_corn_30 rfl ?_
      refine q_get (.ref (B 4)) K ws_X4 0 rfl rfl 3 (by decide) fl_X4_19 rfl dX4_corn_31 ?_
      refine q_perm (ws' := ([1, 4, 0, 2, 3, 5, 6, 7, 8, 9, 10] : List Nat).map (fun i9 => (w_M (k_Z M) B X D).getD i9 (0, .inr (0, [])))) (k_pick _ (show (List.range 11).Perm _ by decide) rfl) ?_
      refine q_csV (rest := []) K ks_X4_copyRow (c_X4_copyRow (k_l M) (k_Z M) (B 1) (B 4) (f_rw (a_F X)) (d_as D)) [] (([0, 2, 3, 5, 6, 7, 8, 9, 10] : List Nat).map (fun i9 => (w_M (k_Z M) B X D).getD i9 (0, .inr (0, [])))) rfl ml_X4_141 rfl rfl (Nat.le_of_ble_eq_true rfl) ⟨Nat.le_of_ble_eq_true rfl, Nat.le_of_ble_eq_true rfl⟩ dX4_corn_34 (fun w2 h_7 => ?_)
      obtain rfl := h_7
      refine q_perm (ws' := w_M (k_Z M) B X (d_bf D, f_rw (a_F X), d_gn D, d_tk D, d_fr D, d_to D, d_vl D, d_fa D)) (k_pick [2, 0, 3, 4, 1, 5, 6, 7, 8, 9, 10] (show (List.range 11).Perm _ by decide) rfl) ?_
      refine q_iconst 0 K dX4_corn_37 rfl ?_
      refine q_istore_n (lv' := [(3, .int 0), (0, .ref (B 0)), (1, .int (nI f)), (2, .int v)]) K dX4_corn_38 (by decide) rfl ?_
      refine q_loop (α := Nat × (Nat → Int32)) (fun n9 x9 => (x9.1 + n9 = 101) ∧ o_find (p_corn (a_F X) f v) 101 0 = o_find (p_corn (a_F X) f v) n9 x9.1) 39 (fun x9 => [(3, .int (nI x9.1)), (0, .ref (B 0)), (1, .int (nI f)), (2, .int v)]) (fun x9 => w_M (k_Z M) B (f_hoursR (f_gn 0) (a_F X) x9.1, a_K X, a_kp X, a_fd X, a_tp X, a_S X) (d_bf D, f_rw (a_F X), x9.2, d_tk D, d_fr D, d_to D, d_vl D, d_fa D)) (fun n_8 x9 hI_9 ih_10 => ?_) 101 (0, d_gn D) ⟨rfl, rfl⟩
      obtain ⟨i, T1⟩ := x9
      dsimp only at hI_9 ih_10 ⊢
      obtain ⟨hI, hF⟩ := hI_9
      refine q_iload_n K 0 dX4_corn_39 rfl ?_
      refine q_bipush 100 K dX4_corn_40 rfl ?_
      refine q_icmp_gt 68 K dX4_corn_42 (by decide) (fun c_11 => ?_) (fun c_11 => ?_)
      · have c_11n : 100 < i := (nI_ltI (a := 100) (b := i) (by omega) (by omega)).mp c_11
        refine q_aload_n K 1 dX4_corn_68 rfl ?_
        refine q_get (.ref (B 4)) K ws_X4 0 rfl rfl 3 (by decide) fl_X4_19 rfl dX4_corn_69 ?_
        refine q_aload_n K 1 dX4_corn_72 rfl ?_
        refine q_get (.ref (B 1)) K ws_X4 0 rfl rfl 0 (by decide) fl_X4_7 rfl dX4_corn_73 ?_
        refine q_perm (ws' := ([4, 1, 0, 2, 3, 5, 6, 7, 8, 9, 10] : List Nat).map (fun i9 => (w_M (k_Z M) B (f_hoursR (f_gn 0) (a_F X) i, a_K X, a_kp X, a_fd X, a_tp X, a_S X) (d_bf D, f_rw (a_F X), T1, d_tk D, d_fr D, d_to D, d_vl D, d_fa D)).getD i9 (0, .inr (0, [])))) (k_pick _ (show (List.range 11).Perm _ by decide) rfl) ?_
        refine q_csV (rest := []) K ks_X4_copyRow (c_X4_copyRow (k_l M) (k_Z M) (B 4) (B 1) (f_rw (a_F X)) (f_rw (f_hoursR (f_gn 0) (a_F X) i))) [] (([0, 2, 3, 5, 6, 7, 8, 9, 10] : List Nat).map (fun i9 => (w_M (k_Z M) B (f_hoursR (f_gn 0) (a_F X) i, a_K X, a_kp X, a_fd X, a_tp X, a_S X) (d_bf D, f_rw (a_F X), T1, d_tk D, d_fr D, d_to D, d_vl D, d_fa D)).getD i9 (0, .inr (0, [])))) rfl ml_X4_141 rfl rfl (Nat.le_of_ble_eq_true rfl) ⟨Nat.le_of_ble_eq_true rfl, Nat.le_of_ble_eq_true rfl⟩ dX4_corn_76 (fun w2 h_12 => ?_)
        obtain rfl := h_12
        refine q_perm (ws' := w_M (k_Z M) B X (d_bf D, f_rw (a_F X), T1, d_tk D, d_fr D, d_to D, d_vl D, d_fa D)) (k_pick [2, 1, 3, 4, 0, 5, 6, 7, 8, 9, 10] (show (List.range 11).Perm _ by decide) rfl) ?_
        refine q_iload_n K 0 dX4_corn_79 rfl ?_
        refine q_bipush 100 K dX4_corn_80 rfl ?_
        refine q_icmp_gt 89 K dX4_corn_82 (by decide) (fun c_13 => ?_) (fun c_13 => ?_)
        · have c_13n : 100 < i := (nI_ltI (a := 100) (b := i) (by omega) (by omega)).mp c_13
          refine q_aload_n K 1 dX4_corn_89 rfl ?_
          refine q_ldc K dX4_corn_90 ct_X4_47 ?_
          refine q_eqi (r_fin 3) (by decide) ?_
          refine q_wI (q0 := 0) (As := [.int (r_fin 3)]) (rest := []) K kv_X4_finds (c_X4_finds (k_l M) (k_Z M) B X (d_bf D, f_rw (a_F X), T1, d_tk D, d_fr D, d_to D, d_vl D, d_fa D) 3 (by omega)) rfl rfl ml_X4_48 rfl rfl (Nat.le_of_ble_eq_true rfl) ⟨Nat.le_of_ble_eq_true rfl, Nat.le_of_ble_eq_true rfl⟩ dX4_corn_92 (fun r_15 w2 h_14 => ?_)
          obtain ⟨e_r_15, rfl⟩ := h_14
          refine q_eqi (r_fin 3) e_r_15 ?_
          refine q_ws (ws' := w_M (k_Z M) B (a_F X, a_K X, a_kp X, fd_up (a_fd X) 3, a_tp X, a_S X) (d_bf D, f_rw (a_F X), T1, d_tk D, d_fr D, d_to D, d_vl D, d_fa D)) rfl ?_
          exact Rt _ _ (r_fin 3) (w_M (k_Z M) B (a_F X, a_K X, a_kp X, fd_up (a_fd X) 3, a_tp X, a_S X) (d_bf D, f_rw (a_F X), T1, d_tk D, d_fr D, d_to D, d_vl D, d_fa D)) dX4_corn_95 rfl (⟨(d_bf D, f_rw (a_F X), T1, d_tk D, d_fr D, d_to D, d_vl D, d_fa D), by simp only [o_corn, a_fin, if_pos c_2, if_pos c_6, if_pos c_11, if_pos c_13, nI_clamp (n := f) (by omega), (show o_find (p_corn (a_F X) f v) 101 0 = 101 by rw [hF, show n_8 = 0 by omega, o_find]; omega), o_none, if_neg (show ¬ 101 < 101 by omega)] <;> rfl, by simp only [o_corn, a_fin, if_pos c_2, if_pos c_6, if_pos c_11, if_pos c_13, nI_clamp (n := f) (by omega), (show o_find (p_corn (a_F X) f v) 101 0 = 101 by rw [hF, show n_8 = 0 by omega, o_find]; omega), o_none, if_neg (show ¬ 101 < 101 by omega)] <;> rfl⟩)
        · have c_13n : ¬ (100 < i) := fun h9 => c_13 ((nI_ltI (a := 100) (b := i) (by omega) (by omega)).mpr h9)
          exfalso
          omega
      · have c_11n : ¬ (100 < i) := fun h9 => c_11 ((nI_ltI (a := 100) (b := i) (by omega) (by omega)).mpr h9)
        refine q_aload_n K 1 dX4_corn_45 rfl ?_
        refine q_get (.ref (B 1)) K ws_X4 0 rfl rfl 0 (by decide) fl_X4_7 rfl dX4_corn_46 ?_
        refine q_iconst 4 K dX4_corn_49 rfl ?_
        refine q_iload_n K 2 dX4_corn_50 rfl ?_
        refine q_iadd K dX4_corn_51 ?_
        refine q_eqi (nI (4 + f)) (kn_add 4 f) ?_
        refine q_iald K 1 rfl (vp_in_nI (n := 4 + f) (N := 71) (by omega) (by omega)) dX4_corn_52 ?_
        refine q_eqi (f_bs (f_hoursR (f_gn 0) (a_F X) i) f) (by rw [nI_clamp (n := 4 + f) (by omega)]; exact rw_bs _ (by omega)) ?_
        refine q_eqi (f_bs (f_hoursC goA (a_F X) i) f) (hC_bs hm hm2 _ _) ?_
        refine q_iload_n K 3 dX4_corn_53 rfl ?_
        refine q_icmp_ge 68 K dX4_corn_54 (by decide) (fun c_16 => ?_) (fun c_16 => ?_)
        · refine q_aload_n K 1 dX4_corn_68 rfl ?_
          refine q_get (.ref (B 4)) K ws_X4 0 rfl rfl 3 (by decide) fl_X4_19 rfl dX4_corn_69 ?_
          refine q_aload_n K 1 dX4_corn_72 rfl ?_
          refine q_get (.ref (B 1)) K ws_X4 0 rfl rfl 0 (by decide) fl_X4_7 rfl dX4_corn_73 ?_
          refine q_perm (ws' := ([4, 1, 0, 2, 3, 5, 6, 7, 8, 9, 10] : List Nat).map (fun i9 => (w_M (k_Z M) B (f_hoursR (f_gn 0) (a_F X) i, a_K X, a_kp X, a_fd X, a_tp X, a_S X) (d_bf D, f_rw (a_F X), T1, d_tk D, d_fr D, d_to D, d_vl D, d_fa D)).getD i9 (0, .inr (0, [])))) (k_pick _ (show (List.range 11).Perm _ by decide) rfl) ?_
          refine q_csV (rest := []) K ks_X4_copyRow (c_X4_copyRow (k_l M) (k_Z M) (B 4) (B 1) (f_rw (a_F X)) (f_rw (f_hoursR (f_gn 0) (a_F X) i))) [] (([0, 2, 3, 5, 6, 7, 8, 9, 10] : List Nat).map (fun i9 => (w_M (k_Z M) B (f_hoursR (f_gn 0) (a_F X) i, a_K X, a_kp X, a_fd X, a_tp X, a_S X) (d_bf D, f_rw (a_F X), T1, d_tk D, d_fr D, d_to D, d_vl D, d_fa D)).getD i9 (0, .inr (0, [])))) rfl ml_X4_141 rfl rfl (Nat.le_of_ble_eq_true rfl) ⟨Nat.le_of_ble_eq_true rfl, Nat.le_of_ble_eq_true rfl⟩ dX4_corn_76 (fun w2 h_17 => ?_)
          obtain rfl := h_17
          refine q_perm (ws' := w_M (k_Z M) B X (d_bf D, f_rw (a_F X), T1, d_tk D, d_fr D, d_to D, d_vl D, d_fa D)) (k_pick [2, 1, 3, 4, 0, 5, 6, 7, 8, 9, 10] (show (List.range 11).Perm _ by decide) rfl) ?_
          refine q_iload_n K 0 dX4_corn_79 rfl ?_
          refine q_bipush 100 K dX4_corn_80 rfl ?_
          refine q_icmp_gt 89 K dX4_corn_82 (by decide) (fun c_18 => ?_) (fun c_18 => ?_)
          · have c_18n : 100 < i := (nI_ltI (a := 100) (b := i) (by omega) (by omega)).mp c_18
            exfalso
            omega
          · have c_18n : ¬ (100 < i) := fun h9 => c_18 ((nI_ltI (a := 100) (b := i) (by omega) (by omega)).mpr h9)
            refine q_iload_n K 0 dX4_corn_85 rfl ?_
            refine q_goto 95 K dX4_corn_86 (by decide) ?_
            exact Rt _ _ (nI i) (w_M (k_Z M) B X (d_bf D, f_rw (a_F X), T1, d_tk D, d_fr D, d_to D, d_vl D, d_fa D)) dX4_corn_95 rfl (⟨(d_bf D, f_rw (a_F X), T1, d_tk D, d_fr D, d_to D, d_vl D, d_fa D), by simp only [o_corn, a_fin, if_pos c_2, if_pos c_6, if_neg c_11, if_pos c_16, if_neg c_18, nI_clamp (n := f) (by omega), (show o_find (p_corn (a_F X) f v) 101 0 = i by rw [hF, show n_8 = (n_8 - 1) + 1 by omega, o_find, if_pos (by rw [p_corn, decide_eq_false (Int32.not_lt.mpr c_16)] <;> rfl)]), o_none, if_pos (show i < 101 by omega)] <;> rfl, by simp only [o_corn, a_fin, if_pos c_2, if_pos c_6, if_neg c_11, if_pos c_16, if_neg c_18, nI_clamp (n := f) (by omega), (show o_find (p_corn (a_F X) f v) 101 0 = i by rw [hF, show n_8 = (n_8 - 1) + 1 by omega, o_find, if_pos (by rw [p_corn, decide_eq_false (Int32.not_lt.mpr c_16)] <;> rfl)]), o_none, if_pos (show i < 101 by omega)] <;> rfl⟩)
        · refine q_aload_n K 1 dX4_corn_57 rfl ?_
          refine q_iconst 0 K dX4_corn_58 rfl ?_
          refine q_wV (q0 := 0) (As := [.int 0]) (rest := []) K kv_X4_hourBut (c_X4_hourBut (k_l M) (k_Z M) B (f_hoursR (f_gn 0) (a_F X) i, a_K X, a_kp X, a_fd X, a_tp X, a_S X) (d_bf D, f_rw (a_F X), T1, d_tk D, d_fr D, d_to D, d_vl D, d_fa D) m hm ((f_hoursR_wk _ _ _).trans hm2) (f_ok_hoursR _ hok (by rw [f_mm hm hm2]; exact hm) i) 0) rfl rfl ml_X4_115 rfl rfl (Nat.le_of_ble_eq_true rfl) ⟨Nat.le_of_ble_eq_true rfl, Nat.le_of_ble_eq_true rfl⟩ dX4_corn_59 (fun w2 h_19 => ?_)
          obtain ⟨x_21, rfl⟩ := h_19
          refine q_ws (ws' := w_M (k_Z M) B (f_hourR (f_gn 0) (f_hoursR (f_gn 0) (a_F X) i), a_K X, a_kp X, a_fd X, a_tp X, a_S X) (d_bf D, f_rw (a_F X), x_21, d_tk D, d_fr D, d_to D, d_vl D, d_fa D)) rfl ?_
          refine q_ws (ws' := w_M (k_Z M) B (f_hoursR (f_gn 0) (a_F X) (i + 1), a_K X, a_kp X, a_fd X, a_tp X, a_S X) (d_bf D, f_rw (a_F X), x_21, d_tk D, d_fr D, d_to D, d_vl D, d_fa D)) rfl ?_
          refine q_iinc (nI (i + 1)) (lv' := [(3, .int (nI (i + 1))), (0, .ref (B 0)), (1, .int (nI f)), (2, .int v)]) K 0 dX4_corn_62 rfl (kn_inc i) (by decide) rfl ?_
          refine q_goto 39 K dX4_corn_65 (by decide) ?_
          exact ih_10 (n_8 - 1) (i + 1, x_21) (by omega) ⟨by show i + 1 + (n_8 - 1) = 101; omega, by rw [hF, show n_8 = (n_8 - 1) + 1 by omega, o_find, if_neg (by rw [p_corn, decide_eq_true (Int32.not_le.mp c_16)]; decide)] <;> rfl⟩
    · have c_6 : ¬ (inR v 0 9999) := (kn_eq e_r_5).mp c_6
      refine q_aload_n K 0 dX4_corn_19 rfl ?_
      refine q_ldc K dX4_corn_20 ct_X4_40 ?_
      refine q_eqi (r_fin 0) (by decide) ?_
      refine q_wI (q0 := 0) (As := [.int (r_fin 0)]) (rest := []) K kv_X4_finds (c_X4_finds (k_l M) (k_Z M) B X D 0 (by omega)) rfl rfl ml_X4_48 rfl rfl (Nat.le_of_ble_eq_true rfl) ⟨Nat.le_of_ble_eq_true rfl, Nat.le_of_ble_eq_true rfl⟩ dX4_corn_22 (fun r_23 w2 h_22 => ?_)
      obtain ⟨e_r_23, rfl⟩ := h_22
      refine q_eqi (r_fin 0) e_r_23 ?_
      refine q_ws (ws' := w_M (k_Z M) B (a_F X, a_K X, a_kp X, fd_up (a_fd X) 0, a_tp X, a_S X) D) rfl ?_
      exact Rt _ _ (r_fin 0) (w_M (k_Z M) B (a_F X, a_K X, a_kp X, fd_up (a_fd X) 0, a_tp X, a_S X) D) dX4_corn_25 rfl (⟨D, by simp only [o_corn, a_fin, if_pos c_2, if_neg c_6, e_r_1, e_r_5, nI_clamp (n := f) (by omega)] <;> rfl, by simp only [o_corn, a_fin, if_pos c_2, if_neg c_6, nI_clamp (n := f) (by omega)] <;> rfl⟩)
theorem kv_X4_corn : k_iv yX4_corn cX4_corn 4 (some .int) 2 := ⟨⟨im_X4_corn, se_X4_corn⟩, in_X4, co_X4_corn, by decide +kernel⟩
set_option maxHeartbeats 4000000 in
set_option maxRecDepth 100000 in
theorem c_X4_when (l : Launch) (Z : kz_Z) (B : Nat → Nat) (X : AS) (D : DJ) (m : Nat) (hm : m ≤ 8) (hm2 : f_wk (a_F X) = nI m) (hok : f_ok (a_F X)) (gate s : Int32) : KI l Z yX4_when cX4_when 4 .int 4 97 [.ref (B 0), .int gate, .int s] (w_M Z B X D) (fun r w2 => ∃ D2, r = (o_when X gate s).1 ∧ w2 = w_M Z B (o_when X gate s).2 D2) := by
  refine ki_of (by decide) [(0, .ref (B 0)), (1, .int gate), (2, .int s)] (Nat.le_of_ble_eq_true rfl) rfl ?_
  intro M e1 e2 K Rt
  subst e1 e2
  refine q_iload_n K 1 dX4_when_0 rfl ?_
  refine q_cp (rest := []) K ks_X4_isGate (c_X4_isGate (k_l M) (k_Z M) gate) ml_X4_68 rfl rfl (Nat.le_of_ble_eq_true rfl) ⟨Nat.le_of_ble_eq_true rfl, Nat.le_of_ble_eq_true rfl⟩ dX4_when_1 (fun r_1 e_r_1 => ?_)
  refine q_if_eq 14 K dX4_when_4 (by decide) (fun c_2 => ?_) (fun c_2 => ?_)
  · have c_2 : ¬ (inR gate 0 7) := (kn_eq e_r_1).mp c_2
    refine q_aload_n K 0 dX4_when_14 rfl ?_
    refine q_ldc K dX4_when_15 ct_X4_40 ?_
    refine q_eqi (r_fin 0) (by decide) ?_
    refine q_wI (q0 := 0) (As := [.int (r_fin 0)]) (rest := []) K kv_X4_finds (c_X4_finds (k_l M) (k_Z M) B X D 0 (by omega)) rfl rfl ml_X4_48 rfl rfl (Nat.le_of_ble_eq_true rfl) ⟨Nat.le_of_ble_eq_true rfl, Nat.le_of_ble_eq_true rfl⟩ dX4_when_17 (fun r_4 w2 h_3 => ?_)
    obtain ⟨e_r_4, rfl⟩ := h_3
    refine q_eqi (r_fin 0) e_r_4 ?_
    refine q_ws (ws' := w_M (k_Z M) B (a_F X, a_K X, a_kp X, fd_up (a_fd X) 0, a_tp X, a_S X) D) rfl ?_
    exact Rt _ _ (r_fin 0) (w_M (k_Z M) B (a_F X, a_K X, a_kp X, fd_up (a_fd X) 0, a_tp X, a_S X) D) dX4_when_20 rfl (⟨D, by simp only [o_when, a_fin, if_neg c_2, e_r_1] <;> rfl, by simp only [o_when, a_fin, if_neg c_2] <;> rfl⟩)
  · have c_2 : inR gate 0 7 := (kn_ne e_r_1).mp c_2
    obtain ⟨g, h_g, e_g⟩ := kn_rng (n := 7) c_2 rfl
    subst e_g
    refine q_iload_n K 2 dX4_when_7 rfl ?_
    refine q_cp (rest := []) K ks_X4_isStand (c_X4_isStand (k_l M) (k_Z M) s) ml_X4_71 rfl rfl (Nat.le_of_ble_eq_true rfl) ⟨Nat.le_of_ble_eq_true rfl, Nat.le_of_ble_eq_true rfl⟩ dX4_when_8 (fun r_5 e_r_5 => ?_)
    refine q_if_ne 21 K dX4_when_11 (by decide) (fun c_6 => ?_) (fun c_6 => ?_)
    · have c_6 : inR s 0 3 := (kn_ne e_r_5).mp c_6
      refine q_aload_n K 0 dX4_when_21 rfl ?_
      refine q_get (.ref (B 1)) K ws_X4 0 rfl rfl 0 (by decide) fl_X4_7 rfl dX4_when_22 ?_
      refine q_aload_n K 0 dX4_when_25 rfl ?_
      refine q_get (.ref (B 4)) K ws_X4 0 rfl rfl 3 (by decide) fl_X4_19 rfl dX4_when_26 ?_
      refine q_perm (ws' := ([1, 4, 0, 2, 3, 5, 6, 7, 8, 9, 10] : List Nat).map (fun i9 => (w_M (k_Z M) B X D).getD i9 (0, .inr (0, [])))) (k_pick _ (show (List.range 11).Perm _ by decide) rfl) ?_
      refine q_csV (rest := []) K ks_X4_copyRow (c_X4_copyRow (k_l M) (k_Z M) (B 1) (B 4) (f_rw (a_F X)) (d_as D)) [] (([0, 2, 3, 5, 6, 7, 8, 9, 10] : List Nat).map (fun i9 => (w_M (k_Z M) B X D).getD i9 (0, .inr (0, [])))) rfl ml_X4_141 rfl rfl (Nat.le_of_ble_eq_true rfl) ⟨Nat.le_of_ble_eq_true rfl, Nat.le_of_ble_eq_true rfl⟩ dX4_when_29 (fun w2 h_7 => ?_)
      obtain rfl := h_7
      refine q_perm (ws' := w_M (k_Z M) B X (d_bf D, f_rw (a_F X), d_gn D, d_tk D, d_fr D, d_to D, d_vl D, d_fa D)) (k_pick [2, 0, 3, 4, 1, 5, 6, 7, 8, 9, 10] (show (List.range 11).Perm _ by decide) rfl) ?_
      refine q_iconst 0 K dX4_when_32 rfl ?_
      refine q_istore_n (lv' := [(3, .int 0), (0, .ref (B 0)), (1, .int (nI g)), (2, .int s)]) K dX4_when_33 (by decide) rfl ?_
      refine q_loop (α := Nat × (Nat → Int32)) (fun n9 x9 => (x9.1 + n9 = 101) ∧ o_find (p_when (a_F X) g s) 101 0 = o_find (p_when (a_F X) g s) n9 x9.1) 34 (fun x9 => [(3, .int (nI x9.1)), (0, .ref (B 0)), (1, .int (nI g)), (2, .int s)]) (fun x9 => w_M (k_Z M) B (f_hoursR (f_gn 0) (a_F X) x9.1, a_K X, a_kp X, a_fd X, a_tp X, a_S X) (d_bf D, f_rw (a_F X), x9.2, d_tk D, d_fr D, d_to D, d_vl D, d_fa D)) (fun n_8 x9 hI_9 ih_10 => ?_) 101 (0, d_gn D) ⟨rfl, rfl⟩
      obtain ⟨i, T1⟩ := x9
      dsimp only at hI_9 ih_10 ⊢
      obtain ⟨hI, hF⟩ := hI_9
      refine q_iload_n K 0 dX4_when_34 rfl ?_
      refine q_bipush 100 K dX4_when_35 rfl ?_
      refine q_icmp_gt 64 K dX4_when_37 (by decide) (fun c_11 => ?_) (fun c_11 => ?_)
      · have c_11n : 100 < i := (nI_ltI (a := 100) (b := i) (by omega) (by omega)).mp c_11
        refine q_aload_n K 1 dX4_when_64 rfl ?_
        refine q_get (.ref (B 4)) K ws_X4 0 rfl rfl 3 (by decide) fl_X4_19 rfl dX4_when_65 ?_
        refine q_aload_n K 1 dX4_when_68 rfl ?_
        refine q_get (.ref (B 1)) K ws_X4 0 rfl rfl 0 (by decide) fl_X4_7 rfl dX4_when_69 ?_
        refine q_perm (ws' := ([4, 1, 0, 2, 3, 5, 6, 7, 8, 9, 10] : List Nat).map (fun i9 => (w_M (k_Z M) B (f_hoursR (f_gn 0) (a_F X) i, a_K X, a_kp X, a_fd X, a_tp X, a_S X) (d_bf D, f_rw (a_F X), T1, d_tk D, d_fr D, d_to D, d_vl D, d_fa D)).getD i9 (0, .inr (0, [])))) (k_pick _ (show (List.range 11).Perm _ by decide) rfl) ?_
        refine q_csV (rest := []) K ks_X4_copyRow (c_X4_copyRow (k_l M) (k_Z M) (B 4) (B 1) (f_rw (a_F X)) (f_rw (f_hoursR (f_gn 0) (a_F X) i))) [] (([0, 2, 3, 5, 6, 7, 8, 9, 10] : List Nat).map (fun i9 => (w_M (k_Z M) B (f_hoursR (f_gn 0) (a_F X) i, a_K X, a_kp X, a_fd X, a_tp X, a_S X) (d_bf D, f_rw (a_F X), T1, d_tk D, d_fr D, d_to D, d_vl D, d_fa D)).getD i9 (0, .inr (0, [])))) rfl ml_X4_141 rfl rfl (Nat.le_of_ble_eq_true rfl) ⟨Nat.le_of_ble_eq_true rfl, Nat.le_of_ble_eq_true rfl⟩ dX4_when_72 (fun w2 h_12 => ?_)
        obtain rfl := h_12
        refine q_perm (ws' := w_M (k_Z M) B X (d_bf D, f_rw (a_F X), T1, d_tk D, d_fr D, d_to D, d_vl D, d_fa D)) (k_pick [2, 1, 3, 4, 0, 5, 6, 7, 8, 9, 10] (show (List.range 11).Perm _ by decide) rfl) ?_
        refine q_iload_n K 0 dX4_when_75 rfl ?_
        refine q_bipush 100 K dX4_when_76 rfl ?_
        refine q_icmp_gt 85 K dX4_when_78 (by decide) (fun c_13 => ?_) (fun c_13 => ?_)
        · have c_13n : 100 < i := (nI_ltI (a := 100) (b := i) (by omega) (by omega)).mp c_13
          refine q_aload_n K 1 dX4_when_85 rfl ?_
          refine q_ldc K dX4_when_86 ct_X4_47 ?_
          refine q_eqi (r_fin 3) (by decide) ?_
          refine q_wI (q0 := 0) (As := [.int (r_fin 3)]) (rest := []) K kv_X4_finds (c_X4_finds (k_l M) (k_Z M) B X (d_bf D, f_rw (a_F X), T1, d_tk D, d_fr D, d_to D, d_vl D, d_fa D) 3 (by omega)) rfl rfl ml_X4_48 rfl rfl (Nat.le_of_ble_eq_true rfl) ⟨Nat.le_of_ble_eq_true rfl, Nat.le_of_ble_eq_true rfl⟩ dX4_when_88 (fun r_15 w2 h_14 => ?_)
          obtain ⟨e_r_15, rfl⟩ := h_14
          refine q_eqi (r_fin 3) e_r_15 ?_
          refine q_ws (ws' := w_M (k_Z M) B (a_F X, a_K X, a_kp X, fd_up (a_fd X) 3, a_tp X, a_S X) (d_bf D, f_rw (a_F X), T1, d_tk D, d_fr D, d_to D, d_vl D, d_fa D)) rfl ?_
          exact Rt _ _ (r_fin 3) (w_M (k_Z M) B (a_F X, a_K X, a_kp X, fd_up (a_fd X) 3, a_tp X, a_S X) (d_bf D, f_rw (a_F X), T1, d_tk D, d_fr D, d_to D, d_vl D, d_fa D)) dX4_when_91 rfl (⟨(d_bf D, f_rw (a_F X), T1, d_tk D, d_fr D, d_to D, d_vl D, d_fa D), by simp only [o_when, a_fin, if_pos c_2, if_pos c_6, if_pos c_11, if_pos c_13, nI_clamp (n := g) (by omega), (show o_find (p_when (a_F X) g s) 101 0 = 101 by rw [hF, show n_8 = 0 by omega, o_find]; omega), o_none, if_neg (show ¬ 101 < 101 by omega)] <;> rfl, by simp only [o_when, a_fin, if_pos c_2, if_pos c_6, if_pos c_11, if_pos c_13, nI_clamp (n := g) (by omega), (show o_find (p_when (a_F X) g s) 101 0 = 101 by rw [hF, show n_8 = 0 by omega, o_find]; omega), o_none, if_neg (show ¬ 101 < 101 by omega)] <;> rfl⟩)
        · have c_13n : ¬ (100 < i) := fun h9 => c_13 ((nI_ltI (a := 100) (b := i) (by omega) (by omega)).mpr h9)
          exfalso
          omega
      · have c_11n : ¬ (100 < i) := fun h9 => c_11 ((nI_ltI (a := 100) (b := i) (by omega) (by omega)).mpr h9)
        refine q_aload_n K 1 dX4_when_40 rfl ?_
        refine q_get (.ref (B 1)) K ws_X4 0 rfl rfl 0 (by decide) fl_X4_7 rfl dX4_when_41 ?_
        refine q_bipush 13 K dX4_when_44 rfl ?_
        refine q_iload_n K 2 dX4_when_46 rfl ?_
        refine q_iadd K dX4_when_47 ?_
        refine q_eqi (nI (13 + g)) (kn_add 13 g) ?_
        refine q_iald K 1 rfl (vp_in_nI (n := 13 + g) (N := 71) (by omega) (by omega)) dX4_when_48 ?_
        refine q_eqi (f_gs (f_hoursR (f_gn 0) (a_F X) i) g) (by rw [nI_clamp (n := 13 + g) (by omega)]; exact rw_gs _ (by omega)) ?_
        refine q_eqi (f_gs (f_hoursC goA (a_F X) i) g) (hC_gs hm hm2 _ _) ?_
        refine q_iload_n K 3 dX4_when_49 rfl ?_
        refine q_icmp_eq 64 K dX4_when_50 (by decide) (fun c_16 => ?_) (fun c_16 => ?_)
        · refine q_aload_n K 1 dX4_when_64 rfl ?_
          refine q_get (.ref (B 4)) K ws_X4 0 rfl rfl 3 (by decide) fl_X4_19 rfl dX4_when_65 ?_
          refine q_aload_n K 1 dX4_when_68 rfl ?_
          refine q_get (.ref (B 1)) K ws_X4 0 rfl rfl 0 (by decide) fl_X4_7 rfl dX4_when_69 ?_
          refine q_perm (ws' := ([4, 1, 0, 2, 3, 5, 6, 7, 8, 9, 10] : List Nat).map (fun i9 => (w_M (k_Z M) B (f_hoursR (f_gn 0) (a_F X) i, a_K X, a_kp X, a_fd X, a_tp X, a_S X) (d_bf D, f_rw (a_F X), T1, d_tk D, d_fr D, d_to D, d_vl D, d_fa D)).getD i9 (0, .inr (0, [])))) (k_pick _ (show (List.range 11).Perm _ by decide) rfl) ?_
          refine q_csV (rest := []) K ks_X4_copyRow (c_X4_copyRow (k_l M) (k_Z M) (B 4) (B 1) (f_rw (a_F X)) (f_rw (f_hoursR (f_gn 0) (a_F X) i))) [] (([0, 2, 3, 5, 6, 7, 8, 9, 10] : List Nat).map (fun i9 => (w_M (k_Z M) B (f_hoursR (f_gn 0) (a_F X) i, a_K X, a_kp X, a_fd X, a_tp X, a_S X) (d_bf D, f_rw (a_F X), T1, d_tk D, d_fr D, d_to D, d_vl D, d_fa D)).getD i9 (0, .inr (0, [])))) rfl ml_X4_141 rfl rfl (Nat.le_of_ble_eq_true rfl) ⟨Nat.le_of_ble_eq_true rfl, Nat.le_of_ble_eq_true rfl⟩ dX4_when_72 (fun w2 h_17 => ?_)
          obtain rfl := h_17
          refine q_perm (ws' := w_M (k_Z M) B X (d_bf D, f_rw (a_F X), T1, d_tk D, d_fr D, d_to D, d_vl D, d_fa D)) (k_pick [2, 1, 3, 4, 0, 5, 6, 7, 8, 9, 10] (show (List.range 11).Perm _ by decide) rfl) ?_
          refine q_iload_n K 0 dX4_when_75 rfl ?_
          refine q_bipush 100 K dX4_when_76 rfl ?_
          refine q_icmp_gt 85 K dX4_when_78 (by decide) (fun c_18 => ?_) (fun c_18 => ?_)
          · have c_18n : 100 < i := (nI_ltI (a := 100) (b := i) (by omega) (by omega)).mp c_18
            exfalso
            omega
          · have c_18n : ¬ (100 < i) := fun h9 => c_18 ((nI_ltI (a := 100) (b := i) (by omega) (by omega)).mpr h9)
            refine q_iload_n K 0 dX4_when_81 rfl ?_
            refine q_goto 91 K dX4_when_82 (by decide) ?_
            exact Rt _ _ (nI i) (w_M (k_Z M) B X (d_bf D, f_rw (a_F X), T1, d_tk D, d_fr D, d_to D, d_vl D, d_fa D)) dX4_when_91 rfl (⟨(d_bf D, f_rw (a_F X), T1, d_tk D, d_fr D, d_to D, d_vl D, d_fa D), by simp only [o_when, a_fin, if_pos c_2, if_pos c_6, if_neg c_11, if_pos c_16, if_neg c_18, nI_clamp (n := g) (by omega), (show o_find (p_when (a_F X) g s) 101 0 = i by rw [hF, show n_8 = (n_8 - 1) + 1 by omega, o_find, if_pos (by rw [p_when, decide_eq_true c_16] <;> rfl)]), o_none, if_pos (show i < 101 by omega)] <;> rfl, by simp only [o_when, a_fin, if_pos c_2, if_pos c_6, if_neg c_11, if_pos c_16, if_neg c_18, nI_clamp (n := g) (by omega), (show o_find (p_when (a_F X) g s) 101 0 = i by rw [hF, show n_8 = (n_8 - 1) + 1 by omega, o_find, if_pos (by rw [p_when, decide_eq_true c_16] <;> rfl)]), o_none, if_pos (show i < 101 by omega)] <;> rfl⟩)
        · refine q_aload_n K 1 dX4_when_53 rfl ?_
          refine q_iconst 0 K dX4_when_54 rfl ?_
          refine q_wV (q0 := 0) (As := [.int 0]) (rest := []) K kv_X4_hourBut (c_X4_hourBut (k_l M) (k_Z M) B (f_hoursR (f_gn 0) (a_F X) i, a_K X, a_kp X, a_fd X, a_tp X, a_S X) (d_bf D, f_rw (a_F X), T1, d_tk D, d_fr D, d_to D, d_vl D, d_fa D) m hm ((f_hoursR_wk _ _ _).trans hm2) (f_ok_hoursR _ hok (by rw [f_mm hm hm2]; exact hm) i) 0) rfl rfl ml_X4_115 rfl rfl (Nat.le_of_ble_eq_true rfl) ⟨Nat.le_of_ble_eq_true rfl, Nat.le_of_ble_eq_true rfl⟩ dX4_when_55 (fun w2 h_19 => ?_)
          obtain ⟨x_21, rfl⟩ := h_19
          refine q_ws (ws' := w_M (k_Z M) B (f_hourR (f_gn 0) (f_hoursR (f_gn 0) (a_F X) i), a_K X, a_kp X, a_fd X, a_tp X, a_S X) (d_bf D, f_rw (a_F X), x_21, d_tk D, d_fr D, d_to D, d_vl D, d_fa D)) rfl ?_
          refine q_ws (ws' := w_M (k_Z M) B (f_hoursR (f_gn 0) (a_F X) (i + 1), a_K X, a_kp X, a_fd X, a_tp X, a_S X) (d_bf D, f_rw (a_F X), x_21, d_tk D, d_fr D, d_to D, d_vl D, d_fa D)) rfl ?_
          refine q_iinc (nI (i + 1)) (lv' := [(3, .int (nI (i + 1))), (0, .ref (B 0)), (1, .int (nI g)), (2, .int s)]) K 0 dX4_when_58 rfl (kn_inc i) (by decide) rfl ?_
          refine q_goto 34 K dX4_when_61 (by decide) ?_
          exact ih_10 (n_8 - 1) (i + 1, x_21) (by omega) ⟨by show i + 1 + (n_8 - 1) = 101; omega, by rw [hF, show n_8 = (n_8 - 1) + 1 by omega, o_find, if_neg (by rw [p_when, decide_eq_false c_16]; decide)] <;> rfl⟩
    · have c_6 : ¬ (inR s 0 3) := (kn_eq e_r_5).mp c_6
      refine q_aload_n K 0 dX4_when_14 rfl ?_
      refine q_ldc K dX4_when_15 ct_X4_40 ?_
      refine q_eqi (r_fin 0) (by decide) ?_
      refine q_wI (q0 := 0) (As := [.int (r_fin 0)]) (rest := []) K kv_X4_finds (c_X4_finds (k_l M) (k_Z M) B X D 0 (by omega)) rfl rfl ml_X4_48 rfl rfl (Nat.le_of_ble_eq_true rfl) ⟨Nat.le_of_ble_eq_true rfl, Nat.le_of_ble_eq_true rfl⟩ dX4_when_17 (fun r_23 w2 h_22 => ?_)
      obtain ⟨e_r_23, rfl⟩ := h_22
      refine q_eqi (r_fin 0) e_r_23 ?_
      refine q_ws (ws' := w_M (k_Z M) B (a_F X, a_K X, a_kp X, fd_up (a_fd X) 0, a_tp X, a_S X) D) rfl ?_
      exact Rt _ _ (r_fin 0) (w_M (k_Z M) B (a_F X, a_K X, a_kp X, fd_up (a_fd X) 0, a_tp X, a_S X) D) dX4_when_20 rfl (⟨D, by simp only [o_when, a_fin, if_pos c_2, if_neg c_6, e_r_1, e_r_5, nI_clamp (n := g) (by omega)] <;> rfl, by simp only [o_when, a_fin, if_pos c_2, if_neg c_6, nI_clamp (n := g) (by omega)] <;> rfl⟩)
theorem kv_X4_when : k_iv yX4_when cX4_when 4 (some .int) 2 := ⟨⟨im_X4_when, se_X4_when⟩, in_X4, co_X4_when, by decide +kernel⟩
set_option maxHeartbeats 4000000 in
set_option maxRecDepth 100000 in
theorem c_X4_meet (l : Launch) (Z : kz_Z) (B : Nat → Nat) (X : AS) (D : DJ) (m : Nat) (hm : m ≤ 8) (hm2 : f_wk (a_F X) = nI m) (hok : f_ok (a_F X)) (a b : Int32) : KI l Z yX4_meet cX4_meet 4 .int 4 97 [.ref (B 0), .int a, .int b] (w_M Z B X D) (fun r w2 => ∃ D2, r = (o_meet X a b).1 ∧ w2 = w_M Z B (o_meet X a b).2 D2) := by
  refine ki_of (by decide) [(0, .ref (B 0)), (1, .int a), (2, .int b)] (Nat.le_of_ble_eq_true rfl) rfl ?_
  intro M e1 e2 K Rt
  subst e1 e2
  refine q_aload_n K 0 dX4_meet_0 rfl ?_
  refine q_iload_n K 1 dX4_meet_1 rfl ?_
  refine q_wI (q0 := 0) (As := [.int a]) (rest := []) K kv_X4_isWalker (c_X4_isWalker (k_l M) (k_Z M) B X D m hm hm2 a) rfl rfl ml_X4_89 rfl rfl (Nat.le_of_ble_eq_true rfl) ⟨Nat.le_of_ble_eq_true rfl, Nat.le_of_ble_eq_true rfl⟩ dX4_meet_2 (fun r_2 w2 h_1 => ?_)
  obtain ⟨e_r_2, rfl⟩ := h_1
  refine q_if_eq 21 K dX4_meet_5 (by decide) (fun c_3 => ?_) (fun c_3 => ?_)
  · have c_3 : ¬ (isW X a) := (kn_eq e_r_2).mp c_3
    refine q_aload_n K 0 dX4_meet_21 rfl ?_
    refine q_ldc K dX4_meet_22 ct_X4_40 ?_
    refine q_eqi (r_fin 0) (by decide) ?_
    refine q_wI (q0 := 0) (As := [.int (r_fin 0)]) (rest := []) K kv_X4_finds (c_X4_finds (k_l M) (k_Z M) B X D 0 (by omega)) rfl rfl ml_X4_48 rfl rfl (Nat.le_of_ble_eq_true rfl) ⟨Nat.le_of_ble_eq_true rfl, Nat.le_of_ble_eq_true rfl⟩ dX4_meet_24 (fun r_5 w2 h_4 => ?_)
    obtain ⟨e_r_5, rfl⟩ := h_4
    refine q_eqi (r_fin 0) e_r_5 ?_
    refine q_ws (ws' := w_M (k_Z M) B (a_F X, a_K X, a_kp X, fd_up (a_fd X) 0, a_tp X, a_S X) D) rfl ?_
    exact Rt _ _ (r_fin 0) (w_M (k_Z M) B (a_F X, a_K X, a_kp X, fd_up (a_fd X) 0, a_tp X, a_S X) D) dX4_meet_27 rfl (⟨D, by simp only [o_meet, a_fin, if_neg c_3, e_r_2] <;> rfl, by simp only [o_meet, a_fin, if_neg c_3] <;> rfl⟩)
  · have c_3 : isW X a := (kn_ne e_r_2).mp c_3
    obtain ⟨u, h_u, e_u⟩ := isW_nat hm hm2 c_3
    subst e_u
    refine q_aload_n K 0 dX4_meet_8 rfl ?_
    refine q_iload_n K 2 dX4_meet_9 rfl ?_
    refine q_wI (q0 := 0) (As := [.int b]) (rest := []) K kv_X4_isWalker (c_X4_isWalker (k_l M) (k_Z M) B X D m hm hm2 b) rfl rfl ml_X4_89 rfl rfl (Nat.le_of_ble_eq_true rfl) ⟨Nat.le_of_ble_eq_true rfl, Nat.le_of_ble_eq_true rfl⟩ dX4_meet_10 (fun r_7 w2 h_6 => ?_)
    obtain ⟨e_r_7, rfl⟩ := h_6
    refine q_if_eq 21 K dX4_meet_13 (by decide) (fun c_8 => ?_) (fun c_8 => ?_)
    · have c_8 : ¬ (isW X b) := (kn_eq e_r_7).mp c_8
      refine q_aload_n K 0 dX4_meet_21 rfl ?_
      refine q_ldc K dX4_meet_22 ct_X4_40 ?_
      refine q_eqi (r_fin 0) (by decide) ?_
      refine q_wI (q0 := 0) (As := [.int (r_fin 0)]) (rest := []) K kv_X4_finds (c_X4_finds (k_l M) (k_Z M) B X D 0 (by omega)) rfl rfl ml_X4_48 rfl rfl (Nat.le_of_ble_eq_true rfl) ⟨Nat.le_of_ble_eq_true rfl, Nat.le_of_ble_eq_true rfl⟩ dX4_meet_24 (fun r_10 w2 h_9 => ?_)
      obtain ⟨e_r_10, rfl⟩ := h_9
      refine q_eqi (r_fin 0) e_r_10 ?_
      refine q_ws (ws' := w_M (k_Z M) B (a_F X, a_K X, a_kp X, fd_up (a_fd X) 0, a_tp X, a_S X) D) rfl ?_
      exact Rt _ _ (r_fin 0) (w_M (k_Z M) B (a_F X, a_K X, a_kp X, fd_up (a_fd X) 0, a_tp X, a_S X) D) dX4_meet_27 rfl (⟨D, by simp only [o_meet, a_fin, if_pos c_3, if_neg c_8, e_r_2, e_r_7, nI_clamp (n := u) (by omega)] <;> rfl, by simp only [o_meet, a_fin, if_pos c_3, if_neg c_8, nI_clamp (n := u) (by omega)] <;> rfl⟩)
    · have c_8 : isW X b := (kn_ne e_r_7).mp c_8
      obtain ⟨v, h_v, e_v⟩ := isW_nat hm hm2 c_8
      subst e_v
      refine q_iload_n K 1 dX4_meet_16 rfl ?_
      refine q_iload_n K 2 dX4_meet_17 rfl ?_
      refine q_icmp_ne 28 K dX4_meet_18 (by decide) (fun c_11 => ?_) (fun c_11 => ?_)
      · have c_11n : ¬ (u = v) := fun h9 => c_11 ((nI_eq (a := u) (b := v) (by omega) (by omega)).mpr h9)
        refine q_aload_n K 0 dX4_meet_28 rfl ?_
        refine q_get (.ref (B 1)) K ws_X4 0 rfl rfl 0 (by decide) fl_X4_7 rfl dX4_meet_29 ?_
        refine q_aload_n K 0 dX4_meet_32 rfl ?_
        refine q_get (.ref (B 4)) K ws_X4 0 rfl rfl 3 (by decide) fl_X4_19 rfl dX4_meet_33 ?_
        refine q_perm (ws' := ([1, 4, 0, 2, 3, 5, 6, 7, 8, 9, 10] : List Nat).map (fun i9 => (w_M (k_Z M) B X D).getD i9 (0, .inr (0, [])))) (k_pick _ (show (List.range 11).Perm _ by decide) rfl) ?_
        refine q_csV (rest := []) K ks_X4_copyRow (c_X4_copyRow (k_l M) (k_Z M) (B 1) (B 4) (f_rw (a_F X)) (d_as D)) [] (([0, 2, 3, 5, 6, 7, 8, 9, 10] : List Nat).map (fun i9 => (w_M (k_Z M) B X D).getD i9 (0, .inr (0, [])))) rfl ml_X4_141 rfl rfl (Nat.le_of_ble_eq_true rfl) ⟨Nat.le_of_ble_eq_true rfl, Nat.le_of_ble_eq_true rfl⟩ dX4_meet_36 (fun w2 h_12 => ?_)
        obtain rfl := h_12
        refine q_perm (ws' := w_M (k_Z M) B X (d_bf D, f_rw (a_F X), d_gn D, d_tk D, d_fr D, d_to D, d_vl D, d_fa D)) (k_pick [2, 0, 3, 4, 1, 5, 6, 7, 8, 9, 10] (show (List.range 11).Perm _ by decide) rfl) ?_
        refine q_iconst 0 K dX4_meet_39 rfl ?_
        refine q_istore_n (lv' := [(3, .int 0), (0, .ref (B 0)), (1, .int (nI u)), (2, .int (nI v))]) K dX4_meet_40 (by decide) rfl ?_
        refine q_loop (α := Nat × (Nat → Int32)) (fun n9 x9 => (x9.1 + n9 = 101) ∧ o_find (p_meet (a_F X) u v) 101 0 = o_find (p_meet (a_F X) u v) n9 x9.1) 41 (fun x9 => [(3, .int (nI x9.1)), (0, .ref (B 0)), (1, .int (nI u)), (2, .int (nI v))]) (fun x9 => w_M (k_Z M) B (f_hoursR (f_gn 0) (a_F X) x9.1, a_K X, a_kp X, a_fd X, a_tp X, a_S X) (d_bf D, f_rw (a_F X), x9.2, d_tk D, d_fr D, d_to D, d_vl D, d_fa D)) (fun n_13 x9 hI_14 ih_15 => ?_) 101 (0, d_gn D) ⟨rfl, rfl⟩
        obtain ⟨i, T1⟩ := x9
        dsimp only at hI_14 ih_15 ⊢
        obtain ⟨hI, hF⟩ := hI_14
        refine q_iload_n K 0 dX4_meet_41 rfl ?_
        refine q_bipush 100 K dX4_meet_42 rfl ?_
        refine q_icmp_gt 73 K dX4_meet_44 (by decide) (fun c_16 => ?_) (fun c_16 => ?_)
        · have c_16n : 100 < i := (nI_ltI (a := 100) (b := i) (by omega) (by omega)).mp c_16
          refine q_aload_n K 1 dX4_meet_73 rfl ?_
          refine q_get (.ref (B 4)) K ws_X4 0 rfl rfl 3 (by decide) fl_X4_19 rfl dX4_meet_74 ?_
          refine q_aload_n K 1 dX4_meet_77 rfl ?_
          refine q_get (.ref (B 1)) K ws_X4 0 rfl rfl 0 (by decide) fl_X4_7 rfl dX4_meet_78 ?_
          refine q_perm (ws' := ([4, 1, 0, 2, 3, 5, 6, 7, 8, 9, 10] : List Nat).map (fun i9 => (w_M (k_Z M) B (f_hoursR (f_gn 0) (a_F X) i, a_K X, a_kp X, a_fd X, a_tp X, a_S X) (d_bf D, f_rw (a_F X), T1, d_tk D, d_fr D, d_to D, d_vl D, d_fa D)).getD i9 (0, .inr (0, [])))) (k_pick _ (show (List.range 11).Perm _ by decide) rfl) ?_
          refine q_csV (rest := []) K ks_X4_copyRow (c_X4_copyRow (k_l M) (k_Z M) (B 4) (B 1) (f_rw (a_F X)) (f_rw (f_hoursR (f_gn 0) (a_F X) i))) [] (([0, 2, 3, 5, 6, 7, 8, 9, 10] : List Nat).map (fun i9 => (w_M (k_Z M) B (f_hoursR (f_gn 0) (a_F X) i, a_K X, a_kp X, a_fd X, a_tp X, a_S X) (d_bf D, f_rw (a_F X), T1, d_tk D, d_fr D, d_to D, d_vl D, d_fa D)).getD i9 (0, .inr (0, [])))) rfl ml_X4_141 rfl rfl (Nat.le_of_ble_eq_true rfl) ⟨Nat.le_of_ble_eq_true rfl, Nat.le_of_ble_eq_true rfl⟩ dX4_meet_81 (fun w2 h_17 => ?_)
          obtain rfl := h_17
          refine q_perm (ws' := w_M (k_Z M) B X (d_bf D, f_rw (a_F X), T1, d_tk D, d_fr D, d_to D, d_vl D, d_fa D)) (k_pick [2, 1, 3, 4, 0, 5, 6, 7, 8, 9, 10] (show (List.range 11).Perm _ by decide) rfl) ?_
          refine q_iload_n K 0 dX4_meet_84 rfl ?_
          refine q_bipush 100 K dX4_meet_85 rfl ?_
          refine q_icmp_gt 94 K dX4_meet_87 (by decide) (fun c_18 => ?_) (fun c_18 => ?_)
          · have c_18n : 100 < i := (nI_ltI (a := 100) (b := i) (by omega) (by omega)).mp c_18
            refine q_aload_n K 1 dX4_meet_94 rfl ?_
            refine q_ldc K dX4_meet_95 ct_X4_47 ?_
            refine q_eqi (r_fin 3) (by decide) ?_
            refine q_wI (q0 := 0) (As := [.int (r_fin 3)]) (rest := []) K kv_X4_finds (c_X4_finds (k_l M) (k_Z M) B X (d_bf D, f_rw (a_F X), T1, d_tk D, d_fr D, d_to D, d_vl D, d_fa D) 3 (by omega)) rfl rfl ml_X4_48 rfl rfl (Nat.le_of_ble_eq_true rfl) ⟨Nat.le_of_ble_eq_true rfl, Nat.le_of_ble_eq_true rfl⟩ dX4_meet_97 (fun r_20 w2 h_19 => ?_)
            obtain ⟨e_r_20, rfl⟩ := h_19
            refine q_eqi (r_fin 3) e_r_20 ?_
            refine q_ws (ws' := w_M (k_Z M) B (a_F X, a_K X, a_kp X, fd_up (a_fd X) 3, a_tp X, a_S X) (d_bf D, f_rw (a_F X), T1, d_tk D, d_fr D, d_to D, d_vl D, d_fa D)) rfl ?_
            exact Rt _ _ (r_fin 3) (w_M (k_Z M) B (a_F X, a_K X, a_kp X, fd_up (a_fd X) 3, a_tp X, a_S X) (d_bf D, f_rw (a_F X), T1, d_tk D, d_fr D, d_to D, d_vl D, d_fa D)) dX4_meet_100 rfl (⟨(d_bf D, f_rw (a_F X), T1, d_tk D, d_fr D, d_to D, d_vl D, d_fa D), by simp only [o_meet, a_fin, if_pos c_3, if_pos c_8, if_neg c_11, if_pos c_16, if_pos c_18, nI_clamp (n := u) (by omega), nI_clamp (n := v) (by omega), (show o_find (p_meet (a_F X) u v) 101 0 = 101 by rw [hF, show n_13 = 0 by omega, o_find]; omega), o_none, if_neg (show ¬ 101 < 101 by omega)] <;> rfl, by simp only [o_meet, a_fin, if_pos c_3, if_pos c_8, if_neg c_11, if_pos c_16, if_pos c_18, nI_clamp (n := u) (by omega), nI_clamp (n := v) (by omega), (show o_find (p_meet (a_F X) u v) 101 0 = 101 by rw [hF, show n_13 = 0 by omega, o_find]; omega), o_none, if_neg (show ¬ 101 < 101 by omega)] <;> rfl⟩)
          · have c_18n : ¬ (100 < i) := fun h9 => c_18 ((nI_ltI (a := 100) (b := i) (by omega) (by omega)).mpr h9)
            exfalso
            omega
        · have c_16n : ¬ (100 < i) := fun h9 => c_16 ((nI_ltI (a := 100) (b := i) (by omega) (by omega)).mpr h9)
          refine q_aload_n K 1 dX4_meet_47 rfl ?_
          refine q_iload_n K 2 dX4_meet_48 rfl ?_
          refine q_iconst 1 K dX4_meet_49 rfl ?_
          refine q_wI (q0 := 0) (As := [.int (nI u), .int 1]) (rest := []) K kv_X4_its (c_X4_its (k_l M) (k_Z M) B (f_hoursR (f_gn 0) (a_F X) i, a_K X, a_kp X, a_fd X, a_tp X, a_S X) (d_bf D, f_rw (a_F X), T1, d_tk D, d_fr D, d_to D, d_vl D, d_fa D) u 1 (by omega) (by omega)) rfl rfl ml_X4_62 rfl rfl (Nat.le_of_ble_eq_true rfl) ⟨Nat.le_of_ble_eq_true rfl, Nat.le_of_ble_eq_true rfl⟩ dX4_meet_50 (fun r_22 w2 h_21 => ?_)
          obtain ⟨e_r_22, rfl⟩ := h_21
          refine q_eqi (f_fd (f_hoursR (f_gn 0) (a_F X) i) u) e_r_22 ?_
          refine q_eqi (f_fd (f_hoursC goA (a_F X) i) u) (hC_fd hm hm2 _ _) ?_
          refine q_aload_n K 1 dX4_meet_53 rfl ?_
          refine q_iload_n K 3 dX4_meet_54 rfl ?_
          refine q_iconst 1 K dX4_meet_55 rfl ?_
          refine q_wI (q0 := 0) (As := [.int (nI v), .int 1]) (rest := [.int (f_fd (f_hoursC goA (a_F X) i) u)]) K kv_X4_its (c_X4_its (k_l M) (k_Z M) B (f_hoursR (f_gn 0) (a_F X) i, a_K X, a_kp X, a_fd X, a_tp X, a_S X) (d_bf D, f_rw (a_F X), T1, d_tk D, d_fr D, d_to D, d_vl D, d_fa D) v 1 (by omega) (by omega)) rfl rfl ml_X4_62 rfl rfl (Nat.le_of_ble_eq_true rfl) ⟨Nat.le_of_ble_eq_true rfl, Nat.le_of_ble_eq_true rfl⟩ dX4_meet_56 (fun r_24 w2 h_23 => ?_)
          obtain ⟨e_r_24, rfl⟩ := h_23
          refine q_eqi (f_fd (f_hoursR (f_gn 0) (a_F X) i) v) e_r_24 ?_
          refine q_eqi (f_fd (f_hoursC goA (a_F X) i) v) (hC_fd hm hm2 _ _) ?_
          refine q_icmp_eq 73 K dX4_meet_59 (by decide) (fun c_25 => ?_) (fun c_25 => ?_)
          · refine q_aload_n K 1 dX4_meet_73 rfl ?_
            refine q_get (.ref (B 4)) K ws_X4 0 rfl rfl 3 (by decide) fl_X4_19 rfl dX4_meet_74 ?_
            refine q_aload_n K 1 dX4_meet_77 rfl ?_
            refine q_get (.ref (B 1)) K ws_X4 0 rfl rfl 0 (by decide) fl_X4_7 rfl dX4_meet_78 ?_
            refine q_perm (ws' := ([4, 1, 0, 2, 3, 5, 6, 7, 8, 9, 10] : List Nat).map (fun i9 => (w_M (k_Z M) B (f_hoursR (f_gn 0) (a_F X) i, a_K X, a_kp X, a_fd X, a_tp X, a_S X) (d_bf D, f_rw (a_F X), T1, d_tk D, d_fr D, d_to D, d_vl D, d_fa D)).getD i9 (0, .inr (0, [])))) (k_pick _ (show (List.range 11).Perm _ by decide) rfl) ?_
            refine q_csV (rest := []) K ks_X4_copyRow (c_X4_copyRow (k_l M) (k_Z M) (B 4) (B 1) (f_rw (a_F X)) (f_rw (f_hoursR (f_gn 0) (a_F X) i))) [] (([0, 2, 3, 5, 6, 7, 8, 9, 10] : List Nat).map (fun i9 => (w_M (k_Z M) B (f_hoursR (f_gn 0) (a_F X) i, a_K X, a_kp X, a_fd X, a_tp X, a_S X) (d_bf D, f_rw (a_F X), T1, d_tk D, d_fr D, d_to D, d_vl D, d_fa D)).getD i9 (0, .inr (0, [])))) rfl ml_X4_141 rfl rfl (Nat.le_of_ble_eq_true rfl) ⟨Nat.le_of_ble_eq_true rfl, Nat.le_of_ble_eq_true rfl⟩ dX4_meet_81 (fun w2 h_26 => ?_)
            obtain rfl := h_26
            refine q_perm (ws' := w_M (k_Z M) B X (d_bf D, f_rw (a_F X), T1, d_tk D, d_fr D, d_to D, d_vl D, d_fa D)) (k_pick [2, 1, 3, 4, 0, 5, 6, 7, 8, 9, 10] (show (List.range 11).Perm _ by decide) rfl) ?_
            refine q_iload_n K 0 dX4_meet_84 rfl ?_
            refine q_bipush 100 K dX4_meet_85 rfl ?_
            refine q_icmp_gt 94 K dX4_meet_87 (by decide) (fun c_27 => ?_) (fun c_27 => ?_)
            · have c_27n : 100 < i := (nI_ltI (a := 100) (b := i) (by omega) (by omega)).mp c_27
              exfalso
              omega
            · have c_27n : ¬ (100 < i) := fun h9 => c_27 ((nI_ltI (a := 100) (b := i) (by omega) (by omega)).mpr h9)
              refine q_iload_n K 0 dX4_meet_90 rfl ?_
              refine q_goto 100 K dX4_meet_91 (by decide) ?_
              exact Rt _ _ (nI i) (w_M (k_Z M) B X (d_bf D, f_rw (a_F X), T1, d_tk D, d_fr D, d_to D, d_vl D, d_fa D)) dX4_meet_100 rfl (⟨(d_bf D, f_rw (a_F X), T1, d_tk D, d_fr D, d_to D, d_vl D, d_fa D), by simp only [o_meet, a_fin, if_pos c_3, if_pos c_8, if_neg c_11, if_neg c_16, if_pos c_25, if_neg c_27, nI_clamp (n := u) (by omega), nI_clamp (n := v) (by omega), (show o_find (p_meet (a_F X) u v) 101 0 = i by rw [hF, show n_13 = (n_13 - 1) + 1 by omega, o_find, if_pos (by rw [p_meet, decide_eq_true c_25] <;> rfl)]), o_none, if_pos (show i < 101 by omega)] <;> rfl, by simp only [o_meet, a_fin, if_pos c_3, if_pos c_8, if_neg c_11, if_neg c_16, if_pos c_25, if_neg c_27, nI_clamp (n := u) (by omega), nI_clamp (n := v) (by omega), (show o_find (p_meet (a_F X) u v) 101 0 = i by rw [hF, show n_13 = (n_13 - 1) + 1 by omega, o_find, if_pos (by rw [p_meet, decide_eq_true c_25] <;> rfl)]), o_none, if_pos (show i < 101 by omega)] <;> rfl⟩)
          · refine q_aload_n K 1 dX4_meet_62 rfl ?_
            refine q_iconst 0 K dX4_meet_63 rfl ?_
            refine q_wV (q0 := 0) (As := [.int 0]) (rest := []) K kv_X4_hourBut (c_X4_hourBut (k_l M) (k_Z M) B (f_hoursR (f_gn 0) (a_F X) i, a_K X, a_kp X, a_fd X, a_tp X, a_S X) (d_bf D, f_rw (a_F X), T1, d_tk D, d_fr D, d_to D, d_vl D, d_fa D) m hm ((f_hoursR_wk _ _ _).trans hm2) (f_ok_hoursR _ hok (by rw [f_mm hm hm2]; exact hm) i) 0) rfl rfl ml_X4_115 rfl rfl (Nat.le_of_ble_eq_true rfl) ⟨Nat.le_of_ble_eq_true rfl, Nat.le_of_ble_eq_true rfl⟩ dX4_meet_64 (fun w2 h_28 => ?_)
            obtain ⟨x_30, rfl⟩ := h_28
            refine q_ws (ws' := w_M (k_Z M) B (f_hourR (f_gn 0) (f_hoursR (f_gn 0) (a_F X) i), a_K X, a_kp X, a_fd X, a_tp X, a_S X) (d_bf D, f_rw (a_F X), x_30, d_tk D, d_fr D, d_to D, d_vl D, d_fa D)) rfl ?_
            refine q_ws (ws' := w_M (k_Z M) B (f_hoursR (f_gn 0) (a_F X) (i + 1), a_K X, a_kp X, a_fd X, a_tp X, a_S X) (d_bf D, f_rw (a_F X), x_30, d_tk D, d_fr D, d_to D, d_vl D, d_fa D)) rfl ?_
            refine q_iinc (nI (i + 1)) (lv' := [(3, .int (nI (i + 1))), (0, .ref (B 0)), (1, .int (nI u)), (2, .int (nI v))]) K 0 dX4_meet_67 rfl (kn_inc i) (by decide) rfl ?_
            refine q_goto 41 K dX4_meet_70 (by decide) ?_
            exact ih_15 (n_13 - 1) (i + 1, x_30) (by omega) ⟨by show i + 1 + (n_13 - 1) = 101; omega, by rw [hF, show n_13 = (n_13 - 1) + 1 by omega, o_find, if_neg (by rw [p_meet, decide_eq_false c_25]; decide)] <;> rfl⟩
      · have c_11n : u = v := (nI_eq (a := u) (b := v) (by omega) (by omega)).mp c_11
        refine q_aload_n K 0 dX4_meet_21 rfl ?_
        refine q_ldc K dX4_meet_22 ct_X4_40 ?_
        refine q_eqi (r_fin 0) (by decide) ?_
        refine q_wI (q0 := 0) (As := [.int (r_fin 0)]) (rest := []) K kv_X4_finds (c_X4_finds (k_l M) (k_Z M) B X D 0 (by omega)) rfl rfl ml_X4_48 rfl rfl (Nat.le_of_ble_eq_true rfl) ⟨Nat.le_of_ble_eq_true rfl, Nat.le_of_ble_eq_true rfl⟩ dX4_meet_24 (fun r_32 w2 h_31 => ?_)
        obtain ⟨e_r_32, rfl⟩ := h_31
        refine q_eqi (r_fin 0) e_r_32 ?_
        refine q_ws (ws' := w_M (k_Z M) B (a_F X, a_K X, a_kp X, fd_up (a_fd X) 0, a_tp X, a_S X) D) rfl ?_
        exact Rt _ _ (r_fin 0) (w_M (k_Z M) B (a_F X, a_K X, a_kp X, fd_up (a_fd X) 0, a_tp X, a_S X) D) dX4_meet_27 rfl (⟨D, by simp only [o_meet, a_fin, if_pos c_3, if_pos c_8, if_pos c_11, e_r_2, e_r_7, nI_clamp (n := u) (by omega), nI_clamp (n := v) (by omega)] <;> rfl, by simp only [o_meet, a_fin, if_pos c_3, if_pos c_8, if_pos c_11, nI_clamp (n := u) (by omega), nI_clamp (n := v) (by omega)] <;> rfl⟩)
theorem kv_X4_meet : k_iv yX4_meet cX4_meet 4 (some .int) 2 := ⟨⟨im_X4_meet, se_X4_meet⟩, in_X4, co_X4_meet, by decide +kernel⟩
