set_option maxHeartbeats 4000000 in
set_option maxRecDepth 100000 in
theorem c_X3_start (l : Launch) (Z : kz_Z) (A : Nat → Nat → Nat) (X : AS) (T : FS) (J : TJ) (m : Nat) (hm : m ≤ 8) (hm2 : f_wk (a_F X) = nI m) (w g s n : Int32) : KI l Z yX3_start cX3_start 6 .int 6 137 [.ref ((A 0) 0), .int w, .int g, .int s, .int n] (w_G Z A (a_kp X) (a_fd X) ++ (w_F Z (A 1) (a_F X) ++ (w_F Z (A 2) T ++ (w_F Z (A 3) (a_K X) ++ (w_T Z (A 4) (t_of (a_tp X) J) ++ (w_SS Z A (a_S X))))))) (fun r w2 => ∃ T2 J2, r = (o_start X w g s n).1 ∧ w2 = w_C Z A (o_start X w g s n).2 T2 J2) := by
  refine ki_of (by decide) [(0, .ref ((A 0) 0)), (1, .int w), (2, .int g), (3, .int s), (4, .int n)] (Nat.le_of_ble_eq_true rfl) rfl ?_
  intro M e1 e2 K Rt
  subst e1 e2
  refine q_aload_n K 0 dX3_start_0 rfl ?_
  refine q_iload_n K 1 dX3_start_1 rfl ?_
  refine q_iload_n K 2 dX3_start_2 rfl ?_
  refine q_iload_n K 3 dX3_start_3 rfl ?_
  refine q_iload K 4 dX3_start_4 rfl ?_
  refine q_wI (q0 := 0) (As := [.int w, .int g, .int s, .int n]) (rest := []) K kv_X3_isWish (c_X3_isWish (k_l M) (k_Z M) A X T J w g s n) rfl rfl ml_X3_136 rfl rfl (Nat.le_of_ble_eq_true rfl) ⟨Nat.le_of_ble_eq_true rfl, Nat.le_of_ble_eq_true rfl⟩ dX3_start_6 (fun r_2 w2 h_1 => ?_)
  obtain ⟨e_r_2, rfl⟩ := h_1
  refine q_ws (ws' := w_G (k_Z M) A (a_kp X) (a_fd X) ++ (w_F (k_Z M) (A 1) (a_F X) ++ (w_F (k_Z M) (A 2) T ++ (w_F (k_Z M) (A 3) (a_K X) ++ (w_T (k_Z M) (A 4) (t_of (a_tp X) J) ++ (w_SS (k_Z M) A (a_S X))))))) rfl ?_
  refine q_if_ne 18 K dX3_start_9 (by decide) (fun c_3 => ?_) (fun c_3 => ?_)
  · have c_3 : isWish X w g s n := (kn_ne e_r_2).mp c_3
    obtain ⟨q1, q2, q3, q4⟩ := id c_3
    obtain ⟨u, h_u, e_u⟩ := isW_nat hm hm2 q1
    obtain ⟨v, h_v, e_v⟩ := kn_rng (n := 7) q2 rfl
    obtain ⟨k, h_k, e_k⟩ := kn_rng (n := 40) q4 rfl
    subst e_u e_v e_k
    refine q_aload_n K 0 dX3_start_18 rfl ?_
    refine q_iload_n K 1 dX3_start_19 rfl ?_
    refine q_iconst 1 K dX3_start_20 rfl ?_
    refine q_iload_n K 2 dX3_start_21 rfl ?_
    refine q_iload_n K 3 dX3_start_22 rfl ?_
    refine q_iload K 4 dX3_start_23 rfl ?_
    refine q_wI (q0 := 0) (As := [.int (nI u), .int 1, .int (nI v), .int s, .int (nI k)]) (rest := []) K kv_X3_valuesFor (c_X3_valuesFor1 (k_l M) (k_Z M) A X T J m hm hm2 u (by omega) v (by omega) s k (by omega)) rfl rfl ml_X3_140 rfl rfl (Nat.le_of_ble_eq_true rfl) ⟨Nat.le_of_ble_eq_true rfl, Nat.le_of_ble_eq_true rfl⟩ dX3_start_25 (fun r_5 w2 h_4 => ?_)
    obtain ⟨T_r_5, e_r_5, rfl⟩ := h_4
    refine q_ws (ws' := w_G (k_Z M) A (a_kp X) (a_fd X) ++ (w_F (k_Z M) (A 1) (a_F X) ++ (w_F (k_Z M) (A 2) T_r_5 ++ (w_F (k_Z M) (A 3) (a_K X) ++ (w_T (k_Z M) (A 4) (t_of (a_tp X) J) ++ (w_SS (k_Z M) A (a_S X))))))) rfl ?_
    refine q_eqi (f_vset (a_F X) 1 u v s k 9) e_r_5 ?_
    refine q_istore (lv' := [(5, .int (f_vset (a_F X) 1 u v s k 9)), (0, .ref ((A 0) 0)), (1, .int (nI u)), (2, .int (nI v)), (3, .int s), (4, .int (nI k))]) K dX3_start_28 (by decide) rfl ?_
    refine q_iload K 0 dX3_start_30 rfl ?_
    refine q_if_ne 43 K dX3_start_32 (by decide) (fun c_6 => ?_) (fun c_6 => ?_)
    · refine q_iload K 0 dX3_start_43 rfl ?_
      refine q_cp (rest := []) K ks_J6_numberOfTrailingZeros_0f7a4 (c_J6_numberOfTrailingZeros_0f7a4 (k_l M) (k_Z M) (f_vset (a_F X) 1 u v s k 9)) ml_X3_144 rfl rfl (Nat.le_of_ble_eq_true rfl) ⟨Nat.le_of_ble_eq_true rfl, Nat.le_of_ble_eq_true rfl⟩ dX3_start_45 (fun r_7 e_r_7 => ?_)
      exact Rt _ _ r_7 (w_G (k_Z M) A (a_kp X) (a_fd X) ++ (w_F (k_Z M) (A 1) (a_F X) ++ (w_F (k_Z M) (A 2) T_r_5 ++ (w_F (k_Z M) (A 3) (a_K X) ++ (w_T (k_Z M) (A 4) (t_of (a_tp X) J) ++ (w_SS (k_Z M) A (a_S X))))))) dX3_start_48 rfl (⟨T_r_5, J, by simp only [o_start, a_fin, if_pos c_3, if_neg c_6, e_r_2, e_r_7, nI_clamp (n := u) (by omega), nI_clamp (n := v) (by omega), nI_clamp (n := k) (by omega)] <;> rfl, by simp only [o_start, a_fin, if_pos c_3, if_neg c_6, nI_clamp (n := u) (by omega), nI_clamp (n := v) (by omega), nI_clamp (n := k) (by omega)] <;> rfl⟩)
    · refine q_aload_n K 1 dX3_start_35 rfl ?_
      refine q_iconst 3 K dX3_start_36 rfl ?_
      refine q_wI (q0 := 0) (As := [.int 3]) (rest := []) K kv_X3_finding (c_X3_finding (k_l M) (k_Z M) A X T_r_5 J 3 (by omega)) rfl rfl ml_X3_52 rfl rfl (Nat.le_of_ble_eq_true rfl) ⟨Nat.le_of_ble_eq_true rfl, Nat.le_of_ble_eq_true rfl⟩ dX3_start_37 (fun r_9 w2 h_8 => ?_)
      obtain ⟨e_r_9, rfl⟩ := h_8
      refine q_eqi (r_fin 3) e_r_9 ?_
      refine q_ws (ws' := w_G (k_Z M) A (a_kp X) (fd_up (a_fd X) 3) ++ (w_F (k_Z M) (A 1) (a_F X) ++ (w_F (k_Z M) (A 2) T_r_5 ++ (w_F (k_Z M) (A 3) (a_K X) ++ (w_T (k_Z M) (A 4) (t_of (a_tp X) J) ++ (w_SS (k_Z M) A (a_S X))))))) rfl ?_
      refine q_goto 48 K dX3_start_40 (by decide) ?_
      exact Rt _ _ (r_fin 3) (w_G (k_Z M) A (a_kp X) (fd_up (a_fd X) 3) ++ (w_F (k_Z M) (A 1) (a_F X) ++ (w_F (k_Z M) (A 2) T_r_5 ++ (w_F (k_Z M) (A 3) (a_K X) ++ (w_T (k_Z M) (A 4) (t_of (a_tp X) J) ++ (w_SS (k_Z M) A (a_S X))))))) dX3_start_48 rfl (⟨T_r_5, J, by simp only [o_start, a_fin, if_pos c_3, if_pos c_6, e_r_2, nI_clamp (n := u) (by omega), nI_clamp (n := v) (by omega), nI_clamp (n := k) (by omega)] <;> rfl, by simp only [o_start, a_fin, if_pos c_3, if_pos c_6, nI_clamp (n := u) (by omega), nI_clamp (n := v) (by omega), nI_clamp (n := k) (by omega)] <;> rfl⟩)
  · have c_3 : ¬ (isWish X w g s n) := (kn_eq e_r_2).mp c_3
    refine q_aload_n K 0 dX3_start_12 rfl ?_
    refine q_iconst 0 K dX3_start_13 rfl ?_
    refine q_wI (q0 := 0) (As := [.int 0]) (rest := []) K kv_X3_finding (c_X3_finding (k_l M) (k_Z M) A X T J 0 (by omega)) rfl rfl ml_X3_52 rfl rfl (Nat.le_of_ble_eq_true rfl) ⟨Nat.le_of_ble_eq_true rfl, Nat.le_of_ble_eq_true rfl⟩ dX3_start_14 (fun r_11 w2 h_10 => ?_)
    obtain ⟨e_r_11, rfl⟩ := h_10
    refine q_eqi (r_fin 0) e_r_11 ?_
    refine q_ws (ws' := w_G (k_Z M) A (a_kp X) (fd_up (a_fd X) 0) ++ (w_F (k_Z M) (A 1) (a_F X) ++ (w_F (k_Z M) (A 2) T ++ (w_F (k_Z M) (A 3) (a_K X) ++ (w_T (k_Z M) (A 4) (t_of (a_tp X) J) ++ (w_SS (k_Z M) A (a_S X))))))) rfl ?_
    exact Rt _ _ (r_fin 0) (w_G (k_Z M) A (a_kp X) (fd_up (a_fd X) 0) ++ (w_F (k_Z M) (A 1) (a_F X) ++ (w_F (k_Z M) (A 2) T ++ (w_F (k_Z M) (A 3) (a_K X) ++ (w_T (k_Z M) (A 4) (t_of (a_tp X) J) ++ (w_SS (k_Z M) A (a_S X))))))) dX3_start_17 rfl (⟨T, J, by simp only [o_start, a_fin, if_neg c_3, e_r_2] <;> rfl, by simp only [o_start, a_fin, if_neg c_3] <;> rfl⟩)
theorem kv_X3_start : k_iv yX3_start cX3_start 6 (some .int) 4 := ⟨⟨im_X3_start, se_X3_start⟩, in_X3, co_X3_start, by decide +kernel⟩
set_option maxHeartbeats 4000000 in
set_option maxRecDepth 100000 in
theorem c_X3_leastHome (l : Launch) (Z : kz_Z) (A : Nat → Nat → Nat) (X : AS) (T : FS) (J : TJ) (m : Nat) (hm : m ≤ 8) (hm2 : f_wk (a_F X) = nI m) (k : Nat) (hk : k ≤ 8) (f : Nat) (hf : f < 9) (v : Int32) (n : Nat) (hn : n ≤ 20) (z : Nat) (hz : z ≤ 256) (ez : z = 2 ^ m) : KI l Z yX3_leastHome cX3_leastHome 6 .int 5 110 [.ref ((A 0) 0), .int (nI k), .int (nI f), .int v, .int (nI n)] (w_G Z A (a_kp X) (a_fd X) ++ (w_F Z (A 1) (a_F X) ++ (w_F Z (A 2) T ++ (w_F Z (A 3) (a_K X) ++ (w_T Z (A 4) (t_of (a_tp X) J) ++ (w_SS Z A (a_S X))))))) (fun r w2 => ∃ T2, ((∃ i, i < z ∧ o_find (p_home (a_F X) f v n k) z 0 = i ∧ r = nI i) ∨ (o_find (p_home (a_F X) f v n k) z 0 = z ∧ r = -1)) ∧ w2 = w_C Z A X T2 J) := by
  refine ki_of (by decide) [(0, .ref ((A 0) 0)), (1, .int (nI k)), (2, .int (nI f)), (3, .int v), (4, .int (nI n))] (Nat.le_of_ble_eq_true rfl) rfl ?_
  intro M e1 e2 K Rt
  subst e1 e2
  refine q_iconst 0 K dX3_leastHome_0 rfl ?_
  refine q_istore (lv' := [(5, .int 0), (0, .ref ((A 0) 0)), (1, .int (nI k)), (2, .int (nI f)), (3, .int v), (4, .int (nI n))]) K dX3_leastHome_1 (by decide) rfl ?_
  refine q_loop (α := Nat × FS) (fun n9 x9 => (x9.1 + n9 = z) ∧ o_find (p_home (a_F X) f v n k) z 0 = o_find (p_home (a_F X) f v n k) n9 x9.1) 3 (fun x9 => [(5, .int (nI x9.1)), (0, .ref ((A 0) 0)), (1, .int (nI k)), (2, .int (nI f)), (3, .int v), (4, .int (nI n))]) (fun x9 => w_G (k_Z M) A (a_kp X) (a_fd X) ++ (w_F (k_Z M) (A 1) (a_F X) ++ (w_F (k_Z M) (A 2) x9.2 ++ (w_F (k_Z M) (A 3) (a_K X) ++ (w_T (k_Z M) (A 4) (t_of (a_tp X) J) ++ (w_SS (k_Z M) A (a_S X))))))) (fun n_1 x9 hI_2 ih_3 => ?_) z (0, T) ⟨by show 0 + z = z; omega, rfl⟩
  obtain ⟨i, T1⟩ := x9
  dsimp only at hI_2 ih_3 ⊢
  obtain ⟨hI, hF⟩ := hI_2
  refine q_iload K 0 dX3_leastHome_3 rfl ?_
  refine q_iconst 1 K dX3_leastHome_5 rfl ?_
  refine q_aload_n K 1 dX3_leastHome_6 rfl ?_
  refine q_get (.ref ((A 1) 0)) K ws_X3 0 rfl rfl 0 (by decide) fl_X3_12 rfl dX3_leastHome_7 ?_
  refine q_get (.int (f_wk (a_F X))) K ws_X0 3 rfl rfl 4 (by decide) fl_X3_78 rfl dX3_leastHome_10 ?_
  refine q_ishl K dX3_leastHome_13 ?_
  refine q_eqi (nI z) (by rw [hm2, ez]; exact kn_shl m (by omega)) ?_
  refine q_icmp_ge 76 K dX3_leastHome_14 (by decide) (fun c_4 => ?_) (fun c_4 => ?_)
  · have c_4n : z ≤ i := (nI_leI (a := z) (b := i) (by omega) (by omega)).mp c_4
    refine q_iconst (-1) K dX3_leastHome_76 rfl ?_
    exact Rt _ _ (-1) (w_G (k_Z M) A (a_kp X) (a_fd X) ++ (w_F (k_Z M) (A 1) (a_F X) ++ (w_F (k_Z M) (A 2) T1 ++ (w_F (k_Z M) (A 3) (a_K X) ++ (w_T (k_Z M) (A 4) (t_of (a_tp X) J) ++ (w_SS (k_Z M) A (a_S X))))))) dX3_leastHome_77 rfl (⟨T1, Or.inr ⟨by rw [hF, show n_1 = 0 by omega, o_find]; omega, rfl⟩, rfl⟩)
  · have c_4n : ¬ (z ≤ i) := fun h9 => c_4 ((nI_leI (a := z) (b := i) (by omega) (by omega)).mpr h9)
    refine q_iload K 0 dX3_leastHome_17 rfl ?_
    refine q_cp (rest := []) K ks_J6_bitCount_0f7a4 (c_J6_bitCount_0f7a4 (k_l M) (k_Z M) (nI i)) ml_X3_167 rfl rfl (Nat.le_of_ble_eq_true rfl) ⟨Nat.le_of_ble_eq_true rfl, Nat.le_of_ble_eq_true rfl⟩ dX3_leastHome_19 (fun r_5 e_r_5 => ?_)
    refine q_iload_n K 2 dX3_leastHome_22 rfl ?_
    refine q_icmp_ne 70 K dX3_leastHome_23 (by decide) (fun c_6 => ?_) (fun c_6 => ?_)
    · refine q_iinc (nI (i + 1)) (lv' := [(5, .int (nI (i + 1))), (0, .ref ((A 0) 0)), (1, .int (nI k)), (2, .int (nI f)), (3, .int v), (4, .int (nI n))]) K 0 dX3_leastHome_70 rfl (kn_inc i) (by decide) rfl ?_
      refine q_goto 3 K dX3_leastHome_73 (by decide) ?_
      exact ih_3 (n_1 - 1) (i + 1, T1) (by omega) ⟨by show i + 1 + (n_1 - 1) = z; omega, by rw [hF, show n_1 = (n_1 - 1) + 1 by omega, o_find, if_neg (by rw [p_home, decide_eq_false (fun h9 => c_6 (by rw [e_r_5]; exact h9))]; simp)]; rfl⟩
    · refine q_aload_n K 1 dX3_leastHome_26 rfl ?_
      refine q_get (.ref ((A 2) 0)) K ws_X3 0 rfl rfl 1 (by decide) fl_X3_16 rfl dX3_leastHome_27 ?_
      refine q_aload_n K 1 dX3_leastHome_30 rfl ?_
      refine q_get (.ref ((A 1) 0)) K ws_X3 0 rfl rfl 0 (by decide) fl_X3_12 rfl dX3_leastHome_31 ?_
      refine q_cvV (q0 := 10) (As := [.ref ((A 1) 0)]) (rest := []) K kv_X0_become (c_X0_becomeR (k_l M) (k_Z M) (A 2) (A 1) T1 (a_F X)) (w_G (k_Z M) A (a_kp X) (a_fd X)) (w_F (k_Z M) (A 3) (a_K X) ++ (w_T (k_Z M) (A 4) (t_of (a_tp X) J) ++ (w_SS (k_Z M) A (a_S X)))) rfl rfl rfl ml_X3_132 rfl rfl (Nat.le_of_ble_eq_true rfl) ⟨Nat.le_of_ble_eq_true rfl, Nat.le_of_ble_eq_true rfl⟩ dX3_leastHome_34 (fun w2 h_7 => ?_)
      obtain rfl := h_7
      refine q_ws (ws' := w_G (k_Z M) A (a_kp X) (a_fd X) ++ (w_F (k_Z M) (A 1) (a_F X) ++ (w_F (k_Z M) (A 2) (a_F X) ++ (w_F (k_Z M) (A 3) (a_K X) ++ (w_T (k_Z M) (A 4) (t_of (a_tp X) J) ++ (w_SS (k_Z M) A (a_S X))))))) rfl ?_
      refine q_aload_n K 1 dX3_leastHome_37 rfl ?_
      refine q_get (.ref ((A 2) 0)) K ws_X3 0 rfl rfl 1 (by decide) fl_X3_16 rfl dX3_leastHome_38 ?_
      refine q_iload K 5 dX3_leastHome_41 rfl ?_
      refine q_sipush 255 K dX3_leastHome_43 rfl ?_
      refine q_iload K 0 dX3_leastHome_46 rfl ?_
      refine q_iconst (-1) K dX3_leastHome_48 rfl ?_
      refine q_ixor K dX3_leastHome_49 ?_
      refine q_iand K dX3_leastHome_50 ?_
      refine q_cvV (q0 := 0) (As := [.int (nI n), .int (255 &&& ((nI i) ^^^ (-1)))]) (rest := []) K kv_X0_passHours (c_X0_passHours (k_l M) (k_Z M) (A 2) (a_F X) m hm hm2 n (by omega) (255 &&& ((nI i) ^^^ (-1)))) (w_G (k_Z M) A (a_kp X) (a_fd X) ++ (w_F (k_Z M) (A 1) (a_F X))) (w_F (k_Z M) (A 3) (a_K X) ++ (w_T (k_Z M) (A 4) (t_of (a_tp X) J) ++ (w_SS (k_Z M) A (a_S X)))) rfl rfl rfl ml_X3_108 rfl rfl (Nat.le_of_ble_eq_true rfl) ⟨Nat.le_of_ble_eq_true rfl, Nat.le_of_ble_eq_true rfl⟩ dX3_leastHome_51 (fun w2 h_8 => ?_)
      obtain rfl := h_8
      refine q_ws (ws' := w_G (k_Z M) A (a_kp X) (a_fd X) ++ (w_F (k_Z M) (A 1) (a_F X) ++ (w_F (k_Z M) (A 2) (f_hoursC (f_gm (255 &&& ((nI i) ^^^ (-1)))) (a_F X) n) ++ (w_F (k_Z M) (A 3) (a_K X) ++ (w_T (k_Z M) (A 4) (t_of (a_tp X) J) ++ (w_SS (k_Z M) A (a_S X))))))) rfl ?_
      refine q_ws (ws' := w_G (k_Z M) A (a_kp X) (a_fd X) ++ (w_F (k_Z M) (A 1) (a_F X) ++ (w_F (k_Z M) (A 2) (f_hoursC (goH i) (a_F X) n) ++ (w_F (k_Z M) (A 3) (a_K X) ++ (w_T (k_Z M) (A 4) (t_of (a_tp X) J) ++ (w_SS (k_Z M) A (a_S X))))))) rfl ?_
      refine q_aload_n K 1 dX3_leastHome_54 rfl ?_
      refine q_get (.ref ((A 2) 0)) K ws_X3 0 rfl rfl 1 (by decide) fl_X3_16 rfl dX3_leastHome_55 ?_
      refine q_get (.ref ((A 2) 1)) K ws_X0 13 rfl rfl 0 (by decide) fl_X3_56 rfl dX3_leastHome_58 ?_
      refine q_iload_n K 3 dX3_leastHome_61 rfl ?_
      refine q_iald K 14 rfl (vp_in_nI (n := f) (N := 9) (by omega) (by omega)) dX3_leastHome_62 ?_
      refine q_eqi ((f_bs (f_hoursC (goH i) (a_F X) n)) f) (by rw [nI_clamp (n := f) (by omega)]) ?_
      refine q_iload_n K 4 dX3_leastHome_63 rfl ?_
      refine q_icmp_gt 70 K dX3_leastHome_64 (by decide) (fun c_10 => ?_) (fun c_10 => ?_)
      · refine q_iinc (nI (i + 1)) (lv' := [(5, .int (nI (i + 1))), (0, .ref ((A 0) 0)), (1, .int (nI k)), (2, .int (nI f)), (3, .int v), (4, .int (nI n))]) K 0 dX3_leastHome_70 rfl (kn_inc i) (by decide) rfl ?_
        refine q_goto 3 K dX3_leastHome_73 (by decide) ?_
        exact ih_3 (n_1 - 1) (i + 1, f_hoursC (goH i) (a_F X) n) (by omega) ⟨by show i + 1 + (n_1 - 1) = z; omega, by rw [hF, show n_1 = (n_1 - 1) + 1 by omega, o_find, if_neg (by rw [p_home, decide_eq_true (p := j_bc (nI i) = nI k) (by rw [← e_r_5]; exact c_6)]; simp; exact c_10)]; rfl⟩
      · refine q_iload K 0 dX3_leastHome_67 rfl ?_
        exact Rt _ _ (nI i) (w_G (k_Z M) A (a_kp X) (a_fd X) ++ (w_F (k_Z M) (A 1) (a_F X) ++ (w_F (k_Z M) (A 2) (f_hoursC (goH i) (a_F X) n) ++ (w_F (k_Z M) (A 3) (a_K X) ++ (w_T (k_Z M) (A 4) (t_of (a_tp X) J) ++ (w_SS (k_Z M) A (a_S X))))))) dX3_leastHome_69 rfl (⟨f_hoursC (goH i) (a_F X) n, Or.inl ⟨i, by omega, by rw [hF, show n_1 = (n_1 - 1) + 1 by omega, o_find, if_pos (by rw [p_home, decide_eq_true (p := j_bc (nI i) = nI k) (by rw [← e_r_5]; exact c_6), decide_eq_false c_10]; rfl)], rfl⟩, rfl⟩)
theorem kv_X3_leastHome : k_iv yX3_leastHome cX3_leastHome 6 (some .int) 4 := ⟨⟨im_X3_leastHome, se_X3_leastHome⟩, in_X3, co_X3_leastHome, by decide +kernel⟩
set_option maxHeartbeats 4000000 in
set_option maxRecDepth 100000 in
theorem c_X3_home (l : Launch) (Z : kz_Z) (A : Nat → Nat → Nat) (X : AS) (T : FS) (J : TJ) (m : Nat) (hm : m ≤ 8) (hm2 : f_wk (a_F X) = nI m) (field v n : Int32) : KI l Z yX3_home cX3_home 6 .int 6 135 [.ref ((A 0) 0), .int field, .int v, .int n] (w_G Z A (a_kp X) (a_fd X) ++ (w_F Z (A 1) (a_F X) ++ (w_F Z (A 2) T ++ (w_F Z (A 3) (a_K X) ++ (w_T Z (A 4) (t_of (a_tp X) J) ++ (w_SS Z A (a_S X))))))) (fun r w2 => ∃ T2 J2, r = (o_home X field v n).1 ∧ w2 = w_C Z A (o_home X field v n).2 T2 J2) := by
  refine ki_of (by decide) [(0, .ref ((A 0) 0)), (1, .int field), (2, .int v), (3, .int n)] (Nat.le_of_ble_eq_true rfl) rfl ?_
  intro M e1 e2 K Rt
  subst e1 e2
  obtain ⟨z, hz, ez⟩ : ∃ z : Nat, z ≤ 256 ∧ z = 2 ^ m := ⟨2 ^ m, kn_pow hm, rfl⟩
  refine q_iload_n K 1 dX3_home_0 rfl ?_
  refine q_cp (rest := []) K ks_X3_isField (c_X3_isField (k_l M) (k_Z M) field) ml_X3_44 rfl rfl (Nat.le_of_ble_eq_true rfl) ⟨Nat.le_of_ble_eq_true rfl, Nat.le_of_ble_eq_true rfl⟩ dX3_home_1 (fun r_1 e_r_1 => ?_)
  refine q_if_eq 28 K dX3_home_4 (by decide) (fun c_2 => ?_) (fun c_2 => ?_)
  · have c_2 : ¬ (inR field 0 8) := (kn_eq e_r_1).mp c_2
    refine q_aload_n K 0 dX3_home_28 rfl ?_
    refine q_iconst 0 K dX3_home_29 rfl ?_
    refine q_wI (q0 := 0) (As := [.int 0]) (rest := []) K kv_X3_finding (c_X3_finding (k_l M) (k_Z M) A X T J 0 (by omega)) rfl rfl ml_X3_52 rfl rfl (Nat.le_of_ble_eq_true rfl) ⟨Nat.le_of_ble_eq_true rfl, Nat.le_of_ble_eq_true rfl⟩ dX3_home_30 (fun r_4 w2 h_3 => ?_)
    obtain ⟨e_r_4, rfl⟩ := h_3
    refine q_eqi (r_fin 0) e_r_4 ?_
    refine q_ws (ws' := w_G (k_Z M) A (a_kp X) (fd_up (a_fd X) 0) ++ (w_F (k_Z M) (A 1) (a_F X) ++ (w_F (k_Z M) (A 2) T ++ (w_F (k_Z M) (A 3) (a_K X) ++ (w_T (k_Z M) (A 4) (t_of (a_tp X) J) ++ (w_SS (k_Z M) A (a_S X))))))) rfl ?_
    exact Rt _ _ (r_fin 0) (w_G (k_Z M) A (a_kp X) (fd_up (a_fd X) 0) ++ (w_F (k_Z M) (A 1) (a_F X) ++ (w_F (k_Z M) (A 2) T ++ (w_F (k_Z M) (A 3) (a_K X) ++ (w_T (k_Z M) (A 4) (t_of (a_tp X) J) ++ (w_SS (k_Z M) A (a_S X))))))) dX3_home_33 rfl (⟨T, J, by simp only [o_home, a_fin, if_neg c_2, e_r_1], by simp only [o_home, a_fin, if_neg c_2]; rfl⟩)
  · have c_2 : inR field 0 8 := (kn_ne e_r_1).mp c_2
    obtain ⟨f, h_f, e_f⟩ := kn_rng (n := 8) c_2 rfl
    subst e_f
    refine q_iload_n K 2 dX3_home_7 rfl ?_
    refine q_iconst 0 K dX3_home_8 rfl ?_
    refine q_sipush 9999 K dX3_home_9 rfl ?_
    refine q_cp (rest := []) K ks_X3_isIn (c_X3_isIn (k_l M) (k_Z M) v 0 9999) ml_X3_48 rfl rfl (Nat.le_of_ble_eq_true rfl) ⟨Nat.le_of_ble_eq_true rfl, Nat.le_of_ble_eq_true rfl⟩ dX3_home_12 (fun r_5 e_r_5 => ?_)
    refine q_if_eq 28 K dX3_home_15 (by decide) (fun c_6 => ?_) (fun c_6 => ?_)
    · have c_6 : ¬ (inR v 0 9999) := (kn_eq e_r_5).mp c_6
      refine q_aload_n K 0 dX3_home_28 rfl ?_
      refine q_iconst 0 K dX3_home_29 rfl ?_
      refine q_wI (q0 := 0) (As := [.int 0]) (rest := []) K kv_X3_finding (c_X3_finding (k_l M) (k_Z M) A X T J 0 (by omega)) rfl rfl ml_X3_52 rfl rfl (Nat.le_of_ble_eq_true rfl) ⟨Nat.le_of_ble_eq_true rfl, Nat.le_of_ble_eq_true rfl⟩ dX3_home_30 (fun r_8 w2 h_7 => ?_)
      obtain ⟨e_r_8, rfl⟩ := h_7
      refine q_eqi (r_fin 0) e_r_8 ?_
      refine q_ws (ws' := w_G (k_Z M) A (a_kp X) (fd_up (a_fd X) 0) ++ (w_F (k_Z M) (A 1) (a_F X) ++ (w_F (k_Z M) (A 2) T ++ (w_F (k_Z M) (A 3) (a_K X) ++ (w_T (k_Z M) (A 4) (t_of (a_tp X) J) ++ (w_SS (k_Z M) A (a_S X))))))) rfl ?_
      exact Rt _ _ (r_fin 0) (w_G (k_Z M) A (a_kp X) (fd_up (a_fd X) 0) ++ (w_F (k_Z M) (A 1) (a_F X) ++ (w_F (k_Z M) (A 2) T ++ (w_F (k_Z M) (A 3) (a_K X) ++ (w_T (k_Z M) (A 4) (t_of (a_tp X) J) ++ (w_SS (k_Z M) A (a_S X))))))) dX3_home_33 rfl (⟨T, J, by simp only [o_home, a_fin, if_pos c_2, if_neg c_6, e_r_1, e_r_5, nI_clamp (n := f) (by omega)], by simp only [o_home, a_fin, if_pos c_2, if_neg c_6, nI_clamp (n := f) (by omega)]; rfl⟩)
    · have c_6 : inR v 0 9999 := (kn_ne e_r_5).mp c_6
      refine q_iload_n K 3 dX3_home_18 rfl ?_
      refine q_iconst 0 K dX3_home_19 rfl ?_
      refine q_bipush 20 K dX3_home_20 rfl ?_
      refine q_cp (rest := []) K ks_X3_isIn (c_X3_isIn (k_l M) (k_Z M) n 0 20) ml_X3_48 rfl rfl (Nat.le_of_ble_eq_true rfl) ⟨Nat.le_of_ble_eq_true rfl, Nat.le_of_ble_eq_true rfl⟩ dX3_home_22 (fun r_9 e_r_9 => ?_)
      refine q_if_ne 34 K dX3_home_25 (by decide) (fun c_10 => ?_) (fun c_10 => ?_)
      · have c_10 : inR n 0 20 := (kn_ne e_r_9).mp c_10
        obtain ⟨k, h_k, e_k⟩ := kn_rng (n := 20) c_10 rfl
        subst e_k
        refine q_iconst 0 K dX3_home_34 rfl ?_
        refine q_istore (lv' := [(4, .int 0), (0, .ref ((A 0) 0)), (1, .int (nI f)), (2, .int v), (3, .int (nI k))]) K dX3_home_35 (by decide) rfl ?_
        refine q_loop (α := Nat × FS) (fun n9 x9 => (x9.1 + n9 = m + 1) ∧ o_find (p_homes (a_F X) f v k z) (m + 1) 0 = o_find (p_homes (a_F X) f v k z) n9 x9.1) 37 (fun x9 => [(4, .int (nI x9.1)), (0, .ref ((A 0) 0)), (1, .int (nI f)), (2, .int v), (3, .int (nI k))]) (fun x9 => w_G (k_Z M) A (a_kp X) (a_fd X) ++ (w_F (k_Z M) (A 1) (a_F X) ++ (w_F (k_Z M) (A 2) x9.2 ++ (w_F (k_Z M) (A 3) (a_K X) ++ (w_T (k_Z M) (A 4) (t_of (a_tp X) J) ++ (w_SS (k_Z M) A (a_S X))))))) (fun n_11 x9 hI_12 ih_13 => ?_) (m + 1) (0, T) ⟨by show 0 + (m + 1) = m + 1; omega, rfl⟩
        obtain ⟨i, T1⟩ := x9
        dsimp only at hI_12 ih_13 ⊢
        obtain ⟨hI, hF⟩ := hI_12
        refine q_iload K 0 dX3_home_37 rfl ?_
        refine q_aload_n K 1 dX3_home_39 rfl ?_
        refine q_get (.ref ((A 1) 0)) K ws_X3 0 rfl rfl 0 (by decide) fl_X3_12 rfl dX3_home_40 ?_
        refine q_get (.int (f_wk (a_F X))) K ws_X0 3 rfl rfl 4 (by decide) fl_X3_78 rfl dX3_home_43 ?_
        refine q_eqi (nI m) hm2 ?_
        refine q_icmp_gt 74 K dX3_home_46 (by decide) (fun c_14 => ?_) (fun c_14 => ?_)
        · have c_14n : m < i := (nI_ltI (a := m) (b := i) (by omega) (by omega)).mp c_14
          refine q_aload_n K 1 dX3_home_74 rfl ?_
          refine q_iconst 3 K dX3_home_75 rfl ?_
          refine q_wI (q0 := 0) (As := [.int 3]) (rest := []) K kv_X3_finding (c_X3_finding (k_l M) (k_Z M) A X T1 J 3 (by omega)) rfl rfl ml_X3_52 rfl rfl (Nat.le_of_ble_eq_true rfl) ⟨Nat.le_of_ble_eq_true rfl, Nat.le_of_ble_eq_true rfl⟩ dX3_home_76 (fun r_16 w2 h_15 => ?_)
          obtain ⟨e_r_16, rfl⟩ := h_15
          refine q_eqi (r_fin 3) e_r_16 ?_
          refine q_ws (ws' := w_G (k_Z M) A (a_kp X) (fd_up (a_fd X) 3) ++ (w_F (k_Z M) (A 1) (a_F X) ++ (w_F (k_Z M) (A 2) T1 ++ (w_F (k_Z M) (A 3) (a_K X) ++ (w_T (k_Z M) (A 4) (t_of (a_tp X) J) ++ (w_SS (k_Z M) A (a_S X))))))) rfl ?_
          exact Rt _ _ (r_fin 3) (w_G (k_Z M) A (a_kp X) (fd_up (a_fd X) 3) ++ (w_F (k_Z M) (A 1) (a_F X) ++ (w_F (k_Z M) (A 2) T1 ++ (w_F (k_Z M) (A 3) (a_K X) ++ (w_T (k_Z M) (A 4) (t_of (a_tp X) J) ++ (w_SS (k_Z M) A (a_S X))))))) dX3_home_79 rfl (⟨T1, J, by simp only [o_home, a_fin, if_pos c_2, if_pos c_6, if_pos c_10, if_pos c_14, nI_clamp (n := f) (by omega), nI_clamp (n := k) (by omega), o_homes, f_mm hm hm2, ← ez, (show o_find (p_homes (a_F X) f v k z) (m + 1) 0 = m + 1 by rw [hF, show n_11 = 0 by omega, o_find]; omega), if_neg (show ¬ m + 1 ≤ m by omega)], by simp only [o_home, a_fin, if_pos c_2, if_pos c_6, if_pos c_10, if_pos c_14, nI_clamp (n := f) (by omega), nI_clamp (n := k) (by omega), o_homes, f_mm hm hm2, ← ez, (show o_find (p_homes (a_F X) f v k z) (m + 1) 0 = m + 1 by rw [hF, show n_11 = 0 by omega, o_find]; omega), if_neg (show ¬ m + 1 ≤ m by omega)]; rfl⟩)
        · have c_14n : ¬ (m < i) := fun h9 => c_14 ((nI_ltI (a := m) (b := i) (by omega) (by omega)).mpr h9)
          refine q_aload_n K 1 dX3_home_49 rfl ?_
          refine q_iload K 0 dX3_home_50 rfl ?_
          refine q_iload_n K 2 dX3_home_52 rfl ?_
          refine q_iload_n K 3 dX3_home_53 rfl ?_
          refine q_iload_n K 4 dX3_home_54 rfl ?_
          refine q_wI (q0 := 0) (As := [.int (nI i), .int (nI f), .int v, .int (nI k)]) (rest := []) K kv_X3_leastHome (c_X3_leastHome (k_l M) (k_Z M) A X T1 J m hm hm2 i (by omega) f (by omega) v k (by omega) z hz ez) rfl rfl ml_X3_149 rfl rfl (Nat.le_of_ble_eq_true rfl) ⟨Nat.le_of_ble_eq_true rfl, Nat.le_of_ble_eq_true rfl⟩ dX3_home_55 (fun r_18 w2 h_17 => ?_)
          obtain ⟨T_r_18, hq, rfl⟩ := h_17
          refine q_ws (ws' := w_G (k_Z M) A (a_kp X) (a_fd X) ++ (w_F (k_Z M) (A 1) (a_F X) ++ (w_F (k_Z M) (A 2) T_r_18 ++ (w_F (k_Z M) (A 3) (a_K X) ++ (w_T (k_Z M) (A 4) (t_of (a_tp X) J) ++ (w_SS (k_Z M) A (a_S X))))))) rfl ?_
          rcases hq with ⟨y, hy, ey, e_r_18⟩ | ⟨ey, e_r_18⟩
          · refine q_eqi (nI y) e_r_18 ?_
            refine q_istore (lv' := [(5, .int (nI y)), (4, .int (nI i)), (0, .ref ((A 0) 0)), (1, .int (nI f)), (2, .int v), (3, .int (nI k))]) K dX3_home_58 (by decide) rfl ?_
            refine q_iload K 0 dX3_home_60 rfl ?_
            refine q_if_lt 68 K dX3_home_62 (by decide) (fun c_19 => ?_) (fun c_19 => ?_)
            · have c_19n : y < 0 := (nI_ltI (a := y) (b := 0) (by omega) (by omega)).mp c_19
              exact absurd c_19n (Nat.not_lt_zero _)
            · have c_19n : ¬ (y < 0) := fun h9 => c_19 ((nI_ltI (a := y) (b := 0) (by omega) (by omega)).mpr h9)
              refine q_iload K 0 dX3_home_65 rfl ?_
              exact Rt _ _ (nI y) (w_G (k_Z M) A (a_kp X) (a_fd X) ++ (w_F (k_Z M) (A 1) (a_F X) ++ (w_F (k_Z M) (A 2) T_r_18 ++ (w_F (k_Z M) (A 3) (a_K X) ++ (w_T (k_Z M) (A 4) (t_of (a_tp X) J) ++ (w_SS (k_Z M) A (a_S X))))))) dX3_home_67 rfl (⟨T_r_18, J, by simp only [o_home, a_fin, if_pos c_2, if_pos c_6, if_pos c_10, if_neg c_14, if_neg c_19, nI_clamp (n := f) (by omega), nI_clamp (n := k) (by omega), o_homes, f_mm hm hm2, ← ez, (show o_find (p_homes (a_F X) f v k z) (m + 1) 0 = i by rw [hF, show n_11 = (n_11 - 1) + 1 by omega, o_find, if_pos (by rw [p_homes, ey, decide_eq_true hy])]), if_pos (show i ≤ m by omega), ey], by simp only [o_home, a_fin, if_pos c_2, if_pos c_6, if_pos c_10, if_neg c_14, if_neg c_19, nI_clamp (n := f) (by omega), nI_clamp (n := k) (by omega), o_homes, f_mm hm hm2, ← ez, (show o_find (p_homes (a_F X) f v k z) (m + 1) 0 = i by rw [hF, show n_11 = (n_11 - 1) + 1 by omega, o_find, if_pos (by rw [p_homes, ey, decide_eq_true hy])]), if_pos (show i ≤ m by omega), ey]; rfl⟩)
          · refine q_eqi (-1) e_r_18 ?_
            refine q_istore (lv' := [(5, .int (-1)), (4, .int (nI i)), (0, .ref ((A 0) 0)), (1, .int (nI f)), (2, .int v), (3, .int (nI k))]) K dX3_home_58 (by decide) rfl ?_
            refine q_iload K 0 dX3_home_60 rfl ?_
            refine q_if_lt 68 K dX3_home_62 (by decide) (fun c_0 => ?_) (fun c_0 => absurd c_0 (by decide))
            refine q_iinc (nI (i + 1)) (lv' := [(4, .int (nI (i + 1))), (5, .int (-1)), (0, .ref ((A 0) 0)), (1, .int (nI f)), (2, .int v), (3, .int (nI k))]) K 1 dX3_home_68 rfl (kn_inc i) (by decide) rfl ?_
            refine q_goto 37 K dX3_home_71 (by decide) ?_
            refine q_lv [0, 2, 3, 4, 5] rfl ?_
            exact ih_13 (n_11 - 1) (i + 1, T_r_18) (by omega) ⟨by show i + 1 + (n_11 - 1) = m + 1; omega, by rw [hF, show n_11 = (n_11 - 1) + 1 by omega, o_find, if_neg (by rw [p_homes, ey]; simp)]; rfl⟩
      · have c_10 : ¬ (inR n 0 20) := (kn_eq e_r_9).mp c_10
        refine q_aload_n K 0 dX3_home_28 rfl ?_
        refine q_iconst 0 K dX3_home_29 rfl ?_
        refine q_wI (q0 := 0) (As := [.int 0]) (rest := []) K kv_X3_finding (c_X3_finding (k_l M) (k_Z M) A X T J 0 (by omega)) rfl rfl ml_X3_52 rfl rfl (Nat.le_of_ble_eq_true rfl) ⟨Nat.le_of_ble_eq_true rfl, Nat.le_of_ble_eq_true rfl⟩ dX3_home_30 (fun r_21 w2 h_20 => ?_)
        obtain ⟨e_r_21, rfl⟩ := h_20
        refine q_eqi (r_fin 0) e_r_21 ?_
        refine q_ws (ws' := w_G (k_Z M) A (a_kp X) (fd_up (a_fd X) 0) ++ (w_F (k_Z M) (A 1) (a_F X) ++ (w_F (k_Z M) (A 2) T ++ (w_F (k_Z M) (A 3) (a_K X) ++ (w_T (k_Z M) (A 4) (t_of (a_tp X) J) ++ (w_SS (k_Z M) A (a_S X))))))) rfl ?_
        exact Rt _ _ (r_fin 0) (w_G (k_Z M) A (a_kp X) (fd_up (a_fd X) 0) ++ (w_F (k_Z M) (A 1) (a_F X) ++ (w_F (k_Z M) (A 2) T ++ (w_F (k_Z M) (A 3) (a_K X) ++ (w_T (k_Z M) (A 4) (t_of (a_tp X) J) ++ (w_SS (k_Z M) A (a_S X))))))) dX3_home_33 rfl (⟨T, J, by simp only [o_home, a_fin, if_pos c_2, if_pos c_6, if_neg c_10, e_r_1, e_r_5, e_r_9, nI_clamp (n := f) (by omega)], by simp only [o_home, a_fin, if_pos c_2, if_pos c_6, if_neg c_10, nI_clamp (n := f) (by omega)]; rfl⟩)
theorem kv_X3_home : k_iv yX3_home cX3_home 6 (some .int) 3 := ⟨⟨im_X3_home, se_X3_home⟩, in_X3, co_X3_home, by decide +kernel⟩
