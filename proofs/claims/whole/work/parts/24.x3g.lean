set_option maxHeartbeats 4000000 in
set_option maxRecDepth 100000 in
theorem c_X3_isUnder (l : Launch) (Z : kz_Z) (k t : Int32) : KP l Z yX3_isUnder cX3_isUnder 4 .boolean 2 42 [.int k, .int t] (fun r => r = if j_under 7 k t = true then 1 else 0) := by
  refine ki_of (by decide) [(0, .int k), (1, .int t)] (Nat.le_of_ble_eq_true rfl) rfl ?_
  intro M e1 e2 K Rt
  subst e1 e2
  refine q_iload_n K 0 dX3_isUnder_0 rfl ?_
  refine q_istore_n (lv' := [(2, .int k), (0, .int k), (1, .int t)]) K dX3_isUnder_1 (by decide) rfl ?_
  refine q_iconst 0 K dX3_isUnder_2 rfl ?_
  refine q_istore_n (lv' := [(3, .int 0), (2, .int k), (0, .int k), (1, .int t)]) K dX3_isUnder_3 (by decide) rfl ?_
  refine q_loop (α := Nat × Int32) (fun n9 x9 => (x9.1 + n9 = 7) ∧ j_under 7 k t = j_under n9 x9.2 t) 4 (fun x9 => [(3, .int (nI x9.1)), (2, .int x9.2), (0, .int k), (1, .int t)]) (fun x9 => []) (fun n_1 x9 hI_2 ih_3 => ?_) 7 (0, k) ⟨rfl, rfl⟩
  obtain ⟨i, q⟩ := x9
  dsimp only at hI_2 ih_3 ⊢
  obtain ⟨hI, hF⟩ := hI_2
  refine q_iload_n K 0 dX3_isUnder_4 rfl ?_
  refine q_bipush 7 K dX3_isUnder_5 rfl ?_
  refine q_icmp_ge 36 K dX3_isUnder_7 (by decide) (fun c_4 => ?_) (fun c_4 => ?_)
  · have c_4n : 7 ≤ i := (nI_leI (a := 7) (b := i) (by omega) (by omega)).mp c_4
    refine q_iconst 0 K dX3_isUnder_36 rfl ?_
    exact Rt _ _ 0 ([]) dX3_isUnder_37 rfl (⟨(if_neg (by rw [hF, show n_1 = 0 by omega, j_under]; decide)).symm, rfl⟩)
  · have c_4n : ¬ (7 ≤ i) := fun h9 => c_4 ((nI_leI (a := 7) (b := i) (by omega) (by omega)).mpr h9)
    refine q_iload_n K 1 dX3_isUnder_10 rfl ?_
    refine q_cp (rest := []) K ks_X3_isKind (c_X3_isKind (k_l M) (k_Z M) q) ml_X3_75 rfl rfl (Nat.le_of_ble_eq_true rfl) ⟨Nat.le_of_ble_eq_true rfl, Nat.le_of_ble_eq_true rfl⟩ dX3_isUnder_11 (fun r_5 e_r_5 => ?_)
    refine q_if_eq 36 K dX3_isUnder_14 (by decide) (fun c_6 => ?_) (fun c_6 => ?_)
    · have c_6 : ¬ (inR q 0 6) := (kn_eq e_r_5).mp c_6
      refine q_iconst 0 K dX3_isUnder_36 rfl ?_
      exact Rt _ _ 0 ([]) dX3_isUnder_37 rfl (⟨(if_neg (by rw [hF, show n_1 = (n_1 - 1) + 1 by omega, j_under, if_neg c_6]; decide)).symm, rfl⟩)
    · have c_6 : inR q 0 6 := (kn_ne e_r_5).mp c_6
      obtain ⟨j, h_j, e_j⟩ := kn_rng (n := 6) c_6 rfl
      subst e_j
      refine q_iload_n K 1 dX3_isUnder_17 rfl ?_
      refine q_iload_n K 3 dX3_isUnder_18 rfl ?_
      refine q_icmp_ne 24 K dX3_isUnder_19 (by decide) (fun c_7 => ?_) (fun c_7 => ?_)
      · refine q_above K fl_X3_237 dX3_isUnder_24 ?_
        refine q_iload_n K 1 dX3_isUnder_27 rfl ?_
        refine q_aboveld (v := o_above j) K (vp_in_nI (n := j) (N := 7) (by omega) (by omega)) (by rw [nI_clamp (n := j) (by omega)]; exact kn_above j) dX3_isUnder_28 ?_
        refine q_istore_n (lv' := [(2, .int (o_above j)), (3, .int (nI i)), (0, .int k), (1, .int t)]) K dX3_isUnder_29 (by decide) rfl ?_
        refine q_iinc (nI (i + 1)) (lv' := [(3, .int (nI (i + 1))), (2, .int (o_above j)), (0, .int k), (1, .int t)]) K 1 dX3_isUnder_30 rfl (kn_inc i) (by decide) rfl ?_
        refine q_goto 4 K dX3_isUnder_33 (by decide) ?_
        exact ih_3 (n_1 - 1) (i + 1, o_above j) (by omega) ⟨by show i + 1 + (n_1 - 1) = 7; omega, by rw [hF, show n_1 = (n_1 - 1) + 1 by omega, j_under, if_pos c_6, if_neg c_7, nI_clamp (by omega)]; rfl⟩
      · refine q_iconst 1 K dX3_isUnder_22 rfl ?_
        exact Rt _ _ 1 ([]) dX3_isUnder_23 rfl (⟨(if_pos (by rw [hF, show n_1 = (n_1 - 1) + 1 by omega, j_under, if_pos c_6, if_pos c_7])).symm, rfl⟩)
theorem ks_X3_isUnder : k_is yX3_isUnder cX3_isUnder 4 (some .boolean) 2 := ⟨sm_X3_isUnder, in_X3, co_X3_isUnder, by decide +kernel⟩
set_option maxHeartbeats 4000000 in
set_option maxRecDepth 100000 in
theorem c_X3_as (l : Launch) (Z : kz_Z) (A : Nat → Nat → Nat) (X : AS) (T : FS) (J : TJ) (m : Nat) (hm : m ≤ 8) (hm2 : f_wk (a_F X) = nI m) (spot kind : Int32) : KI l Z yX3_as cX3_as 4 .int 3 65 [.ref ((A 0) 0), .int spot, .int kind] (w_G Z A (a_kp X) (a_fd X) ++ (w_F Z (A 1) (a_F X) ++ (w_F Z (A 2) T ++ (w_F Z (A 3) (a_K X) ++ (w_T Z (A 4) (t_of (a_tp X) J) ++ (w_SS Z A (a_S X))))))) (fun r w2 => ∃ T2 J2, r = (o_as X spot kind).1 ∧ w2 = w_C Z A (o_as X spot kind).2 T2 J2) := by
  refine ki_of (by decide) [(0, .ref ((A 0) 0)), (1, .int spot), (2, .int kind)] (Nat.le_of_ble_eq_true rfl) rfl ?_
  intro M e1 e2 K Rt
  subst e1 e2
  refine q_iload_n K 1 dX3_as_0 rfl ?_
  refine q_cp (rest := []) K ks_X3_isSpot (c_X3_isSpot (k_l M) (k_Z M) spot) ml_X3_187 rfl rfl (Nat.le_of_ble_eq_true rfl) ⟨Nat.le_of_ble_eq_true rfl, Nat.le_of_ble_eq_true rfl⟩ dX3_as_1 (fun r_1 e_r_1 => ?_)
  refine q_if_eq 14 K dX3_as_4 (by decide) (fun c_2 => ?_) (fun c_2 => ?_)
  · have c_2 : ¬ (inR spot 0 9) := (kn_eq e_r_1).mp c_2
    refine q_aload_n K 0 dX3_as_14 rfl ?_
    refine q_iconst 0 K dX3_as_15 rfl ?_
    refine q_wI (q0 := 0) (As := [.int 0]) (rest := []) K kv_X3_finding (c_X3_finding (k_l M) (k_Z M) A X T J 0 (by omega)) rfl rfl ml_X3_52 rfl rfl (Nat.le_of_ble_eq_true rfl) ⟨Nat.le_of_ble_eq_true rfl, Nat.le_of_ble_eq_true rfl⟩ dX3_as_16 (fun r_4 w2 h_3 => ?_)
    obtain ⟨e_r_4, rfl⟩ := h_3
    refine q_eqi (r_fin 0) e_r_4 ?_
    refine q_ws (ws' := w_G (k_Z M) A (a_kp X) (fd_up (a_fd X) 0) ++ (w_F (k_Z M) (A 1) (a_F X) ++ (w_F (k_Z M) (A 2) T ++ (w_F (k_Z M) (A 3) (a_K X) ++ (w_T (k_Z M) (A 4) (t_of (a_tp X) J) ++ (w_SS (k_Z M) A (a_S X))))))) rfl ?_
    exact Rt _ _ (r_fin 0) (w_G (k_Z M) A (a_kp X) (fd_up (a_fd X) 0) ++ (w_F (k_Z M) (A 1) (a_F X) ++ (w_F (k_Z M) (A 2) T ++ (w_F (k_Z M) (A 3) (a_K X) ++ (w_T (k_Z M) (A 4) (t_of (a_tp X) J) ++ (w_SS (k_Z M) A (a_S X))))))) dX3_as_19 rfl (⟨T, J, by simp only [o_as, a_fin, o_asq, if_neg c_2, e_r_1], by simp only [o_as, a_fin, o_asq, if_neg c_2]; rfl⟩)
  · have c_2 : inR spot 0 9 := (kn_ne e_r_1).mp c_2
    obtain ⟨f, h_f, e_f⟩ := kn_rng (n := 9) c_2 rfl
    subst e_f
    refine q_iload_n K 2 dX3_as_7 rfl ?_
    refine q_cp (rest := []) K ks_X3_isKind (c_X3_isKind (k_l M) (k_Z M) kind) ml_X3_75 rfl rfl (Nat.le_of_ble_eq_true rfl) ⟨Nat.le_of_ble_eq_true rfl, Nat.le_of_ble_eq_true rfl⟩ dX3_as_8 (fun r_5 e_r_5 => ?_)
    refine q_if_ne 20 K dX3_as_11 (by decide) (fun c_6 => ?_) (fun c_6 => ?_)
    · have c_6 : inR kind 0 6 := (kn_ne e_r_5).mp c_6
      refine q_aload_n K 0 dX3_as_20 rfl ?_
      refine q_get (.ref ((A 1) 0)) K ws_X3 0 rfl rfl 0 (by decide) fl_X3_12 rfl dX3_as_21 ?_
      refine q_get (.ref ((A 1) 4)) K ws_X0 3 rfl rfl 3 (by decide) fl_X3_190 rfl dX3_as_24 ?_
      refine q_iload_n K 1 dX3_as_27 rfl ?_
      refine q_iald K 7 rfl (vp_in_nI (n := f) (N := 10) (by omega) (by omega)) dX3_as_28 ?_
      refine q_eqi ((f_hd (a_F X)) f) (by rw [nI_clamp (n := f) (by omega)]) ?_
      refine q_istore_n (lv' := [(3, .int ((f_hd (a_F X)) f)), (0, .ref ((A 0) 0)), (1, .int (nI f)), (2, .int kind)]) K dX3_as_29 (by decide) rfl ?_
      refine q_aload_n K 1 dX3_as_30 rfl ?_
      refine q_iload_n K 0 dX3_as_31 rfl ?_
      refine q_wI (q0 := 0) (As := [.int ((f_hd (a_F X)) f)]) (rest := []) K kv_X3_isWalker (c_X3_isWalker (k_l M) (k_Z M) A X T J ((f_hd (a_F X)) f)) rfl rfl ml_X3_85 rfl rfl (Nat.le_of_ble_eq_true rfl) ⟨Nat.le_of_ble_eq_true rfl, Nat.le_of_ble_eq_true rfl⟩ dX3_as_32 (fun r_8 w2 h_7 => ?_)
      obtain ⟨e_r_8, rfl⟩ := h_7
      refine q_ws (ws' := w_G (k_Z M) A (a_kp X) (a_fd X) ++ (w_F (k_Z M) (A 1) (a_F X) ++ (w_F (k_Z M) (A 2) T ++ (w_F (k_Z M) (A 3) (a_K X) ++ (w_T (k_Z M) (A 4) (t_of (a_tp X) J) ++ (w_SS (k_Z M) A (a_S X))))))) rfl ?_
      refine q_if_ne 44 K dX3_as_35 (by decide) (fun c_9 => ?_) (fun c_9 => ?_)
      · have c_9 : isW X ((f_hd (a_F X)) f) := (kn_ne e_r_8).mp c_9
        obtain ⟨u, h_u, e_u⟩ := isW_nat hm hm2 c_9
        rw [e_u]
        refine q_aload_n K 1 dX3_as_44 rfl ?_
        refine q_get (.ref ((A 1) 0)) K ws_X3 0 rfl rfl 0 (by decide) fl_X3_12 rfl dX3_as_45 ?_
        refine q_get (.ref ((A 1) 3)) K ws_X0 3 rfl rfl 2 (by decide) fl_X3_91 rfl dX3_as_48 ?_
        refine q_iconst 0 K dX3_as_51 rfl ?_
        refine q_aldg (y := (A 1) 5) K 6 rfl (vp_in_nI (n := 0) (N := 5) (by omega) (by omega)) rfl dX3_as_52 ?_
        refine q_iload_n K 0 dX3_as_53 rfl ?_
        refine q_iald K 8 rfl (vp_in_nI (n := u) (N := 8) (by omega) (by omega)) dX3_as_54 ?_
        refine q_eqi ((f_kd (a_F X)) u) (by rw [nI_clamp (n := u) (by omega)]) ?_
        refine q_iload_n K 3 dX3_as_55 rfl ?_
        refine q_cp (rest := []) K ks_X3_isUnder (c_X3_isUnder (k_l M) (k_Z M) ((f_kd (a_F X)) u) kind) ml_X3_193 rfl rfl (Nat.le_of_ble_eq_true rfl) ⟨Nat.le_of_ble_eq_true rfl, Nat.le_of_ble_eq_true rfl⟩ dX3_as_56 (fun r_10 e_r_10 => ?_)
        refine q_if_ne 68 K dX3_as_59 (by decide) (fun c_11 => ?_) (fun c_11 => ?_)
        · have c_11 : j_under 7 ((f_kd (a_F X)) u) kind = true := (kn_ne e_r_10).mp c_11
          refine q_iload_n K 0 dX3_as_68 rfl ?_
          exact Rt _ _ (nI u) (w_G (k_Z M) A (a_kp X) (a_fd X) ++ (w_F (k_Z M) (A 1) (a_F X) ++ (w_F (k_Z M) (A 2) T ++ (w_F (k_Z M) (A 3) (a_K X) ++ (w_T (k_Z M) (A 4) (t_of (a_tp X) J) ++ (w_SS (k_Z M) A (a_S X))))))) dX3_as_69 rfl (⟨T, J, by simp only [o_as, a_fin, o_asq, nI_clamp (n := f) (by omega), if_pos c_2, if_pos c_6, if_pos c_9]; rw [e_u]; simp only [nI_clamp (n := u) (by omega), if_pos c_11], by simp only [o_as, a_fin, o_asq, nI_clamp (n := f) (by omega), if_pos c_2, if_pos c_6, if_pos c_9]; rw [e_u]; simp only [nI_clamp (n := u) (by omega), if_pos c_11]; rfl⟩)
        · have c_11 : ¬ (j_under 7 ((f_kd (a_F X)) u) kind = true) := (kn_eq e_r_10).mp c_11
          refine q_aload_n K 1 dX3_as_62 rfl ?_
          refine q_iconst 2 K dX3_as_63 rfl ?_
          refine q_wI (q0 := 0) (As := [.int 2]) (rest := []) K kv_X3_finding (c_X3_finding (k_l M) (k_Z M) A X T J 2 (by omega)) rfl rfl ml_X3_52 rfl rfl (Nat.le_of_ble_eq_true rfl) ⟨Nat.le_of_ble_eq_true rfl, Nat.le_of_ble_eq_true rfl⟩ dX3_as_64 (fun r_13 w2 h_12 => ?_)
          obtain ⟨e_r_13, rfl⟩ := h_12
          refine q_eqi (r_fin 2) e_r_13 ?_
          refine q_ws (ws' := w_G (k_Z M) A (a_kp X) (fd_up (a_fd X) 2) ++ (w_F (k_Z M) (A 1) (a_F X) ++ (w_F (k_Z M) (A 2) T ++ (w_F (k_Z M) (A 3) (a_K X) ++ (w_T (k_Z M) (A 4) (t_of (a_tp X) J) ++ (w_SS (k_Z M) A (a_S X))))))) rfl ?_
          exact Rt _ _ (r_fin 2) (w_G (k_Z M) A (a_kp X) (fd_up (a_fd X) 2) ++ (w_F (k_Z M) (A 1) (a_F X) ++ (w_F (k_Z M) (A 2) T ++ (w_F (k_Z M) (A 3) (a_K X) ++ (w_T (k_Z M) (A 4) (t_of (a_tp X) J) ++ (w_SS (k_Z M) A (a_S X))))))) dX3_as_67 rfl (⟨T, J, by simp only [o_as, a_fin, o_asq, nI_clamp (n := f) (by omega), if_pos c_2, if_pos c_6, if_pos c_9]; rw [e_u]; simp only [nI_clamp (n := u) (by omega), if_neg c_11], by simp only [o_as, a_fin, o_asq, nI_clamp (n := f) (by omega), if_pos c_2, if_pos c_6, if_pos c_9]; rw [e_u]; simp only [nI_clamp (n := u) (by omega), if_neg c_11]; rfl⟩)
      · have c_9 : ¬ (isW X ((f_hd (a_F X)) f)) := (kn_eq e_r_8).mp c_9
        refine q_aload_n K 1 dX3_as_38 rfl ?_
        refine q_iconst 5 K dX3_as_39 rfl ?_
        refine q_wI (q0 := 0) (As := [.int 5]) (rest := []) K kv_X3_finding (c_X3_finding (k_l M) (k_Z M) A X T J 5 (by omega)) rfl rfl ml_X3_52 rfl rfl (Nat.le_of_ble_eq_true rfl) ⟨Nat.le_of_ble_eq_true rfl, Nat.le_of_ble_eq_true rfl⟩ dX3_as_40 (fun r_15 w2 h_14 => ?_)
        obtain ⟨e_r_15, rfl⟩ := h_14
        refine q_eqi (r_fin 5) e_r_15 ?_
        refine q_ws (ws' := w_G (k_Z M) A (a_kp X) (fd_up (a_fd X) 5) ++ (w_F (k_Z M) (A 1) (a_F X) ++ (w_F (k_Z M) (A 2) T ++ (w_F (k_Z M) (A 3) (a_K X) ++ (w_T (k_Z M) (A 4) (t_of (a_tp X) J) ++ (w_SS (k_Z M) A (a_S X))))))) rfl ?_
        exact Rt _ _ (r_fin 5) (w_G (k_Z M) A (a_kp X) (fd_up (a_fd X) 5) ++ (w_F (k_Z M) (A 1) (a_F X) ++ (w_F (k_Z M) (A 2) T ++ (w_F (k_Z M) (A 3) (a_K X) ++ (w_T (k_Z M) (A 4) (t_of (a_tp X) J) ++ (w_SS (k_Z M) A (a_S X))))))) dX3_as_43 rfl (⟨T, J, by simp only [o_as, a_fin, o_asq, if_pos c_2, if_pos c_6, if_neg c_9, e_r_1, e_r_5, e_r_8, nI_clamp (n := f) (by omega)], by simp only [o_as, a_fin, o_asq, if_pos c_2, if_pos c_6, if_neg c_9, nI_clamp (n := f) (by omega)]; rfl⟩)
    · have c_6 : ¬ (inR kind 0 6) := (kn_eq e_r_5).mp c_6
      refine q_aload_n K 0 dX3_as_14 rfl ?_
      refine q_iconst 0 K dX3_as_15 rfl ?_
      refine q_wI (q0 := 0) (As := [.int 0]) (rest := []) K kv_X3_finding (c_X3_finding (k_l M) (k_Z M) A X T J 0 (by omega)) rfl rfl ml_X3_52 rfl rfl (Nat.le_of_ble_eq_true rfl) ⟨Nat.le_of_ble_eq_true rfl, Nat.le_of_ble_eq_true rfl⟩ dX3_as_16 (fun r_17 w2 h_16 => ?_)
      obtain ⟨e_r_17, rfl⟩ := h_16
      refine q_eqi (r_fin 0) e_r_17 ?_
      refine q_ws (ws' := w_G (k_Z M) A (a_kp X) (fd_up (a_fd X) 0) ++ (w_F (k_Z M) (A 1) (a_F X) ++ (w_F (k_Z M) (A 2) T ++ (w_F (k_Z M) (A 3) (a_K X) ++ (w_T (k_Z M) (A 4) (t_of (a_tp X) J) ++ (w_SS (k_Z M) A (a_S X))))))) rfl ?_
      exact Rt _ _ (r_fin 0) (w_G (k_Z M) A (a_kp X) (fd_up (a_fd X) 0) ++ (w_F (k_Z M) (A 1) (a_F X) ++ (w_F (k_Z M) (A 2) T ++ (w_F (k_Z M) (A 3) (a_K X) ++ (w_T (k_Z M) (A 4) (t_of (a_tp X) J) ++ (w_SS (k_Z M) A (a_S X))))))) dX3_as_19 rfl (⟨T, J, by simp only [o_as, a_fin, o_asq, if_pos c_2, if_neg c_6, e_r_1, e_r_5, nI_clamp (n := f) (by omega)], by simp only [o_as, a_fin, o_asq, if_pos c_2, if_neg c_6, nI_clamp (n := f) (by omega)]; rfl⟩)
theorem kv_X3_as : k_iv yX3_as cX3_as 4 (some .int) 2 := ⟨⟨im_X3_as, se_X3_as⟩, in_X3, co_X3_as, by decide +kernel⟩
set_option maxHeartbeats 4000000 in
set_option maxRecDepth 100000 in
theorem c_X3_hold (l : Launch) (Z : kz_Z) (A : Nat → Nat → Nat) (X : AS) (T : FS) (J : TJ) (m : Nat) (hm : m ≤ 8) (hm2 : f_wk (a_F X) = nI m) (spot w : Int32) : KI l Z yX3_hold cX3_hold 3 .int 2 43 [.ref ((A 0) 0), .int spot, .int w] (w_G Z A (a_kp X) (a_fd X) ++ (w_F Z (A 1) (a_F X) ++ (w_F Z (A 2) T ++ (w_F Z (A 3) (a_K X) ++ (w_T Z (A 4) (t_of (a_tp X) J) ++ (w_SS Z A (a_S X))))))) (fun r w2 => ∃ T2 J2, r = (o_hold X spot w).1 ∧ w2 = w_C Z A (o_hold X spot w).2 T2 J2) := by
  refine ki_of (by decide) [(0, .ref ((A 0) 0)), (1, .int spot), (2, .int w)] (Nat.le_of_ble_eq_true rfl) rfl ?_
  intro M e1 e2 K Rt
  subst e1 e2
  refine q_iload_n K 1 dX3_hold_0 rfl ?_
  refine q_cp (rest := []) K ks_X3_isSpot (c_X3_isSpot (k_l M) (k_Z M) spot) ml_X3_187 rfl rfl (Nat.le_of_ble_eq_true rfl) ⟨Nat.le_of_ble_eq_true rfl, Nat.le_of_ble_eq_true rfl⟩ dX3_hold_1 (fun r_1 e_r_1 => ?_)
  refine q_if_eq 20 K dX3_hold_4 (by decide) (fun c_2 => ?_) (fun c_2 => ?_)
  · have c_2 : ¬ (inR spot 0 9) := (kn_eq e_r_1).mp c_2
    refine q_aload_n K 0 dX3_hold_20 rfl ?_
    refine q_iconst 0 K dX3_hold_21 rfl ?_
    refine q_wI (q0 := 0) (As := [.int 0]) (rest := []) K kv_X3_finding (c_X3_finding (k_l M) (k_Z M) A X T J 0 (by omega)) rfl rfl ml_X3_52 rfl rfl (Nat.le_of_ble_eq_true rfl) ⟨Nat.le_of_ble_eq_true rfl, Nat.le_of_ble_eq_true rfl⟩ dX3_hold_22 (fun r_4 w2 h_3 => ?_)
    obtain ⟨e_r_4, rfl⟩ := h_3
    refine q_eqi (r_fin 0) e_r_4 ?_
    refine q_ws (ws' := w_G (k_Z M) A (a_kp X) (fd_up (a_fd X) 0) ++ (w_F (k_Z M) (A 1) (a_F X) ++ (w_F (k_Z M) (A 2) T ++ (w_F (k_Z M) (A 3) (a_K X) ++ (w_T (k_Z M) (A 4) (t_of (a_tp X) J) ++ (w_SS (k_Z M) A (a_S X))))))) rfl ?_
    exact Rt _ _ (r_fin 0) (w_G (k_Z M) A (a_kp X) (fd_up (a_fd X) 0) ++ (w_F (k_Z M) (A 1) (a_F X) ++ (w_F (k_Z M) (A 2) T ++ (w_F (k_Z M) (A 3) (a_K X) ++ (w_T (k_Z M) (A 4) (t_of (a_tp X) J) ++ (w_SS (k_Z M) A (a_S X))))))) dX3_hold_25 rfl (⟨T, J, by simp only [o_hold, a_fin, if_neg c_2, e_r_1], by simp only [o_hold, a_fin, if_neg c_2]; rfl⟩)
  · have c_2 : inR spot 0 9 := (kn_ne e_r_1).mp c_2
    obtain ⟨f, h_f, e_f⟩ := kn_rng (n := 9) c_2 rfl
    subst e_f
    refine q_iload_n K 2 dX3_hold_7 rfl ?_
    refine q_iconst (-1) K dX3_hold_8 rfl ?_
    refine q_icmp_eq 26 K dX3_hold_9 (by decide) (fun c_5 => ?_) (fun c_5 => ?_)
    · refine q_aload_n K 0 dX3_hold_26 rfl ?_
      refine q_get (.ref ((A 1) 0)) K ws_X3 0 rfl rfl 0 (by decide) fl_X3_12 rfl dX3_hold_27 ?_
      refine q_get (.ref ((A 1) 4)) K ws_X0 3 rfl rfl 3 (by decide) fl_X3_190 rfl dX3_hold_30 ?_
      refine q_iload_n K 1 dX3_hold_33 rfl ?_
      refine q_iload_n K 2 dX3_hold_34 rfl ?_
      refine q_iast (ws' := w_G (k_Z M) A (a_kp X) (a_fd X) ++ (w_F (k_Z M) (A 1) (f_bs (a_F X), f_gs (a_F X), f_kd (a_F X), f_fd (a_F X), f_wy (a_F X), f_md (a_F X), f_ps (a_F X), upd (f_hd (a_F X)) f w, f_wk (a_F X), f_wd (a_F X), f_hr (a_F X), f_zz (a_F X)) ++ (w_F (k_Z M) (A 2) T ++ (w_F (k_Z M) (A 3) (a_K X) ++ (w_T (k_Z M) (A 4) (t_of (a_tp X) J) ++ (w_SS (k_Z M) A (a_S X))))))) K 7 rfl (vp_in_nI (n := f) (N := 10) (by omega) (by omega)) (by rw [nI_clamp (n := f) (by omega)] <;> rfl) dX3_hold_35 ?_
      refine q_iconst 1 K dX3_hold_36 rfl ?_
      exact Rt _ _ 1 (w_G (k_Z M) A (a_kp X) (a_fd X) ++ (w_F (k_Z M) (A 1) (f_bs (a_F X), f_gs (a_F X), f_kd (a_F X), f_fd (a_F X), f_wy (a_F X), f_md (a_F X), f_ps (a_F X), upd (f_hd (a_F X)) f w, f_wk (a_F X), f_wd (a_F X), f_hr (a_F X), f_zz (a_F X)) ++ (w_F (k_Z M) (A 2) T ++ (w_F (k_Z M) (A 3) (a_K X) ++ (w_T (k_Z M) (A 4) (t_of (a_tp X) J) ++ (w_SS (k_Z M) A (a_S X))))))) dX3_hold_37 rfl (⟨T, J, by simp only [o_hold, a_fin, if_pos c_2, if_pos c_5, e_r_1, nI_clamp (n := f) (by omega)], by simp only [o_hold, a_fin, if_pos c_2, if_pos c_5, nI_clamp (n := f) (by omega)]; rfl⟩)
    · refine q_aload_n K 0 dX3_hold_12 rfl ?_
      refine q_iload_n K 2 dX3_hold_13 rfl ?_
      refine q_wI (q0 := 0) (As := [.int w]) (rest := []) K kv_X3_isWalker (c_X3_isWalker (k_l M) (k_Z M) A X T J w) rfl rfl ml_X3_85 rfl rfl (Nat.le_of_ble_eq_true rfl) ⟨Nat.le_of_ble_eq_true rfl, Nat.le_of_ble_eq_true rfl⟩ dX3_hold_14 (fun r_7 w2 h_6 => ?_)
      obtain ⟨e_r_7, rfl⟩ := h_6
      refine q_ws (ws' := w_G (k_Z M) A (a_kp X) (a_fd X) ++ (w_F (k_Z M) (A 1) (a_F X) ++ (w_F (k_Z M) (A 2) T ++ (w_F (k_Z M) (A 3) (a_K X) ++ (w_T (k_Z M) (A 4) (t_of (a_tp X) J) ++ (w_SS (k_Z M) A (a_S X))))))) rfl ?_
      refine q_if_ne 26 K dX3_hold_17 (by decide) (fun c_8 => ?_) (fun c_8 => ?_)
      · have c_8 : isW X w := (kn_ne e_r_7).mp c_8
        refine q_aload_n K 0 dX3_hold_26 rfl ?_
        refine q_get (.ref ((A 1) 0)) K ws_X3 0 rfl rfl 0 (by decide) fl_X3_12 rfl dX3_hold_27 ?_
        refine q_get (.ref ((A 1) 4)) K ws_X0 3 rfl rfl 3 (by decide) fl_X3_190 rfl dX3_hold_30 ?_
        refine q_iload_n K 1 dX3_hold_33 rfl ?_
        refine q_iload_n K 2 dX3_hold_34 rfl ?_
        refine q_iast (ws' := w_G (k_Z M) A (a_kp X) (a_fd X) ++ (w_F (k_Z M) (A 1) (f_bs (a_F X), f_gs (a_F X), f_kd (a_F X), f_fd (a_F X), f_wy (a_F X), f_md (a_F X), f_ps (a_F X), upd (f_hd (a_F X)) f w, f_wk (a_F X), f_wd (a_F X), f_hr (a_F X), f_zz (a_F X)) ++ (w_F (k_Z M) (A 2) T ++ (w_F (k_Z M) (A 3) (a_K X) ++ (w_T (k_Z M) (A 4) (t_of (a_tp X) J) ++ (w_SS (k_Z M) A (a_S X))))))) K 7 rfl (vp_in_nI (n := f) (N := 10) (by omega) (by omega)) (by rw [nI_clamp (n := f) (by omega)] <;> rfl) dX3_hold_35 ?_
        refine q_iconst 1 K dX3_hold_36 rfl ?_
        exact Rt _ _ 1 (w_G (k_Z M) A (a_kp X) (a_fd X) ++ (w_F (k_Z M) (A 1) (f_bs (a_F X), f_gs (a_F X), f_kd (a_F X), f_fd (a_F X), f_wy (a_F X), f_md (a_F X), f_ps (a_F X), upd (f_hd (a_F X)) f w, f_wk (a_F X), f_wd (a_F X), f_hr (a_F X), f_zz (a_F X)) ++ (w_F (k_Z M) (A 2) T ++ (w_F (k_Z M) (A 3) (a_K X) ++ (w_T (k_Z M) (A 4) (t_of (a_tp X) J) ++ (w_SS (k_Z M) A (a_S X))))))) dX3_hold_37 rfl (⟨T, J, by simp only [o_hold, a_fin, if_pos c_2, if_neg c_5, if_pos c_8, e_r_1, e_r_7, nI_clamp (n := f) (by omega)], by simp only [o_hold, a_fin, if_pos c_2, if_neg c_5, if_pos c_8, nI_clamp (n := f) (by omega)]; rfl⟩)
      · have c_8 : ¬ (isW X w) := (kn_eq e_r_7).mp c_8
        refine q_aload_n K 0 dX3_hold_20 rfl ?_
        refine q_iconst 0 K dX3_hold_21 rfl ?_
        refine q_wI (q0 := 0) (As := [.int 0]) (rest := []) K kv_X3_finding (c_X3_finding (k_l M) (k_Z M) A X T J 0 (by omega)) rfl rfl ml_X3_52 rfl rfl (Nat.le_of_ble_eq_true rfl) ⟨Nat.le_of_ble_eq_true rfl, Nat.le_of_ble_eq_true rfl⟩ dX3_hold_22 (fun r_10 w2 h_9 => ?_)
        obtain ⟨e_r_10, rfl⟩ := h_9
        refine q_eqi (r_fin 0) e_r_10 ?_
        refine q_ws (ws' := w_G (k_Z M) A (a_kp X) (fd_up (a_fd X) 0) ++ (w_F (k_Z M) (A 1) (a_F X) ++ (w_F (k_Z M) (A 2) T ++ (w_F (k_Z M) (A 3) (a_K X) ++ (w_T (k_Z M) (A 4) (t_of (a_tp X) J) ++ (w_SS (k_Z M) A (a_S X))))))) rfl ?_
        exact Rt _ _ (r_fin 0) (w_G (k_Z M) A (a_kp X) (fd_up (a_fd X) 0) ++ (w_F (k_Z M) (A 1) (a_F X) ++ (w_F (k_Z M) (A 2) T ++ (w_F (k_Z M) (A 3) (a_K X) ++ (w_T (k_Z M) (A 4) (t_of (a_tp X) J) ++ (w_SS (k_Z M) A (a_S X))))))) dX3_hold_25 rfl (⟨T, J, by simp only [o_hold, a_fin, if_pos c_2, if_neg c_5, if_neg c_8, e_r_1, e_r_7, nI_clamp (n := f) (by omega)], by simp only [o_hold, a_fin, if_pos c_2, if_neg c_5, if_neg c_8, nI_clamp (n := f) (by omega)]; rfl⟩)
theorem kv_X3_hold : k_iv yX3_hold cX3_hold 3 (some .int) 2 := ⟨⟨im_X3_hold, se_X3_hold⟩, in_X3, co_X3_hold, by decide +kernel⟩
set_option maxHeartbeats 4000000 in
set_option maxRecDepth 100000 in
theorem c_X3_seed (l : Launch) (Z : kz_Z) (A : Nat → Nat → Nat) (X : AS) (T : FS) (J : TJ) (m : Nat) (hm : m ≤ 8) (hm2 : f_wk (a_F X) = nI m) (v : Int32) : KI l Z yX3_seed cX3_seed 3 .int 0 0 [.ref ((A 0) 0), .int v] (w_G Z A (a_kp X) (a_fd X) ++ (w_F Z (A 1) (a_F X) ++ (w_F Z (A 2) T ++ (w_F Z (A 3) (a_K X) ++ (w_T Z (A 4) (t_of (a_tp X) J) ++ (w_SS Z A (a_S X))))))) (fun r w2 => ∃ T2 J2, r = (o_seed X v).1 ∧ w2 = w_C Z A (o_seed X v).2 T2 J2) := by
  refine ki_of (by decide) [(0, .ref ((A 0) 0)), (1, .int v)] (Nat.le_of_ble_eq_true rfl) rfl ?_
  intro M e1 e2 K Rt
  subst e1 e2
  refine q_aload_n K 0 dX3_seed_0 rfl ?_
  refine q_get (.ref ((A 1) 0)) K ws_X3 0 rfl rfl 0 (by decide) fl_X3_12 rfl dX3_seed_1 ?_
  refine q_get (.int (f_zz (a_F X))) K ws_X0 3 rfl rfl 7 (by decide) fl_X3_174 rfl dX3_seed_4 ?_
  refine q_istore_n (lv' := [(2, .int (f_zz (a_F X))), (0, .ref ((A 0) 0)), (1, .int v)]) K dX3_seed_7 (by decide) rfl ?_
  refine q_aload_n K 1 dX3_seed_8 rfl ?_
  refine q_get (.ref ((A 1) 0)) K ws_X3 0 rfl rfl 0 (by decide) fl_X3_12 rfl dX3_seed_9 ?_
  refine q_iload_n K 2 dX3_seed_12 rfl ?_
  refine q_put (ty := .int) (ws' := w_G (k_Z M) A (a_kp X) (a_fd X) ++ (w_F (k_Z M) (A 1) (f_bs (a_F X), f_gs (a_F X), f_kd (a_F X), f_fd (a_F X), f_wy (a_F X), f_md (a_F X), f_ps (a_F X), f_hd (a_F X), f_wk (a_F X), f_wd (a_F X), f_hr (a_F X), v) ++ (w_F (k_Z M) (A 2) T ++ (w_F (k_Z M) (A 3) (a_K X) ++ (w_T (k_Z M) (A 4) (t_of (a_tp X) J) ++ (w_SS (k_Z M) A (a_S X))))))) K ws_X0 tyX0 tyX0_ok nmX0 3 rfl rfl 7 (by decide) fl_X3_174 rfl (by decide +kernel) rfl rfl (Nat.le_of_ble_eq_true rfl) rfl dX3_seed_13 ?_
  refine q_iload_n K 0 dX3_seed_16 rfl ?_
  exact Rt _ _ (f_zz (a_F X)) (w_G (k_Z M) A (a_kp X) (a_fd X) ++ (w_F (k_Z M) (A 1) (f_bs (a_F X), f_gs (a_F X), f_kd (a_F X), f_fd (a_F X), f_wy (a_F X), f_md (a_F X), f_ps (a_F X), f_hd (a_F X), f_wk (a_F X), f_wd (a_F X), f_hr (a_F X), v) ++ (w_F (k_Z M) (A 2) T ++ (w_F (k_Z M) (A 3) (a_K X) ++ (w_T (k_Z M) (A 4) (t_of (a_tp X) J) ++ (w_SS (k_Z M) A (a_S X))))))) dX3_seed_17 rfl (⟨T, J, rfl, rfl⟩)
theorem kv_X3_seed : k_iv yX3_seed cX3_seed 3 (some .int) 1 := ⟨⟨im_X3_seed, se_X3_seed⟩, in_X3, co_X3_seed, by decide +kernel⟩
set_option maxHeartbeats 4000000 in
set_option maxRecDepth 100000 in
theorem c_X3_wipe (l : Launch) (Z : kz_Z) (A : Nat → Nat → Nat) (X : AS) (T : FS) (J : TJ) (m : Nat) (hm : m ≤ 8) (hm2 : f_wk (a_F X) = nI m) : KI l Z yX3_wipe cX3_wipe 2 .int 0 0 [.ref ((A 0) 0)] (w_G Z A (a_kp X) (a_fd X) ++ (w_F Z (A 1) (a_F X) ++ (w_F Z (A 2) T ++ (w_F Z (A 3) (a_K X) ++ (w_T Z (A 4) (t_of (a_tp X) J) ++ (w_SS Z A (a_S X))))))) (fun r w2 => ∃ T2 J2, r = (o_wipe X).1 ∧ w2 = w_C Z A (o_wipe X).2 T2 J2) := by
  refine ki_of (by decide) [(0, .ref ((A 0) 0))] (Nat.le_of_ble_eq_true rfl) rfl ?_
  intro M e1 e2 K Rt
  subst e1 e2
  refine q_aload_n K 0 dX3_wipe_0 rfl ?_
  refine q_get (.ref ((A 4) 0)) K ws_X3 0 rfl rfl 4 (by decide) fl_X3_29 rfl dX3_wipe_1 ?_
  refine q_get (.int (t_sz (t_of (a_tp X) J))) K ws_X2 33 rfl rfl 1 (by decide) fl_X3_177 rfl dX3_wipe_4 ?_
  refine q_istore_n (lv' := [(1, .int (t_sz (t_of (a_tp X) J))), (0, .ref ((A 0) 0))]) K dX3_wipe_7 (by decide) rfl ?_
  refine q_aload_n K 1 dX3_wipe_8 rfl ?_
  refine q_get (.ref ((A 4) 0)) K ws_X3 0 rfl rfl 4 (by decide) fl_X3_29 rfl dX3_wipe_9 ?_
  refine q_iconst 0 K dX3_wipe_12 rfl ?_
  refine q_put (ty := .int) (ws' := w_G (k_Z M) A (a_kp X) (a_fd X) ++ (w_F (k_Z M) (A 1) (a_F X) ++ (w_F (k_Z M) (A 2) T ++ (w_F (k_Z M) (A 3) (a_K X) ++ (w_T (k_Z M) (A 4) (t_by (t_of (a_tp X) J), 0, t_so (t_of (a_tp X) J), t_pl (t_of (a_tp X) J), t_ln (t_of (a_tp X) J), t_nx (t_of (a_tp X) J)) ++ (w_SS (k_Z M) A (a_S X))))))) K ws_X2 tyX2 tyX2_ok nmX2 33 rfl rfl 1 (by decide) fl_X3_177 rfl (by decide +kernel) rfl rfl (Nat.le_of_ble_eq_true rfl) rfl dX3_wipe_13 ?_
  refine q_ws (ws' := w_G (k_Z M) A (a_kp X) (a_fd X) ++ (w_F (k_Z M) (A 1) (a_F X) ++ (w_F (k_Z M) (A 2) T ++ (w_F (k_Z M) (A 3) (a_K X) ++ (w_T (k_Z M) (A 4) (t_of ((a_tp X).1, 0) J) ++ (w_SS (k_Z M) A (a_S X))))))) rfl ?_
  refine q_iload_n K 0 dX3_wipe_16 rfl ?_
  exact Rt _ _ (t_sz (t_of (a_tp X) J)) (w_G (k_Z M) A (a_kp X) (a_fd X) ++ (w_F (k_Z M) (A 1) (a_F X) ++ (w_F (k_Z M) (A 2) T ++ (w_F (k_Z M) (A 3) (a_K X) ++ (w_T (k_Z M) (A 4) (t_of ((a_tp X).1, 0) J) ++ (w_SS (k_Z M) A (a_S X))))))) dX3_wipe_17 rfl (⟨T, J, rfl, rfl⟩)
theorem kv_X3_wipe : k_iv yX3_wipe cX3_wipe 2 (some .int) 0 := ⟨⟨im_X3_wipe, se_X3_wipe⟩, in_X3, co_X3_wipe, by decide +kernel⟩
set_option maxHeartbeats 4000000 in
set_option maxRecDepth 100000 in
theorem c_X3_image (l : Launch) (Z : kz_Z) (A : Nat → Nat → Nat) (X : AS) (T : FS) (J : TJ) (m : Nat) (hm : m ≤ 8) (hm2 : f_wk (a_F X) = nI m) : KI l Z yX3_image cX3_image 1 .int 2 62 [.ref ((A 0) 0)] (w_G Z A (a_kp X) (a_fd X) ++ (w_F Z (A 1) (a_F X) ++ (w_F Z (A 2) T ++ (w_F Z (A 3) (a_K X) ++ (w_T Z (A 4) (t_of (a_tp X) J) ++ (w_SS Z A (a_S X))))))) (fun r w2 => ∃ T2 J2, r = (o_image X).1 ∧ w2 = w_C Z A (o_image X).2 T2 J2) := by
  refine ki_of (by decide) [(0, .ref ((A 0) 0))] (Nat.le_of_ble_eq_true rfl) rfl ?_
  intro M e1 e2 K Rt
  subst e1 e2
  refine q_aload_n K 0 dX3_image_0 rfl ?_
  refine q_get (.ref ((A 3) 0)) K ws_X3 0 rfl rfl 2 (by decide) fl_X3_19 rfl dX3_image_1 ?_
  refine q_aload_n K 0 dX3_image_4 rfl ?_
  refine q_get (.ref ((A 1) 0)) K ws_X3 0 rfl rfl 0 (by decide) fl_X3_12 rfl dX3_image_5 ?_
  refine q_perm (ws' := w_G (k_Z M) A (a_kp X) (a_fd X) ++ (w_F (k_Z M) (A 1) (a_F X) ++ (w_F (k_Z M) (A 3) (a_K X) ++ (w_F (k_Z M) (A 2) T ++ (w_T (k_Z M) (A 4) (t_of (a_tp X) J) ++ (w_SS (k_Z M) A (a_S X))))))) (List.Perm.append_left _ (List.Perm.append_left _ (k_sw _ _ _))) ?_
  refine q_cvV (q0 := 10) (As := [.ref ((A 1) 0)]) (rest := []) K kv_X0_become (c_X0_becomeR (k_l M) (k_Z M) (A 3) (A 1) (a_K X) (a_F X)) (w_G (k_Z M) A (a_kp X) (a_fd X)) (w_F (k_Z M) (A 2) T ++ (w_T (k_Z M) (A 4) (t_of (a_tp X) J) ++ (w_SS (k_Z M) A (a_S X)))) rfl rfl rfl ml_X3_132 rfl rfl (Nat.le_of_ble_eq_true rfl) ⟨Nat.le_of_ble_eq_true rfl, Nat.le_of_ble_eq_true rfl⟩ dX3_image_8 (fun w2 h_1 => ?_)
  obtain rfl := h_1
  refine q_ws (ws' := w_G (k_Z M) A (a_kp X) (a_fd X) ++ (w_F (k_Z M) (A 1) (a_F X) ++ (w_F (k_Z M) (A 3) (a_F X) ++ (w_F (k_Z M) (A 2) T ++ (w_T (k_Z M) (A 4) (t_of (a_tp X) J) ++ (w_SS (k_Z M) A (a_S X))))))) rfl ?_
  refine q_perm (ws' := w_G (k_Z M) A (a_kp X) (a_fd X) ++ (w_F (k_Z M) (A 1) (a_F X) ++ (w_F (k_Z M) (A 2) T ++ (w_F (k_Z M) (A 3) (a_F X) ++ (w_T (k_Z M) (A 4) (t_of (a_tp X) J) ++ (w_SS (k_Z M) A (a_S X))))))) (List.Perm.append_left _ (List.Perm.append_left _ (k_sw _ _ _))) ?_
  refine q_aload_n K 0 dX3_image_11 rfl ?_
  refine q_iconst 1 K dX3_image_12 rfl ?_
  refine q_put (ty := .boolean) (ws' := w_G (k_Z M) A 1 (a_fd X) ++ (w_F (k_Z M) (A 1) (a_F X) ++ (w_F (k_Z M) (A 2) T ++ (w_F (k_Z M) (A 3) (a_F X) ++ (w_T (k_Z M) (A 4) (t_of (a_tp X) J) ++ (w_SS (k_Z M) A (a_S X))))))) K ws_X3 tyX3 tyX3_ok nmX3 0 rfl rfl 3 (by decide) fl_X3_22 rfl (by decide +kernel) rfl rfl (Nat.le_of_ble_eq_true rfl) rfl dX3_image_13 ?_
  refine q_iconst 1 K dX3_image_16 rfl ?_
  exact Rt _ _ 1 (w_G (k_Z M) A 1 (a_fd X) ++ (w_F (k_Z M) (A 1) (a_F X) ++ (w_F (k_Z M) (A 2) T ++ (w_F (k_Z M) (A 3) (a_F X) ++ (w_T (k_Z M) (A 4) (t_of (a_tp X) J) ++ (w_SS (k_Z M) A (a_S X))))))) dX3_image_17 rfl (⟨T, J, rfl, rfl⟩)
theorem kv_X3_image : k_iv yX3_image cX3_image 1 (some .int) 0 := ⟨⟨im_X3_image, se_X3_image⟩, in_X3, co_X3_image, by decide +kernel⟩
set_option maxHeartbeats 4000000 in
set_option maxRecDepth 100000 in
theorem c_X3_undo (l : Launch) (Z : kz_Z) (A : Nat → Nat → Nat) (X : AS) (T : FS) (J : TJ) (m : Nat) (hm : m ≤ 8) (hm2 : f_wk (a_F X) = nI m) : KI l Z yX3_undo cX3_undo 1 .int 2 62 [.ref ((A 0) 0)] (w_G Z A (a_kp X) (a_fd X) ++ (w_F Z (A 1) (a_F X) ++ (w_F Z (A 2) T ++ (w_F Z (A 3) (a_K X) ++ (w_T Z (A 4) (t_of (a_tp X) J) ++ (w_SS Z A (a_S X))))))) (fun r w2 => ∃ T2 J2, r = (o_undo X).1 ∧ w2 = w_C Z A (o_undo X).2 T2 J2) := by
  refine ki_of (by decide) [(0, .ref ((A 0) 0))] (Nat.le_of_ble_eq_true rfl) rfl ?_
  intro M e1 e2 K Rt
  subst e1 e2
  refine q_aload_n K 0 dX3_undo_0 rfl ?_
  refine q_get (.int (a_kp X)) K ws_X3 0 rfl rfl 3 (by decide) fl_X3_22 rfl dX3_undo_1 ?_
  refine q_if_ne 13 K dX3_undo_4 (by decide) (fun c_1 => ?_) (fun c_1 => ?_)
  · refine q_aload_n K 0 dX3_undo_13 rfl ?_
    refine q_get (.ref ((A 1) 0)) K ws_X3 0 rfl rfl 0 (by decide) fl_X3_12 rfl dX3_undo_14 ?_
    refine q_aload_n K 0 dX3_undo_17 rfl ?_
    refine q_get (.ref ((A 3) 0)) K ws_X3 0 rfl rfl 2 (by decide) fl_X3_19 rfl dX3_undo_18 ?_
    refine q_perm (ws' := w_G (k_Z M) A (a_kp X) (a_fd X) ++ (w_F (k_Z M) (A 1) (a_F X) ++ (w_F (k_Z M) (A 3) (a_K X) ++ (w_F (k_Z M) (A 2) T ++ (w_T (k_Z M) (A 4) (t_of (a_tp X) J) ++ (w_SS (k_Z M) A (a_S X))))))) (List.Perm.append_left _ (List.Perm.append_left _ (k_sw _ _ _))) ?_
    refine q_cvV (q0 := 0) (As := [.ref ((A 3) 0)]) (rest := []) K kv_X0_become (c_X0_become (k_l M) (k_Z M) (A 1) (A 3) (a_F X) (a_K X)) (w_G (k_Z M) A (a_kp X) (a_fd X)) (w_F (k_Z M) (A 2) T ++ (w_T (k_Z M) (A 4) (t_of (a_tp X) J) ++ (w_SS (k_Z M) A (a_S X)))) rfl rfl rfl ml_X3_132 rfl rfl (Nat.le_of_ble_eq_true rfl) ⟨Nat.le_of_ble_eq_true rfl, Nat.le_of_ble_eq_true rfl⟩ dX3_undo_21 (fun w2 h_2 => ?_)
    obtain rfl := h_2
    refine q_ws (ws' := w_G (k_Z M) A (a_kp X) (a_fd X) ++ (w_F (k_Z M) (A 1) (a_K X) ++ (w_F (k_Z M) (A 3) (a_K X) ++ (w_F (k_Z M) (A 2) T ++ (w_T (k_Z M) (A 4) (t_of (a_tp X) J) ++ (w_SS (k_Z M) A (a_S X))))))) rfl ?_
    refine q_perm (ws' := w_G (k_Z M) A (a_kp X) (a_fd X) ++ (w_F (k_Z M) (A 1) (a_K X) ++ (w_F (k_Z M) (A 2) T ++ (w_F (k_Z M) (A 3) (a_K X) ++ (w_T (k_Z M) (A 4) (t_of (a_tp X) J) ++ (w_SS (k_Z M) A (a_S X))))))) (List.Perm.append_left _ (List.Perm.append_left _ (k_sw _ _ _))) ?_
    refine q_aload_n K 0 dX3_undo_24 rfl ?_
    refine q_get (.ref ((A 1) 0)) K ws_X3 0 rfl rfl 0 (by decide) fl_X3_12 rfl dX3_undo_25 ?_
    refine q_get (.int (f_hr (a_K X))) K ws_X0 3 rfl rfl 6 (by decide) fl_X3_104 rfl dX3_undo_28 ?_
    exact Rt _ _ (f_hr (a_K X)) (w_G (k_Z M) A (a_kp X) (a_fd X) ++ (w_F (k_Z M) (A 1) (a_K X) ++ (w_F (k_Z M) (A 2) T ++ (w_F (k_Z M) (A 3) (a_K X) ++ (w_T (k_Z M) (A 4) (t_of (a_tp X) J) ++ (w_SS (k_Z M) A (a_S X))))))) dX3_undo_31 rfl (⟨T, J, by simp only [o_undo, a_fin, if_neg c_1], by simp only [o_undo, a_fin, if_neg c_1]; rfl⟩)
  · refine q_aload_n K 0 dX3_undo_7 rfl ?_
    refine q_iconst 3 K dX3_undo_8 rfl ?_
    refine q_wI (q0 := 0) (As := [.int 3]) (rest := []) K kv_X3_finding (c_X3_finding (k_l M) (k_Z M) A X T J 3 (by omega)) rfl rfl ml_X3_52 rfl rfl (Nat.le_of_ble_eq_true rfl) ⟨Nat.le_of_ble_eq_true rfl, Nat.le_of_ble_eq_true rfl⟩ dX3_undo_9 (fun r_4 w2 h_3 => ?_)
    obtain ⟨e_r_4, rfl⟩ := h_3
    refine q_eqi (r_fin 3) e_r_4 ?_
    refine q_ws (ws' := w_G (k_Z M) A (a_kp X) (fd_up (a_fd X) 3) ++ (w_F (k_Z M) (A 1) (a_F X) ++ (w_F (k_Z M) (A 2) T ++ (w_F (k_Z M) (A 3) (a_K X) ++ (w_T (k_Z M) (A 4) (t_of (a_tp X) J) ++ (w_SS (k_Z M) A (a_S X))))))) rfl ?_
    exact Rt _ _ (r_fin 3) (w_G (k_Z M) A (a_kp X) (fd_up (a_fd X) 3) ++ (w_F (k_Z M) (A 1) (a_F X) ++ (w_F (k_Z M) (A 2) T ++ (w_F (k_Z M) (A 3) (a_K X) ++ (w_T (k_Z M) (A 4) (t_of (a_tp X) J) ++ (w_SS (k_Z M) A (a_S X))))))) dX3_undo_12 rfl (⟨T, J, by simp only [o_undo, a_fin, if_pos c_1], by simp only [o_undo, a_fin, if_pos c_1]; rfl⟩)
theorem kv_X3_undo : k_iv yX3_undo cX3_undo 1 (some .int) 0 := ⟨⟨im_X3_undo, se_X3_undo⟩, in_X3, co_X3_undo, by decide +kernel⟩
set_option maxHeartbeats 4000000 in
set_option maxRecDepth 100000 in
theorem c_X3_tear (l : Launch) (Z : kz_Z) (A : Nat → Nat → Nat) (X : AS) (T : FS) (J : TJ) (m : Nat) (hm : m ≤ 8) (hm2 : f_wk (a_F X) = nI m) : KI l Z yX3_tear cX3_tear 2 .int 0 0 [.ref ((A 0) 0)] (w_G Z A (a_kp X) (a_fd X) ++ (w_F Z (A 1) (a_F X) ++ (w_F Z (A 2) T ++ (w_F Z (A 3) (a_K X) ++ (w_T Z (A 4) (t_of (a_tp X) J) ++ (w_SS Z A (a_S X))))))) (fun r w2 => ∃ T2 J2, r = (o_tear X).1 ∧ w2 = w_C Z A (o_tear X).2 T2 J2) := by
  refine ki_of (by decide) [(0, .ref ((A 0) 0))] (Nat.le_of_ble_eq_true rfl) rfl ?_
  intro M e1 e2 K Rt
  subst e1 e2
  refine q_aload_n K 0 dX3_tear_0 rfl ?_
  refine q_get (.int (a_kp X)) K ws_X3 0 rfl rfl 3 (by decide) fl_X3_22 rfl dX3_tear_1 ?_
  refine q_cuti (fun v9 : Int32 => v9 = (if (a_kp X) = 0 then 0 else 1)) 12 (st := []) (fun v_1 e_v_1 => ?_) (fun j_v_1 => ?_)
  · have e_v_1b : v_1 = if ¬ ((a_kp X) = 0) then 1 else 0 := kn_neg e_v_1
    refine q_istore_n (lv' := [(1, .int v_1), (0, .ref ((A 0) 0))]) K dX3_tear_12 (by decide) rfl ?_
    refine q_aload_n K 1 dX3_tear_13 rfl ?_
    refine q_iconst 0 K dX3_tear_14 rfl ?_
    refine q_put (ty := .boolean) (ws' := w_G (k_Z M) A 0 (a_fd X) ++ (w_F (k_Z M) (A 1) (a_F X) ++ (w_F (k_Z M) (A 2) T ++ (w_F (k_Z M) (A 3) (a_K X) ++ (w_T (k_Z M) (A 4) (t_of (a_tp X) J) ++ (w_SS (k_Z M) A (a_S X))))))) K ws_X3 tyX3 tyX3_ok nmX3 0 rfl rfl 3 (by decide) fl_X3_22 rfl (by decide +kernel) rfl rfl (Nat.le_of_ble_eq_true rfl) rfl dX3_tear_15 ?_
    refine q_iload_n K 0 dX3_tear_18 rfl ?_
    exact Rt _ _ v_1 (w_G (k_Z M) A 0 (a_fd X) ++ (w_F (k_Z M) (A 1) (a_F X) ++ (w_F (k_Z M) (A 2) T ++ (w_F (k_Z M) (A 3) (a_K X) ++ (w_T (k_Z M) (A 4) (t_of (a_tp X) J) ++ (w_SS (k_Z M) A (a_S X))))))) dX3_tear_19 rfl (⟨T, J, e_v_1b, rfl⟩)
  · refine q_if_eq 11 K dX3_tear_4 (by decide) (fun c_2 => ?_) (fun c_2 => ?_)
    · refine q_iconst 0 K dX3_tear_11 rfl ?_
      exact j_v_1 _ (if_pos c_2).symm
    · refine q_iconst 1 K dX3_tear_7 rfl ?_
      refine q_goto 12 K dX3_tear_8 (by decide) ?_
      exact j_v_1 _ (if_neg c_2).symm
theorem kv_X3_tear : k_iv yX3_tear cX3_tear 2 (some .int) 0 := ⟨⟨im_X3_tear, se_X3_tear⟩, in_X3, co_X3_tear, by decide +kernel⟩
set_option maxHeartbeats 4000000 in
set_option maxRecDepth 100000 in
theorem c_X3_allFound (l : Launch) (Z : kz_Z) (A : Nat → Nat → Nat) (X : AS) (T : FS) (J : TJ) : KI l Z yX3_allFound cX3_allFound 3 .int 0 0 [.ref ((A 0) 0)] (w_G Z A (a_kp X) (a_fd X) ++ (w_F Z (A 1) (a_F X) ++ (w_F Z (A 2) T ++ (w_F Z (A 3) (a_K X) ++ (w_T Z (A 4) (t_of (a_tp X) J) ++ (w_SS Z A (a_S X))))))) (fun r w2 => r = a_sum (a_fd X) 7 ∧ w2 = w_C Z A X T J) := by
  refine ki_of (by decide) [(0, .ref ((A 0) 0))] (Nat.le_of_ble_eq_true rfl) rfl ?_
  intro M e1 e2 K Rt
  subst e1 e2
  refine q_iconst 0 K dX3_allFound_0 rfl ?_
  refine q_istore_n (lv' := [(1, .int 0), (0, .ref ((A 0) 0))]) K dX3_allFound_1 (by decide) rfl ?_
  refine q_iconst 0 K dX3_allFound_2 rfl ?_
  refine q_istore_n (lv' := [(2, .int 0), (1, .int 0), (0, .ref ((A 0) 0))]) K dX3_allFound_3 (by decide) rfl ?_
  refine q_loop (α := Nat) (fun n9 g => g + n9 = 7) 4 (fun g => [(2, .int (nI g)), (1, .int (a_sum (a_fd X) g)), (0, .ref ((A 0) 0))]) (fun g => w_G (k_Z M) A (a_kp X) (a_fd X) ++ (w_F (k_Z M) (A 1) (a_F X) ++ (w_F (k_Z M) (A 2) T ++ (w_F (k_Z M) (A 3) (a_K X) ++ (w_T (k_Z M) (A 4) (t_of (a_tp X) J) ++ (w_SS (k_Z M) A (a_S X))))))) (fun n_1 g hI_2 ih_3 => ?_) 7 0 (by omega)
  refine q_iload_n K 0 dX3_allFound_4 rfl ?_
  refine q_bipush 7 K dX3_allFound_5 rfl ?_
  refine q_icmp_ge 25 K dX3_allFound_7 (by decide) (fun c_4 => ?_) (fun c_4 => ?_)
  · have c_4n : 7 ≤ g := (nI_leI (a := 7) (b := g) (by omega) (by omega)).mp c_4
    refine q_iload_n K 1 dX3_allFound_25 rfl ?_
    exact Rt _ _ (a_sum (a_fd X) g) (w_G (k_Z M) A (a_kp X) (a_fd X) ++ (w_F (k_Z M) (A 1) (a_F X) ++ (w_F (k_Z M) (A 2) T ++ (w_F (k_Z M) (A 3) (a_K X) ++ (w_T (k_Z M) (A 4) (t_of (a_tp X) J) ++ (w_SS (k_Z M) A (a_S X))))))) dX3_allFound_26 rfl (⟨by rw [show g = 7 by omega], rfl⟩)
  · have c_4n : ¬ (7 ≤ g) := fun h9 => c_4 ((nI_leI (a := 7) (b := g) (by omega) (by omega)).mpr h9)
    refine q_iload_n K 1 dX3_allFound_10 rfl ?_
    refine q_aload_n K 2 dX3_allFound_11 rfl ?_
    refine q_get (.ref ((A 0) 2)) K ws_X3 0 rfl rfl 6 (by decide) fl_X3_40 rfl dX3_allFound_12 ?_
    refine q_iload_n K 0 dX3_allFound_15 rfl ?_
    refine q_iald K 2 rfl (vp_in_nI (n := g) (N := 7) (by omega) (by omega)) dX3_allFound_16 ?_
    refine q_eqi ((a_fd X) g) (by rw [nI_clamp (n := g) (by omega)]) ?_
    refine q_iadd K dX3_allFound_17 ?_
    refine q_istore_n (lv' := [(1, .int ((a_sum (a_fd X) g) + ((a_fd X) g))), (2, .int (nI g)), (0, .ref ((A 0) 0))]) K dX3_allFound_18 (by decide) rfl ?_
    refine q_iinc (nI (g + 1)) (lv' := [(2, .int (nI (g + 1))), (1, .int ((a_sum (a_fd X) g) + ((a_fd X) g))), (0, .ref ((A 0) 0))]) K 1 dX3_allFound_19 rfl (kn_inc g) (by decide) rfl ?_
    refine q_goto 4 K dX3_allFound_22 (by decide) ?_
    rw [show (a_sum (a_fd X) g) + ((a_fd X) g) = a_sum (a_fd X) (g + 1) by simp only [a_sum, if_neg c_4]]
    exact ih_3 (n_1 - 1) (g + 1) (by omega) (by omega)
theorem kv_X3_allFound : k_iv yX3_allFound cX3_allFound 3 (some .int) 0 := ⟨⟨im_X3_allFound, se_X3_allFound⟩, in_X3, co_X3_allFound, by decide +kernel⟩
set_option maxHeartbeats 4000000 in
set_option maxRecDepth 100000 in
theorem c_X3_count (l : Launch) (Z : kz_Z) (A : Nat → Nat → Nat) (X : AS) (T : FS) (J : TJ) (m : Nat) (hm : m ≤ 8) (hm2 : f_wk (a_F X) = nI m) (what : Int32) : KI l Z yX3_count cX3_count 2 .int 1 22 [.ref ((A 0) 0), .int what] (w_G Z A (a_kp X) (a_fd X) ++ (w_F Z (A 1) (a_F X) ++ (w_F Z (A 2) T ++ (w_F Z (A 3) (a_K X) ++ (w_T Z (A 4) (t_of (a_tp X) J) ++ (w_SS Z A (a_S X))))))) (fun r w2 => ∃ T2 J2, r = (o_count X what).1 ∧ w2 = w_C Z A (o_count X what).2 T2 J2) := by
  refine ki_of (by decide) [(0, .ref ((A 0) 0)), (1, .int what)] (Nat.le_of_ble_eq_true rfl) rfl ?_
  intro M e1 e2 K Rt
  subst e1 e2
  refine q_iload_n K 1 dX3_count_0 rfl ?_
  by_cases c_1 : what = 0
  · refine q_tableIn (off := 47) 48 K dX3_count_1 (by rw [c_1]; decide) (by rw [c_1]; decide) (by rw [c_1]; rfl) (by decide) ?_
    refine q_aload_n K 0 dX3_count_48 rfl ?_
    refine q_get (.ref ((A 1) 0)) K ws_X3 0 rfl rfl 0 (by decide) fl_X3_12 rfl dX3_count_49 ?_
    refine q_get (.int (f_hr (a_F X))) K ws_X0 3 rfl rfl 6 (by decide) fl_X3_104 rfl dX3_count_52 ?_
    exact Rt _ _ (f_hr (a_F X)) (w_G (k_Z M) A (a_kp X) (a_fd X) ++ (w_F (k_Z M) (A 1) (a_F X) ++ (w_F (k_Z M) (A 2) T ++ (w_F (k_Z M) (A 3) (a_K X) ++ (w_T (k_Z M) (A 4) (t_of (a_tp X) J) ++ (w_SS (k_Z M) A (a_S X))))))) dX3_count_55 rfl (⟨T, J, by simp only [o_count, a_fin, if_pos c_1, f_mm hm hm2] <;> rfl, by simp only [o_count, a_fin, if_pos c_1, f_mm hm hm2] <;> rfl⟩)
  by_cases c_2 : what = 1
  · refine q_tableIn (off := 55) 56 K dX3_count_1 (by rw [c_2]; decide) (by rw [c_2]; decide) (by rw [c_2]; rfl) (by decide) ?_
    refine q_aload_n K 0 dX3_count_56 rfl ?_
    refine q_get (.ref ((A 1) 0)) K ws_X3 0 rfl rfl 0 (by decide) fl_X3_12 rfl dX3_count_57 ?_
    refine q_get (.int (f_wk (a_F X))) K ws_X0 3 rfl rfl 4 (by decide) fl_X3_78 rfl dX3_count_60 ?_
    exact Rt _ _ (f_wk (a_F X)) (w_G (k_Z M) A (a_kp X) (a_fd X) ++ (w_F (k_Z M) (A 1) (a_F X) ++ (w_F (k_Z M) (A 2) T ++ (w_F (k_Z M) (A 3) (a_K X) ++ (w_T (k_Z M) (A 4) (t_of (a_tp X) J) ++ (w_SS (k_Z M) A (a_S X))))))) dX3_count_63 rfl (⟨T, J, by simp only [o_count, a_fin, if_neg c_1, if_pos c_2, f_mm hm hm2] <;> rfl, by simp only [o_count, a_fin, if_neg c_1, if_pos c_2, f_mm hm hm2] <;> rfl⟩)
  by_cases c_3 : what = 2
  · refine q_tableIn (off := 63) 64 K dX3_count_1 (by rw [c_3]; decide) (by rw [c_3]; decide) (by rw [c_3]; rfl) (by decide) ?_
    refine q_aload_n K 0 dX3_count_64 rfl ?_
    refine q_get (.ref ((A 1) 0)) K ws_X3 0 rfl rfl 0 (by decide) fl_X3_12 rfl dX3_count_65 ?_
    refine q_cvI (q0 := 0) (As := []) (rest := []) K kv_X0_notShut (c_X0_notShut (k_l M) (k_Z M) (A 1) (a_F X)) (w_G (k_Z M) A (a_kp X) (a_fd X)) (w_F (k_Z M) (A 2) T ++ (w_F (k_Z M) (A 3) (a_K X) ++ (w_T (k_Z M) (A 4) (t_of (a_tp X) J) ++ (w_SS (k_Z M) A (a_S X))))) rfl rfl rfl ml_X3_119 rfl rfl (Nat.le_of_ble_eq_true rfl) ⟨Nat.le_of_ble_eq_true rfl, Nat.le_of_ble_eq_true rfl⟩ dX3_count_68 (fun r_5 w2 h_4 => ?_)
    obtain ⟨e_r_5, rfl⟩ := h_4
    refine q_eqi (f_ns (a_F X) 8) e_r_5 ?_
    refine q_ws (ws' := w_G (k_Z M) A (a_kp X) (a_fd X) ++ (w_F (k_Z M) (A 1) (a_F X) ++ (w_F (k_Z M) (A 2) T ++ (w_F (k_Z M) (A 3) (a_K X) ++ (w_T (k_Z M) (A 4) (t_of (a_tp X) J) ++ (w_SS (k_Z M) A (a_S X))))))) rfl ?_
    refine q_cp (rest := []) K ks_J6_bitCount_0f7a4 (c_J6_bitCount_0f7a4 (k_l M) (k_Z M) (f_ns (a_F X) 8)) ml_X3_167 rfl rfl (Nat.le_of_ble_eq_true rfl) ⟨Nat.le_of_ble_eq_true rfl, Nat.le_of_ble_eq_true rfl⟩ dX3_count_71 (fun r_6 e_r_6 => ?_)
    exact Rt _ _ r_6 (w_G (k_Z M) A (a_kp X) (a_fd X) ++ (w_F (k_Z M) (A 1) (a_F X) ++ (w_F (k_Z M) (A 2) T ++ (w_F (k_Z M) (A 3) (a_K X) ++ (w_T (k_Z M) (A 4) (t_of (a_tp X) J) ++ (w_SS (k_Z M) A (a_S X))))))) dX3_count_74 rfl (⟨T, J, by simp only [o_count, a_fin, if_neg c_1, if_neg c_2, if_pos c_3, e_r_6, f_mm hm hm2] <;> rfl, by simp only [o_count, a_fin, if_neg c_1, if_neg c_2, if_pos c_3, f_mm hm hm2] <;> rfl⟩)
  by_cases c_7 : what = 3
  · refine q_tableIn (off := 74) 75 K dX3_count_1 (by rw [c_7]; decide) (by rw [c_7]; decide) (by rw [c_7]; rfl) (by decide) ?_
    refine q_aload_n K 0 dX3_count_75 rfl ?_
    refine q_get (.ref ((A 1) 0)) K ws_X3 0 rfl rfl 0 (by decide) fl_X3_12 rfl dX3_count_76 ?_
    refine q_cvI (q0 := 0) (As := []) (rest := []) K kv_X0_allBeasts (c_X0_allBeasts (k_l M) (k_Z M) (A 1) (a_F X)) (w_G (k_Z M) A (a_kp X) (a_fd X)) (w_F (k_Z M) (A 2) T ++ (w_F (k_Z M) (A 3) (a_K X) ++ (w_T (k_Z M) (A 4) (t_of (a_tp X) J) ++ (w_SS (k_Z M) A (a_S X))))) rfl rfl rfl ml_X3_116 rfl rfl (Nat.le_of_ble_eq_true rfl) ⟨Nat.le_of_ble_eq_true rfl, Nat.le_of_ble_eq_true rfl⟩ dX3_count_79 (fun r_9 w2 h_8 => ?_)
    obtain ⟨e_r_9, rfl⟩ := h_8
    refine q_eqi (f_sumb (a_F X) 9) e_r_9 ?_
    refine q_ws (ws' := w_G (k_Z M) A (a_kp X) (a_fd X) ++ (w_F (k_Z M) (A 1) (a_F X) ++ (w_F (k_Z M) (A 2) T ++ (w_F (k_Z M) (A 3) (a_K X) ++ (w_T (k_Z M) (A 4) (t_of (a_tp X) J) ++ (w_SS (k_Z M) A (a_S X))))))) rfl ?_
    exact Rt _ _ (f_sumb (a_F X) 9) (w_G (k_Z M) A (a_kp X) (a_fd X) ++ (w_F (k_Z M) (A 1) (a_F X) ++ (w_F (k_Z M) (A 2) T ++ (w_F (k_Z M) (A 3) (a_K X) ++ (w_T (k_Z M) (A 4) (t_of (a_tp X) J) ++ (w_SS (k_Z M) A (a_S X))))))) dX3_count_82 rfl (⟨T, J, by simp only [o_count, a_fin, if_neg c_1, if_neg c_2, if_neg c_3, if_pos c_7, f_mm hm hm2] <;> rfl, by simp only [o_count, a_fin, if_neg c_1, if_neg c_2, if_neg c_3, if_pos c_7, f_mm hm hm2] <;> rfl⟩)
  by_cases c_10 : what = 4
  · refine q_tableIn (off := 82) 83 K dX3_count_1 (by rw [c_10]; decide) (by rw [c_10]; decide) (by rw [c_10]; rfl) (by decide) ?_
    refine q_aload_n K 0 dX3_count_83 rfl ?_
    refine q_get (.ref ((A 1) 0)) K ws_X3 0 rfl rfl 0 (by decide) fl_X3_12 rfl dX3_count_84 ?_
    refine q_cvI (q0 := 0) (As := []) (rest := []) K kv_X0_allPassed (c_X0_allPassed (k_l M) (k_Z M) (A 1) (a_F X) m hm hm2) (w_G (k_Z M) A (a_kp X) (a_fd X)) (w_F (k_Z M) (A 2) T ++ (w_F (k_Z M) (A 3) (a_K X) ++ (w_T (k_Z M) (A 4) (t_of (a_tp X) J) ++ (w_SS (k_Z M) A (a_S X))))) rfl rfl rfl ml_X3_122 rfl rfl (Nat.le_of_ble_eq_true rfl) ⟨Nat.le_of_ble_eq_true rfl, Nat.le_of_ble_eq_true rfl⟩ dX3_count_87 (fun r_12 w2 h_11 => ?_)
    obtain ⟨e_r_12, rfl⟩ := h_11
    refine q_eqi (f_sump (a_F X) m) e_r_12 ?_
    refine q_ws (ws' := w_G (k_Z M) A (a_kp X) (a_fd X) ++ (w_F (k_Z M) (A 1) (a_F X) ++ (w_F (k_Z M) (A 2) T ++ (w_F (k_Z M) (A 3) (a_K X) ++ (w_T (k_Z M) (A 4) (t_of (a_tp X) J) ++ (w_SS (k_Z M) A (a_S X))))))) rfl ?_
    exact Rt _ _ (f_sump (a_F X) m) (w_G (k_Z M) A (a_kp X) (a_fd X) ++ (w_F (k_Z M) (A 1) (a_F X) ++ (w_F (k_Z M) (A 2) T ++ (w_F (k_Z M) (A 3) (a_K X) ++ (w_T (k_Z M) (A 4) (t_of (a_tp X) J) ++ (w_SS (k_Z M) A (a_S X))))))) dX3_count_90 rfl (⟨T, J, by simp only [o_count, a_fin, if_neg c_1, if_neg c_2, if_neg c_3, if_neg c_7, if_pos c_10, f_mm hm hm2] <;> rfl, by simp only [o_count, a_fin, if_neg c_1, if_neg c_2, if_neg c_3, if_neg c_7, if_pos c_10, f_mm hm hm2] <;> rfl⟩)
  by_cases c_13 : what = 5
  · refine q_tableIn (off := 90) 91 K dX3_count_1 (by rw [c_13]; decide) (by rw [c_13]; decide) (by rw [c_13]; rfl) (by decide) ?_
    refine q_aload_n K 0 dX3_count_91 rfl ?_
    refine q_get (.ref ((A 4) 0)) K ws_X3 0 rfl rfl 4 (by decide) fl_X3_29 rfl dX3_count_92 ?_
    refine q_get (.int (t_sz (t_of (a_tp X) J))) K ws_X2 33 rfl rfl 1 (by decide) fl_X3_177 rfl dX3_count_95 ?_
    exact Rt _ _ (t_sz (t_of (a_tp X) J)) (w_G (k_Z M) A (a_kp X) (a_fd X) ++ (w_F (k_Z M) (A 1) (a_F X) ++ (w_F (k_Z M) (A 2) T ++ (w_F (k_Z M) (A 3) (a_K X) ++ (w_T (k_Z M) (A 4) (t_of (a_tp X) J) ++ (w_SS (k_Z M) A (a_S X))))))) dX3_count_98 rfl (⟨T, J, by simp only [o_count, a_fin, if_neg c_1, if_neg c_2, if_neg c_3, if_neg c_7, if_neg c_10, if_pos c_13, f_mm hm hm2] <;> rfl, by simp only [o_count, a_fin, if_neg c_1, if_neg c_2, if_neg c_3, if_neg c_7, if_neg c_10, if_pos c_13, f_mm hm hm2] <;> rfl⟩)
  by_cases c_14 : what = 6
  · refine q_tableIn (off := 98) 99 K dX3_count_1 (by rw [c_14]; decide) (by rw [c_14]; decide) (by rw [c_14]; rfl) (by decide) ?_
    refine q_aload_n K 0 dX3_count_99 rfl ?_
    refine q_get (.ref ((A 1) 0)) K ws_X3 0 rfl rfl 0 (by decide) fl_X3_12 rfl dX3_count_100 ?_
    refine q_get (.int (f_zz (a_F X))) K ws_X0 3 rfl rfl 7 (by decide) fl_X3_174 rfl dX3_count_103 ?_
    exact Rt _ _ (f_zz (a_F X)) (w_G (k_Z M) A (a_kp X) (a_fd X) ++ (w_F (k_Z M) (A 1) (a_F X) ++ (w_F (k_Z M) (A 2) T ++ (w_F (k_Z M) (A 3) (a_K X) ++ (w_T (k_Z M) (A 4) (t_of (a_tp X) J) ++ (w_SS (k_Z M) A (a_S X))))))) dX3_count_106 rfl (⟨T, J, by simp only [o_count, a_fin, if_neg c_1, if_neg c_2, if_neg c_3, if_neg c_7, if_neg c_10, if_neg c_13, if_pos c_14, f_mm hm hm2] <;> rfl, by simp only [o_count, a_fin, if_neg c_1, if_neg c_2, if_neg c_3, if_neg c_7, if_neg c_10, if_neg c_13, if_pos c_14, f_mm hm hm2] <;> rfl⟩)
  by_cases c_15 : what = 7
  · refine q_tableIn (off := 106) 107 K dX3_count_1 (by rw [c_15]; decide) (by rw [c_15]; decide) (by rw [c_15]; rfl) (by decide) ?_
    refine q_aload_n K 0 dX3_count_107 rfl ?_
    refine q_get (.ref ((A 1) 0)) K ws_X3 0 rfl rfl 0 (by decide) fl_X3_12 rfl dX3_count_108 ?_
    refine q_cvI (q0 := 0) (As := []) (rest := []) K kv_X0_spotsInUse (c_X0_spotsInUse (k_l M) (k_Z M) (A 1) (a_F X)) (w_G (k_Z M) A (a_kp X) (a_fd X)) (w_F (k_Z M) (A 2) T ++ (w_F (k_Z M) (A 3) (a_K X) ++ (w_T (k_Z M) (A 4) (t_of (a_tp X) J) ++ (w_SS (k_Z M) A (a_S X))))) rfl rfl rfl ml_X3_230 rfl rfl (Nat.le_of_ble_eq_true rfl) ⟨Nat.le_of_ble_eq_true rfl, Nat.le_of_ble_eq_true rfl⟩ dX3_count_111 (fun r_17 w2 h_16 => ?_)
    obtain ⟨e_r_17, rfl⟩ := h_16
    refine q_eqi (f_spn (a_F X) 10) e_r_17 ?_
    refine q_ws (ws' := w_G (k_Z M) A (a_kp X) (a_fd X) ++ (w_F (k_Z M) (A 1) (a_F X) ++ (w_F (k_Z M) (A 2) T ++ (w_F (k_Z M) (A 3) (a_K X) ++ (w_T (k_Z M) (A 4) (t_of (a_tp X) J) ++ (w_SS (k_Z M) A (a_S X))))))) rfl ?_
    exact Rt _ _ (f_spn (a_F X) 10) (w_G (k_Z M) A (a_kp X) (a_fd X) ++ (w_F (k_Z M) (A 1) (a_F X) ++ (w_F (k_Z M) (A 2) T ++ (w_F (k_Z M) (A 3) (a_K X) ++ (w_T (k_Z M) (A 4) (t_of (a_tp X) J) ++ (w_SS (k_Z M) A (a_S X))))))) dX3_count_114 rfl (⟨T, J, by simp only [o_count, a_fin, if_neg c_1, if_neg c_2, if_neg c_3, if_neg c_7, if_neg c_10, if_neg c_13, if_neg c_14, if_pos c_15, f_mm hm hm2] <;> rfl, by simp only [o_count, a_fin, if_neg c_1, if_neg c_2, if_neg c_3, if_neg c_7, if_neg c_10, if_neg c_13, if_neg c_14, if_pos c_15, f_mm hm hm2] <;> rfl⟩)
  refine q_tableOut 115 K dX3_count_1 (by have := lv_neT (a := 0) c_1 rfl; have := lv_neT (a := 1) c_2 rfl; have := lv_neT (a := 2) c_3 rfl; have := lv_neT (a := 3) c_7 rfl; have := lv_neT (a := 4) c_10 rfl; have := lv_neT (a := 5) c_13 rfl; have := lv_neT (a := 6) c_14 rfl; have := lv_neT (a := 7) c_15 rfl; omega) (by decide) ?_
  refine q_aload_n K 0 dX3_count_115 rfl ?_
  refine q_iconst 0 K dX3_count_116 rfl ?_
  refine q_wI (q0 := 0) (As := [.int 0]) (rest := []) K kv_X3_finding (c_X3_finding (k_l M) (k_Z M) A X T J 0 (by omega)) rfl rfl ml_X3_52 rfl rfl (Nat.le_of_ble_eq_true rfl) ⟨Nat.le_of_ble_eq_true rfl, Nat.le_of_ble_eq_true rfl⟩ dX3_count_117 (fun r_19 w2 h_18 => ?_)
  obtain ⟨e_r_19, rfl⟩ := h_18
  refine q_eqi (r_fin 0) e_r_19 ?_
  refine q_ws (ws' := w_G (k_Z M) A (a_kp X) (fd_up (a_fd X) 0) ++ (w_F (k_Z M) (A 1) (a_F X) ++ (w_F (k_Z M) (A 2) T ++ (w_F (k_Z M) (A 3) (a_K X) ++ (w_T (k_Z M) (A 4) (t_of (a_tp X) J) ++ (w_SS (k_Z M) A (a_S X))))))) rfl ?_
  exact Rt _ _ (r_fin 0) (w_G (k_Z M) A (a_kp X) (fd_up (a_fd X) 0) ++ (w_F (k_Z M) (A 1) (a_F X) ++ (w_F (k_Z M) (A 2) T ++ (w_F (k_Z M) (A 3) (a_K X) ++ (w_T (k_Z M) (A 4) (t_of (a_tp X) J) ++ (w_SS (k_Z M) A (a_S X))))))) dX3_count_120 rfl (⟨T, J, by simp only [o_count, a_fin, if_neg c_1, if_neg c_2, if_neg c_3, if_neg c_7, if_neg c_10, if_neg c_13, if_neg c_14, if_neg c_15, f_mm hm hm2] <;> rfl, by simp only [o_count, a_fin, if_neg c_1, if_neg c_2, if_neg c_3, if_neg c_7, if_neg c_10, if_neg c_13, if_neg c_14, if_neg c_15, f_mm hm hm2] <;> rfl⟩)
theorem kv_X3_count : k_iv yX3_count cX3_count 2 (some .int) 1 := ⟨⟨im_X3_count, se_X3_count⟩, in_X3, co_X3_count, by decide +kernel⟩
set_option maxHeartbeats 4000000 in
set_option maxRecDepth 100000 in
theorem c_X3_status (l : Launch) (Z : kz_Z) (A : Nat → Nat → Nat) (X : AS) (T : FS) (J : TJ) (m : Nat) (hm : m ≤ 8) (hm2 : f_wk (a_F X) = nI m) (which : Int32) : KI l Z yX3_status cX3_status 2 .int 1 22 [.ref ((A 0) 0), .int which] (w_G Z A (a_kp X) (a_fd X) ++ (w_F Z (A 1) (a_F X) ++ (w_F Z (A 2) T ++ (w_F Z (A 3) (a_K X) ++ (w_T Z (A 4) (t_of (a_tp X) J) ++ (w_SS Z A (a_S X))))))) (fun r w2 => ∃ T2 J2, r = (o_status X which).1 ∧ w2 = w_C Z A (o_status X which).2 T2 J2) := by
  refine ki_of (by decide) [(0, .ref ((A 0) 0)), (1, .int which)] (Nat.le_of_ble_eq_true rfl) rfl ?_
  intro M e1 e2 K Rt
  subst e1 e2
  refine q_iload_n K 1 dX3_status_0 rfl ?_
  refine q_iconst (-1) K dX3_status_1 rfl ?_
  refine q_bipush 6 K dX3_status_2 rfl ?_
  refine q_cp (rest := []) K ks_X3_isIn (c_X3_isIn (k_l M) (k_Z M) which (-1) 6) ml_X3_48 rfl rfl (Nat.le_of_ble_eq_true rfl) ⟨Nat.le_of_ble_eq_true rfl, Nat.le_of_ble_eq_true rfl⟩ dX3_status_4 (fun r_1 e_r_1 => ?_)
  refine q_if_ne 16 K dX3_status_7 (by decide) (fun c_2 => ?_) (fun c_2 => ?_)
  · have c_2 : inR which (-1) 6 := (kn_ne e_r_1).mp c_2
    refine q_iload_n K 1 dX3_status_16 rfl ?_
    refine q_if_ge 27 K dX3_status_17 (by decide) (fun c_3 => ?_) (fun c_3 => ?_)
    · obtain ⟨k, h_k, e_k⟩ := kn_m1 c_2 c_3
      subst e_k
      refine q_aload_n K 0 dX3_status_27 rfl ?_
      refine q_get (.ref ((A 0) 2)) K ws_X3 0 rfl rfl 6 (by decide) fl_X3_40 rfl dX3_status_28 ?_
      refine q_iload_n K 1 dX3_status_31 rfl ?_
      refine q_iald K 2 rfl (vp_in_nI (n := k) (N := 7) (by omega) (by omega)) dX3_status_32 ?_
      refine q_eqi ((a_fd X) k) (by rw [nI_clamp (n := k) (by omega)]) ?_
      exact Rt _ _ ((a_fd X) k) (w_G (k_Z M) A (a_kp X) (a_fd X) ++ (w_F (k_Z M) (A 1) (a_F X) ++ (w_F (k_Z M) (A 2) T ++ (w_F (k_Z M) (A 3) (a_K X) ++ (w_T (k_Z M) (A 4) (t_of (a_tp X) J) ++ (w_SS (k_Z M) A (a_S X))))))) dX3_status_33 rfl (⟨T, J, by simp only [o_status, a_fin, if_pos c_2, if_pos c_3, e_r_1, nI_clamp (n := k) (by omega)], by simp only [o_status, a_fin, if_pos c_2, if_pos c_3, nI_clamp (n := k) (by omega)]; rfl⟩)
    · refine q_aload_n K 0 dX3_status_20 rfl ?_
      refine q_wI (q0 := 0) (As := []) (rest := []) K kv_X3_allFound (c_X3_allFound (k_l M) (k_Z M) A X T J) rfl rfl ml_X3_233 rfl rfl (Nat.le_of_ble_eq_true rfl) ⟨Nat.le_of_ble_eq_true rfl, Nat.le_of_ble_eq_true rfl⟩ dX3_status_21 (fun r_5 w2 h_4 => ?_)
      obtain ⟨e_r_5, rfl⟩ := h_4
      refine q_ws (ws' := w_G (k_Z M) A (a_kp X) (a_fd X) ++ (w_F (k_Z M) (A 1) (a_F X) ++ (w_F (k_Z M) (A 2) T ++ (w_F (k_Z M) (A 3) (a_K X) ++ (w_T (k_Z M) (A 4) (t_of (a_tp X) J) ++ (w_SS (k_Z M) A (a_S X))))))) rfl ?_
      refine q_eqi (a_sum (a_fd X) 7) e_r_5 ?_
      refine q_goto 33 K dX3_status_24 (by decide) ?_
      exact Rt _ _ (a_sum (a_fd X) 7) (w_G (k_Z M) A (a_kp X) (a_fd X) ++ (w_F (k_Z M) (A 1) (a_F X) ++ (w_F (k_Z M) (A 2) T ++ (w_F (k_Z M) (A 3) (a_K X) ++ (w_T (k_Z M) (A 4) (t_of (a_tp X) J) ++ (w_SS (k_Z M) A (a_S X))))))) dX3_status_33 rfl (⟨T, J, by simp only [o_status, a_fin, if_pos c_2, if_neg c_3, e_r_1], by simp only [o_status, a_fin, if_pos c_2, if_neg c_3]; rfl⟩)
  · have c_2 : ¬ (inR which (-1) 6) := (kn_eq e_r_1).mp c_2
    refine q_aload_n K 0 dX3_status_10 rfl ?_
    refine q_iconst 0 K dX3_status_11 rfl ?_
    refine q_wI (q0 := 0) (As := [.int 0]) (rest := []) K kv_X3_finding (c_X3_finding (k_l M) (k_Z M) A X T J 0 (by omega)) rfl rfl ml_X3_52 rfl rfl (Nat.le_of_ble_eq_true rfl) ⟨Nat.le_of_ble_eq_true rfl, Nat.le_of_ble_eq_true rfl⟩ dX3_status_12 (fun r_7 w2 h_6 => ?_)
    obtain ⟨e_r_7, rfl⟩ := h_6
    refine q_eqi (r_fin 0) e_r_7 ?_
    refine q_ws (ws' := w_G (k_Z M) A (a_kp X) (fd_up (a_fd X) 0) ++ (w_F (k_Z M) (A 1) (a_F X) ++ (w_F (k_Z M) (A 2) T ++ (w_F (k_Z M) (A 3) (a_K X) ++ (w_T (k_Z M) (A 4) (t_of (a_tp X) J) ++ (w_SS (k_Z M) A (a_S X))))))) rfl ?_
    exact Rt _ _ (r_fin 0) (w_G (k_Z M) A (a_kp X) (fd_up (a_fd X) 0) ++ (w_F (k_Z M) (A 1) (a_F X) ++ (w_F (k_Z M) (A 2) T ++ (w_F (k_Z M) (A 3) (a_K X) ++ (w_T (k_Z M) (A 4) (t_of (a_tp X) J) ++ (w_SS (k_Z M) A (a_S X))))))) dX3_status_15 rfl (⟨T, J, by simp only [o_status, a_fin, if_neg c_2, e_r_1], by simp only [o_status, a_fin, if_neg c_2]; rfl⟩)
theorem kv_X3_status : k_iv yX3_status cX3_status 2 (some .int) 1 := ⟨⟨im_X3_status, se_X3_status⟩, in_X3, co_X3_status, by decide +kernel⟩
