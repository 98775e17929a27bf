set_option maxHeartbeats 4000000 in
set_option maxRecDepth 100000 in
theorem c_X3_isWish (l : Launch) (Z : kz_Z) (A : Nat → Nat → Nat) (X : AS) (T : FS) (J : TJ) (w g s n : Int32) : KI l Z yX3_isWish cX3_isWish 5 .boolean 2 43 [.ref ((A 0) 0), .int w, .int g, .int s, .int n] (w_G Z A (a_kp X) (a_fd X) ++ (w_F Z (A 1) (a_F X) ++ (w_F Z (A 2) T ++ (w_F Z (A 3) (a_K X) ++ (w_T Z (A 4) (t_of (a_tp X) J) ++ (w_SS Z A (a_S X))))))) (fun r w2 => (r = if isWish X w g s n then 1 else 0) ∧ w2 = w_C Z A X T J) := by
  refine ki_of (by decide) [(0, .ref ((A 0) 0)), (1, .int w), (2, .int g), (3, .int s), (4, .int n)] (Nat.le_of_ble_eq_true rfl) rfl ?_
  intro M e1 e2 K Rt
  subst e1 e2
  refine q_aload_n K 0 dX3_isWish_0 rfl ?_
  refine q_iload_n K 1 dX3_isWish_1 rfl ?_
  refine q_wI (q0 := 0) (As := [.int w]) (rest := []) K kv_X3_isWalker (c_X3_isWalker (k_l M) (k_Z M) A X T J w) rfl rfl ml_X3_85 rfl rfl (Nat.le_of_ble_eq_true rfl) ⟨Nat.le_of_ble_eq_true rfl, Nat.le_of_ble_eq_true rfl⟩ dX3_isWish_2 (fun r_2 w2 h_1 => ?_)
  obtain ⟨e_r_2, rfl⟩ := h_1
  refine q_ws (ws' := w_G (k_Z M) A (a_kp X) (a_fd X) ++ (w_F (k_Z M) (A 1) (a_F X) ++ (w_F (k_Z M) (A 2) T ++ (w_F (k_Z M) (A 3) (a_K X) ++ (w_T (k_Z M) (A 4) (t_of (a_tp X) J) ++ (w_SS (k_Z M) A (a_S X))))))) rfl ?_
  refine q_if_eq 37 K dX3_isWish_5 (by decide) (fun c_3 => ?_) (fun c_3 => ?_)
  · have c_3 : ¬ (isW X w) := (kn_eq e_r_2).mp c_3
    refine q_iconst 0 K dX3_isWish_37 rfl ?_
    exact Rt _ _ 0 (w_G (k_Z M) A (a_kp X) (a_fd X) ++ (w_F (k_Z M) (A 1) (a_F X) ++ (w_F (k_Z M) (A 2) T ++ (w_F (k_Z M) (A 3) (a_K X) ++ (w_T (k_Z M) (A 4) (t_of (a_tp X) J) ++ (w_SS (k_Z M) A (a_S X))))))) dX3_isWish_38 rfl (⟨(if_neg (fun h9 => c_3 h9.1)).symm, rfl⟩)
  · have c_3 : isW X w := (kn_ne e_r_2).mp c_3
    refine q_iload_n K 2 dX3_isWish_8 rfl ?_
    refine q_cp (rest := []) K ks_X3_isGate (c_X3_isGate (k_l M) (k_Z M) g) ml_X3_62 rfl rfl (Nat.le_of_ble_eq_true rfl) ⟨Nat.le_of_ble_eq_true rfl, Nat.le_of_ble_eq_true rfl⟩ dX3_isWish_9 (fun r_4 e_r_4 => ?_)
    refine q_if_eq 37 K dX3_isWish_12 (by decide) (fun c_5 => ?_) (fun c_5 => ?_)
    · have c_5 : ¬ (inR g 0 7) := (kn_eq e_r_4).mp c_5
      refine q_iconst 0 K dX3_isWish_37 rfl ?_
      exact Rt _ _ 0 (w_G (k_Z M) A (a_kp X) (a_fd X) ++ (w_F (k_Z M) (A 1) (a_F X) ++ (w_F (k_Z M) (A 2) T ++ (w_F (k_Z M) (A 3) (a_K X) ++ (w_T (k_Z M) (A 4) (t_of (a_tp X) J) ++ (w_SS (k_Z M) A (a_S X))))))) dX3_isWish_38 rfl (⟨(if_neg (fun h9 => c_5 h9.2.1)).symm, rfl⟩)
    · have c_5 : inR g 0 7 := (kn_ne e_r_4).mp c_5
      refine q_iload_n K 3 dX3_isWish_15 rfl ?_
      refine q_cp (rest := []) K ks_X3_isManner (c_X3_isManner (k_l M) (k_Z M) s) ml_X3_65 rfl rfl (Nat.le_of_ble_eq_true rfl) ⟨Nat.le_of_ble_eq_true rfl, Nat.le_of_ble_eq_true rfl⟩ dX3_isWish_16 (fun r_6 e_r_6 => ?_)
      refine q_if_eq 37 K dX3_isWish_19 (by decide) (fun c_7 => ?_) (fun c_7 => ?_)
      · have c_7 : ¬ (inR s 0 3) := (kn_eq e_r_6).mp c_7
        refine q_iconst 0 K dX3_isWish_37 rfl ?_
        exact Rt _ _ 0 (w_G (k_Z M) A (a_kp X) (a_fd X) ++ (w_F (k_Z M) (A 1) (a_F X) ++ (w_F (k_Z M) (A 2) T ++ (w_F (k_Z M) (A 3) (a_K X) ++ (w_T (k_Z M) (A 4) (t_of (a_tp X) J) ++ (w_SS (k_Z M) A (a_S X))))))) dX3_isWish_38 rfl (⟨(if_neg (fun h9 => c_7 h9.2.2.1)).symm, rfl⟩)
      · have c_7 : inR s 0 3 := (kn_ne e_r_6).mp c_7
        refine q_iload K 4 dX3_isWish_22 rfl ?_
        refine q_iconst 0 K dX3_isWish_24 rfl ?_
        refine q_bipush 40 K dX3_isWish_25 rfl ?_
        refine q_cp (rest := []) K ks_X3_isIn (c_X3_isIn (k_l M) (k_Z M) n 0 40) ml_X3_48 rfl rfl (Nat.le_of_ble_eq_true rfl) ⟨Nat.le_of_ble_eq_true rfl, Nat.le_of_ble_eq_true rfl⟩ dX3_isWish_27 (fun r_8 e_r_8 => ?_)
        refine q_if_eq 37 K dX3_isWish_30 (by decide) (fun c_9 => ?_) (fun c_9 => ?_)
        · have c_9 : ¬ (inR n 0 40) := (kn_eq e_r_8).mp c_9
          refine q_iconst 0 K dX3_isWish_37 rfl ?_
          exact Rt _ _ 0 (w_G (k_Z M) A (a_kp X) (a_fd X) ++ (w_F (k_Z M) (A 1) (a_F X) ++ (w_F (k_Z M) (A 2) T ++ (w_F (k_Z M) (A 3) (a_K X) ++ (w_T (k_Z M) (A 4) (t_of (a_tp X) J) ++ (w_SS (k_Z M) A (a_S X))))))) dX3_isWish_38 rfl (⟨(if_neg (fun h9 => c_9 h9.2.2.2)).symm, rfl⟩)
        · have c_9 : inR n 0 40 := (kn_ne e_r_8).mp c_9
          refine q_iconst 1 K dX3_isWish_33 rfl ?_
          refine q_goto 38 K dX3_isWish_34 (by decide) ?_
          exact Rt _ _ 1 (w_G (k_Z M) A (a_kp X) (a_fd X) ++ (w_F (k_Z M) (A 1) (a_F X) ++ (w_F (k_Z M) (A 2) T ++ (w_F (k_Z M) (A 3) (a_K X) ++ (w_T (k_Z M) (A 4) (t_of (a_tp X) J) ++ (w_SS (k_Z M) A (a_S X))))))) dX3_isWish_38 rfl (⟨(if_pos ⟨c_3, c_5, c_7, c_9⟩).symm, rfl⟩)
theorem kv_X3_isWish : k_iv yX3_isWish cX3_isWish 5 (some .boolean) 4 := ⟨⟨im_X3_isWish, se_X3_isWish⟩, in_X3, co_X3_isWish, by decide +kernel⟩
set_option maxHeartbeats 4000000 in
set_option maxRecDepth 100000 in
theorem c_X3_valuesFor0 (l : Launch) (Z : kz_Z) (A : Nat → Nat → Nat) (X : AS) (T : FS) (J : TJ) (m : Nat) (hm : m ≤ 8) (hm2 : f_wk (a_F X) = nI m) (w : Nat) (hw : w < 8) (g : Nat) (hg : g < 8) (s : Int32) (n : Nat) (hn : n ≤ 40) : KI l Z yX3_valuesFor cX3_valuesFor 8 .int 5 110 [.ref ((A 0) 0), .int (nI w), .int 0, .int (nI g), .int s, .int (nI n)] (w_G Z A (a_kp X) (a_fd X) ++ (w_F Z (A 1) (a_F X) ++ (w_F Z (A 2) T ++ (w_F Z (A 3) (a_K X) ++ (w_T Z (A 4) (t_of (a_tp X) J) ++ (w_SS Z A (a_S X))))))) (fun r w2 => ∃ T2, r = f_vset (a_F X) 0 w g s n 7 ∧ w2 = w_C Z A X T2 J) := by
  refine ki_of (by decide) [(0, .ref ((A 0) 0)), (1, .int (nI w)), (2, .int 0), (3, .int (nI g)), (4, .int s), (5, .int (nI n))] (Nat.le_of_ble_eq_true rfl) rfl ?_
  intro M e1 e2 K Rt
  subst e1 e2
  refine q_iconst 0 K dX3_valuesFor_0 rfl ?_
  refine q_istore (lv' := [(6, .int 0), (0, .ref ((A 0) 0)), (1, .int (nI w)), (2, .int 0), (3, .int (nI g)), (4, .int s), (5, .int (nI n))]) K dX3_valuesFor_1 (by decide) rfl ?_
  refine q_iconst 0 K dX3_valuesFor_3 rfl ?_
  refine q_istore (lv' := [(7, .int 0), (6, .int 0), (0, .ref ((A 0) 0)), (1, .int (nI w)), (2, .int 0), (3, .int (nI g)), (4, .int s), (5, .int (nI n))]) K dX3_valuesFor_4 (by decide) rfl ?_
  refine q_loop (α := Nat × FS) (fun n9 x9 => x9.1 + n9 = 7) 6 (fun x9 => [(7, .int (nI x9.1)), (6, .int (f_vset (a_F X) 0 w g s n x9.1)), (0, .ref ((A 0) 0)), (1, .int (nI w)), (2, .int 0), (3, .int (nI g)), (4, .int s), (5, .int (nI n))]) (fun x9 => w_G (k_Z M) A (a_kp X) (a_fd X) ++ (w_F (k_Z M) (A 1) (a_F X) ++ (w_F (k_Z M) (A 2) x9.2 ++ (w_F (k_Z M) (A 3) (a_K X) ++ (w_T (k_Z M) (A 4) (t_of (a_tp X) J) ++ (w_SS (k_Z M) A (a_S X))))))) (fun n_1 x9 hI_2 ih_3 => ?_) 7 (0, T) rfl
  obtain ⟨v, T1⟩ := x9
  dsimp only at hI_2 ih_3 ⊢
  refine q_iload K 0 dX3_valuesFor_6 rfl ?_
  refine q_most K fl_X3_95 dX3_valuesFor_8 ?_
  refine q_iload_n K 4 dX3_valuesFor_11 rfl ?_
  refine q_mostld (v := 6) K (vp_in_nI (n := 0) (N := 5) (by omega) (by omega)) rfl dX3_valuesFor_12 ?_
  refine q_icmp_gt 81 K dX3_valuesFor_13 (by decide) (fun c_4 => ?_) (fun c_4 => ?_)
  · have c_4n : 6 < v := (nI_ltI (a := 6) (b := v) (by omega) (by omega)).mp c_4
    refine q_iload K 1 dX3_valuesFor_81 rfl ?_
    exact Rt _ _ (f_vset (a_F X) 0 w g s n v) (w_G (k_Z M) A (a_kp X) (a_fd X) ++ (w_F (k_Z M) (A 1) (a_F X) ++ (w_F (k_Z M) (A 2) T1 ++ (w_F (k_Z M) (A 3) (a_K X) ++ (w_T (k_Z M) (A 4) (t_of (a_tp X) J) ++ (w_SS (k_Z M) A (a_S X))))))) dX3_valuesFor_83 rfl (⟨T1, by rw [show v = 7 by omega], rfl⟩)
  · have c_4n : ¬ (6 < v) := fun h9 => c_4 ((nI_ltI (a := 6) (b := v) (by omega) (by omega)).mpr h9)
    refine q_aload_n K 2 dX3_valuesFor_16 rfl ?_
    refine q_get (.ref ((A 2) 0)) K ws_X3 0 rfl rfl 1 (by decide) fl_X3_16 rfl dX3_valuesFor_17 ?_
    refine q_aload_n K 2 dX3_valuesFor_20 rfl ?_
    refine q_get (.ref ((A 1) 0)) K ws_X3 0 rfl rfl 0 (by decide) fl_X3_12 rfl dX3_valuesFor_21 ?_
    refine q_cvV (q0 := 10) (As := [.ref ((A 1) 0)]) (rest := []) K kv_X0_become (c_X0_becomeR (k_l M) (k_Z M) (A 2) (A 1) T1 (a_F X)) (w_G (k_Z M) A (a_kp X) (a_fd X)) (w_F (k_Z M) (A 3) (a_K X) ++ (w_T (k_Z M) (A 4) (t_of (a_tp X) J) ++ (w_SS (k_Z M) A (a_S X)))) rfl rfl rfl ml_X3_132 rfl rfl (Nat.le_of_ble_eq_true rfl) ⟨Nat.le_of_ble_eq_true rfl, Nat.le_of_ble_eq_true rfl⟩ dX3_valuesFor_24 (fun w2 h_5 => ?_)
    obtain rfl := h_5
    refine q_ws (ws' := w_G (k_Z M) A (a_kp X) (a_fd X) ++ (w_F (k_Z M) (A 1) (a_F X) ++ (w_F (k_Z M) (A 2) (a_F X) ++ (w_F (k_Z M) (A 3) (a_K X) ++ (w_T (k_Z M) (A 4) (t_of (a_tp X) J) ++ (w_SS (k_Z M) A (a_S X))))))) rfl ?_
    refine q_aload_n K 2 dX3_valuesFor_27 rfl ?_
    refine q_get (.ref ((A 2) 0)) K ws_X3 0 rfl rfl 1 (by decide) fl_X3_16 rfl dX3_valuesFor_28 ?_
    refine q_get (.ref ((A 2) 3)) K ws_X0 13 rfl rfl 2 (by decide) fl_X3_91 rfl dX3_valuesFor_31 ?_
    refine q_iload_n K 4 dX3_valuesFor_34 rfl ?_
    refine q_aldg (y := (A 2) 5) K 16 rfl (vp_in_nI (n := 0) (N := 5) (by omega) (by omega)) rfl dX3_valuesFor_35 ?_
    refine q_iload_n K 3 dX3_valuesFor_36 rfl ?_
    refine q_iload K 0 dX3_valuesFor_37 rfl ?_
    refine q_iast (ws' := w_G (k_Z M) A (a_kp X) (a_fd X) ++ (w_F (k_Z M) (A 1) (a_F X) ++ (w_F (k_Z M) (A 2) (f_bs (a_F X), f_gs (a_F X), upd (f_kd (a_F X)) w (nI v), f_fd (a_F X), f_wy (a_F X), f_md (a_F X), f_ps (a_F X), f_hd (a_F X), f_wk (a_F X), f_wd (a_F X), f_hr (a_F X), f_zz (a_F X)) ++ (w_F (k_Z M) (A 3) (a_K X) ++ (w_T (k_Z M) (A 4) (t_of (a_tp X) J) ++ (w_SS (k_Z M) A (a_S X))))))) K 18 rfl (vp_in_nI (n := w) (N := 8) (by omega) (by omega)) (by rw [nI_clamp (n := w) (by omega)] <;> rfl) dX3_valuesFor_39 ?_
    refine q_ws (ws' := w_G (k_Z M) A (a_kp X) (a_fd X) ++ (w_F (k_Z M) (A 1) (a_F X) ++ (w_F (k_Z M) (A 2) (f_setrow (a_F X) 0 (upd (f_row (a_F X) 0) w (nI v))) ++ (w_F (k_Z M) (A 3) (a_K X) ++ (w_T (k_Z M) (A 4) (t_of (a_tp X) J) ++ (w_SS (k_Z M) A (a_S X))))))) rfl ?_
    refine q_aload_n K 2 dX3_valuesFor_40 rfl ?_
    refine q_get (.ref ((A 2) 0)) K ws_X3 0 rfl rfl 1 (by decide) fl_X3_16 rfl dX3_valuesFor_41 ?_
    refine q_iload K 7 dX3_valuesFor_44 rfl ?_
    refine q_sipush 255 K dX3_valuesFor_46 rfl ?_
    refine q_cvV (q0 := 0) (As := [.int (nI n), .int 255]) (rest := []) K kv_X0_passHours (c_X0_passHours (k_l M) (k_Z M) (A 2) (f_setrow (a_F X) 0 (upd (f_row (a_F X) 0) w (nI v))) m hm hm2 n (by omega) 255) (w_G (k_Z M) A (a_kp X) (a_fd X) ++ (w_F (k_Z M) (A 1) (a_F X))) (w_F (k_Z M) (A 3) (a_K X) ++ (w_T (k_Z M) (A 4) (t_of (a_tp X) J) ++ (w_SS (k_Z M) A (a_S X)))) rfl rfl rfl ml_X3_108 rfl rfl (Nat.le_of_ble_eq_true rfl) ⟨Nat.le_of_ble_eq_true rfl, Nat.le_of_ble_eq_true rfl⟩ dX3_valuesFor_49 (fun w2 h_6 => ?_)
    obtain rfl := h_6
    refine q_ws (ws' := w_G (k_Z M) A (a_kp X) (a_fd X) ++ (w_F (k_Z M) (A 1) (a_F X) ++ (w_F (k_Z M) (A 2) (f_hoursC (f_gm 255) (f_setrow (a_F X) 0 (upd (f_row (a_F X) 0) w (nI v))) n) ++ (w_F (k_Z M) (A 3) (a_K X) ++ (w_T (k_Z M) (A 4) (t_of (a_tp X) J) ++ (w_SS (k_Z M) A (a_S X))))))) rfl ?_
    refine q_aload_n K 2 dX3_valuesFor_52 rfl ?_
    refine q_get (.ref ((A 2) 0)) K ws_X3 0 rfl rfl 1 (by decide) fl_X3_16 rfl dX3_valuesFor_53 ?_
    refine q_get (.ref ((A 2) 2)) K ws_X0 13 rfl rfl 1 (by decide) fl_X3_68 rfl dX3_valuesFor_56 ?_
    refine q_iload_n K 5 dX3_valuesFor_59 rfl ?_
    refine q_iald K 15 rfl (vp_in_nI (n := g) (N := 8) (by omega) (by omega)) dX3_valuesFor_60 ?_
    refine q_eqi ((f_gs (f_hoursC (f_gm 255) (f_setrow (a_F X) 0 (upd (f_row (a_F X) 0) w (nI v))) n)) g) (by rw [nI_clamp (n := g) (by omega)]) ?_
    refine q_iload K 6 dX3_valuesFor_61 rfl ?_
    refine q_icmp_ne 75 K dX3_valuesFor_63 (by decide) (fun c_8 => ?_) (fun c_8 => ?_)
    · refine q_iinc (nI (v + 1)) (lv' := [(7, .int (nI (v + 1))), (6, .int (f_vset (a_F X) 0 w g s n v)), (0, .ref ((A 0) 0)), (1, .int (nI w)), (2, .int 0), (3, .int (nI g)), (4, .int s), (5, .int (nI n))]) K 0 dX3_valuesFor_75 rfl (kn_inc v) (by decide) rfl ?_
      refine q_goto 6 K dX3_valuesFor_78 (by decide) ?_
      rw [show f_vset (a_F X) 0 w g s n v = f_vset (a_F X) 0 w g s n (v + 1) by simp only [f_vset, if_neg c_8]]
      exact ih_3 (n_1 - 1) (v + 1, f_hoursC (f_gm 255) (f_setrow (a_F X) 0 (upd (f_row (a_F X) 0) w (nI v))) n) (by omega) (by show v + 1 + (n_1 - 1) = 7; omega)
    · refine q_iload K 1 dX3_valuesFor_66 rfl ?_
      refine q_iconst 1 K dX3_valuesFor_68 rfl ?_
      refine q_iload K 0 dX3_valuesFor_69 rfl ?_
      refine q_ishl K dX3_valuesFor_71 ?_
      refine q_ior K dX3_valuesFor_72 ?_
      refine q_istore (lv' := [(6, .int ((f_vset (a_F X) 0 w g s n v) ||| (1 <<< ((nI v) &&& 31)))), (7, .int (nI v)), (0, .ref ((A 0) 0)), (1, .int (nI w)), (2, .int 0), (3, .int (nI g)), (4, .int s), (5, .int (nI n))]) K dX3_valuesFor_73 (by decide) rfl ?_
      refine q_iinc (nI (v + 1)) (lv' := [(7, .int (nI (v + 1))), (6, .int ((f_vset (a_F X) 0 w g s n v) ||| (1 <<< ((nI v) &&& 31)))), (0, .ref ((A 0) 0)), (1, .int (nI w)), (2, .int 0), (3, .int (nI g)), (4, .int s), (5, .int (nI n))]) K 1 dX3_valuesFor_75 rfl (kn_inc v) (by decide) rfl ?_
      refine q_goto 6 K dX3_valuesFor_78 (by decide) ?_
      rw [show (f_vset (a_F X) 0 w g s n v) ||| (1 <<< ((nI v) &&& 31)) = f_vset (a_F X) 0 w g s n (v + 1) by simp only [f_vset, if_pos c_8]]
      exact ih_3 (n_1 - 1) (v + 1, f_hoursC (f_gm 255) (f_setrow (a_F X) 0 (upd (f_row (a_F X) 0) w (nI v))) n) (by omega) (by show v + 1 + (n_1 - 1) = 7; omega)
set_option maxHeartbeats 4000000 in
set_option maxRecDepth 100000 in
theorem c_X3_valuesFor1 (l : Launch) (Z : kz_Z) (A : Nat → Nat → Nat) (X : AS) (T : FS) (J : TJ) (m : Nat) (hm : m ≤ 8) (hm2 : f_wk (a_F X) = nI m) (w : Nat) (hw : w < 8) (g : Nat) (hg : g < 8) (s : Int32) (n : Nat) (hn : n ≤ 40) : KI l Z yX3_valuesFor cX3_valuesFor 8 .int 5 110 [.ref ((A 0) 0), .int (nI w), .int 1, .int (nI g), .int s, .int (nI n)] (w_G Z A (a_kp X) (a_fd X) ++ (w_F Z (A 1) (a_F X) ++ (w_F Z (A 2) T ++ (w_F Z (A 3) (a_K X) ++ (w_T Z (A 4) (t_of (a_tp X) J) ++ (w_SS Z A (a_S X))))))) (fun r w2 => ∃ T2, r = f_vset (a_F X) 1 w g s n 9 ∧ w2 = w_C Z A X T2 J) := by
  refine ki_of (by decide) [(0, .ref ((A 0) 0)), (1, .int (nI w)), (2, .int 1), (3, .int (nI g)), (4, .int s), (5, .int (nI n))] (Nat.le_of_ble_eq_true rfl) rfl ?_
  intro M e1 e2 K Rt
  subst e1 e2
  refine q_iconst 0 K dX3_valuesFor_0 rfl ?_
  refine q_istore (lv' := [(6, .int 0), (0, .ref ((A 0) 0)), (1, .int (nI w)), (2, .int 1), (3, .int (nI g)), (4, .int s), (5, .int (nI n))]) K dX3_valuesFor_1 (by decide) rfl ?_
  refine q_iconst 0 K dX3_valuesFor_3 rfl ?_
  refine q_istore (lv' := [(7, .int 0), (6, .int 0), (0, .ref ((A 0) 0)), (1, .int (nI w)), (2, .int 1), (3, .int (nI g)), (4, .int s), (5, .int (nI n))]) K dX3_valuesFor_4 (by decide) rfl ?_
  refine q_loop (α := Nat × FS) (fun n9 x9 => x9.1 + n9 = 9) 6 (fun x9 => [(7, .int (nI x9.1)), (6, .int (f_vset (a_F X) 1 w g s n x9.1)), (0, .ref ((A 0) 0)), (1, .int (nI w)), (2, .int 1), (3, .int (nI g)), (4, .int s), (5, .int (nI n))]) (fun x9 => w_G (k_Z M) A (a_kp X) (a_fd X) ++ (w_F (k_Z M) (A 1) (a_F X) ++ (w_F (k_Z M) (A 2) x9.2 ++ (w_F (k_Z M) (A 3) (a_K X) ++ (w_T (k_Z M) (A 4) (t_of (a_tp X) J) ++ (w_SS (k_Z M) A (a_S X))))))) (fun n_1 x9 hI_2 ih_3 => ?_) 9 (0, T) rfl
  obtain ⟨v, T1⟩ := x9
  dsimp only at hI_2 ih_3 ⊢
  refine q_iload K 0 dX3_valuesFor_6 rfl ?_
  refine q_most K fl_X3_95 dX3_valuesFor_8 ?_
  refine q_iload_n K 4 dX3_valuesFor_11 rfl ?_
  refine q_mostld (v := 8) K (vp_in_nI (n := 1) (N := 5) (by omega) (by omega)) rfl dX3_valuesFor_12 ?_
  refine q_icmp_gt 81 K dX3_valuesFor_13 (by decide) (fun c_4 => ?_) (fun c_4 => ?_)
  · have c_4n : 8 < v := (nI_ltI (a := 8) (b := v) (by omega) (by omega)).mp c_4
    refine q_iload K 1 dX3_valuesFor_81 rfl ?_
    exact Rt _ _ (f_vset (a_F X) 1 w g s n v) (w_G (k_Z M) A (a_kp X) (a_fd X) ++ (w_F (k_Z M) (A 1) (a_F X) ++ (w_F (k_Z M) (A 2) T1 ++ (w_F (k_Z M) (A 3) (a_K X) ++ (w_T (k_Z M) (A 4) (t_of (a_tp X) J) ++ (w_SS (k_Z M) A (a_S X))))))) dX3_valuesFor_83 rfl (⟨T1, by rw [show v = 9 by omega], rfl⟩)
  · have c_4n : ¬ (8 < v) := fun h9 => c_4 ((nI_ltI (a := 8) (b := v) (by omega) (by omega)).mpr h9)
    refine q_aload_n K 2 dX3_valuesFor_16 rfl ?_
    refine q_get (.ref ((A 2) 0)) K ws_X3 0 rfl rfl 1 (by decide) fl_X3_16 rfl dX3_valuesFor_17 ?_
    refine q_aload_n K 2 dX3_valuesFor_20 rfl ?_
    refine q_get (.ref ((A 1) 0)) K ws_X3 0 rfl rfl 0 (by decide) fl_X3_12 rfl dX3_valuesFor_21 ?_
    refine q_cvV (q0 := 10) (As := [.ref ((A 1) 0)]) (rest := []) K kv_X0_become (c_X0_becomeR (k_l M) (k_Z M) (A 2) (A 1) T1 (a_F X)) (w_G (k_Z M) A (a_kp X) (a_fd X)) (w_F (k_Z M) (A 3) (a_K X) ++ (w_T (k_Z M) (A 4) (t_of (a_tp X) J) ++ (w_SS (k_Z M) A (a_S X)))) rfl rfl rfl ml_X3_132 rfl rfl (Nat.le_of_ble_eq_true rfl) ⟨Nat.le_of_ble_eq_true rfl, Nat.le_of_ble_eq_true rfl⟩ dX3_valuesFor_24 (fun w2 h_5 => ?_)
    obtain rfl := h_5
    refine q_ws (ws' := w_G (k_Z M) A (a_kp X) (a_fd X) ++ (w_F (k_Z M) (A 1) (a_F X) ++ (w_F (k_Z M) (A 2) (a_F X) ++ (w_F (k_Z M) (A 3) (a_K X) ++ (w_T (k_Z M) (A 4) (t_of (a_tp X) J) ++ (w_SS (k_Z M) A (a_S X))))))) rfl ?_
    refine q_aload_n K 2 dX3_valuesFor_27 rfl ?_
    refine q_get (.ref ((A 2) 0)) K ws_X3 0 rfl rfl 1 (by decide) fl_X3_16 rfl dX3_valuesFor_28 ?_
    refine q_get (.ref ((A 2) 3)) K ws_X0 13 rfl rfl 2 (by decide) fl_X3_91 rfl dX3_valuesFor_31 ?_
    refine q_iload_n K 4 dX3_valuesFor_34 rfl ?_
    refine q_aldg (y := (A 2) 6) K 16 rfl (vp_in_nI (n := 1) (N := 5) (by omega) (by omega)) rfl dX3_valuesFor_35 ?_
    refine q_iload_n K 3 dX3_valuesFor_36 rfl ?_
    refine q_iload K 0 dX3_valuesFor_37 rfl ?_
    refine q_iast (ws' := w_G (k_Z M) A (a_kp X) (a_fd X) ++ (w_F (k_Z M) (A 1) (a_F X) ++ (w_F (k_Z M) (A 2) (f_bs (a_F X), f_gs (a_F X), f_kd (a_F X), upd (f_fd (a_F X)) w (nI v), f_wy (a_F X), f_md (a_F X), f_ps (a_F X), f_hd (a_F X), f_wk (a_F X), f_wd (a_F X), f_hr (a_F X), f_zz (a_F X)) ++ (w_F (k_Z M) (A 3) (a_K X) ++ (w_T (k_Z M) (A 4) (t_of (a_tp X) J) ++ (w_SS (k_Z M) A (a_S X))))))) K 19 rfl (vp_in_nI (n := w) (N := 8) (by omega) (by omega)) (by rw [nI_clamp (n := w) (by omega)] <;> rfl) dX3_valuesFor_39 ?_
    refine q_ws (ws' := w_G (k_Z M) A (a_kp X) (a_fd X) ++ (w_F (k_Z M) (A 1) (a_F X) ++ (w_F (k_Z M) (A 2) (f_setrow (a_F X) 1 (upd (f_row (a_F X) 1) w (nI v))) ++ (w_F (k_Z M) (A 3) (a_K X) ++ (w_T (k_Z M) (A 4) (t_of (a_tp X) J) ++ (w_SS (k_Z M) A (a_S X))))))) rfl ?_
    refine q_aload_n K 2 dX3_valuesFor_40 rfl ?_
    refine q_get (.ref ((A 2) 0)) K ws_X3 0 rfl rfl 1 (by decide) fl_X3_16 rfl dX3_valuesFor_41 ?_
    refine q_iload K 7 dX3_valuesFor_44 rfl ?_
    refine q_sipush 255 K dX3_valuesFor_46 rfl ?_
    refine q_cvV (q0 := 0) (As := [.int (nI n), .int 255]) (rest := []) K kv_X0_passHours (c_X0_passHours (k_l M) (k_Z M) (A 2) (f_setrow (a_F X) 1 (upd (f_row (a_F X) 1) w (nI v))) m hm hm2 n (by omega) 255) (w_G (k_Z M) A (a_kp X) (a_fd X) ++ (w_F (k_Z M) (A 1) (a_F X))) (w_F (k_Z M) (A 3) (a_K X) ++ (w_T (k_Z M) (A 4) (t_of (a_tp X) J) ++ (w_SS (k_Z M) A (a_S X)))) rfl rfl rfl ml_X3_108 rfl rfl (Nat.le_of_ble_eq_true rfl) ⟨Nat.le_of_ble_eq_true rfl, Nat.le_of_ble_eq_true rfl⟩ dX3_valuesFor_49 (fun w2 h_6 => ?_)
    obtain rfl := h_6
    refine q_ws (ws' := w_G (k_Z M) A (a_kp X) (a_fd X) ++ (w_F (k_Z M) (A 1) (a_F X) ++ (w_F (k_Z M) (A 2) (f_hoursC (f_gm 255) (f_setrow (a_F X) 1 (upd (f_row (a_F X) 1) w (nI v))) n) ++ (w_F (k_Z M) (A 3) (a_K X) ++ (w_T (k_Z M) (A 4) (t_of (a_tp X) J) ++ (w_SS (k_Z M) A (a_S X))))))) rfl ?_
    refine q_aload_n K 2 dX3_valuesFor_52 rfl ?_
    refine q_get (.ref ((A 2) 0)) K ws_X3 0 rfl rfl 1 (by decide) fl_X3_16 rfl dX3_valuesFor_53 ?_
    refine q_get (.ref ((A 2) 2)) K ws_X0 13 rfl rfl 1 (by decide) fl_X3_68 rfl dX3_valuesFor_56 ?_
    refine q_iload_n K 5 dX3_valuesFor_59 rfl ?_
    refine q_iald K 15 rfl (vp_in_nI (n := g) (N := 8) (by omega) (by omega)) dX3_valuesFor_60 ?_
    refine q_eqi ((f_gs (f_hoursC (f_gm 255) (f_setrow (a_F X) 1 (upd (f_row (a_F X) 1) w (nI v))) n)) g) (by rw [nI_clamp (n := g) (by omega)]) ?_
    refine q_iload K 6 dX3_valuesFor_61 rfl ?_
    refine q_icmp_ne 75 K dX3_valuesFor_63 (by decide) (fun c_8 => ?_) (fun c_8 => ?_)
    · refine q_iinc (nI (v + 1)) (lv' := [(7, .int (nI (v + 1))), (6, .int (f_vset (a_F X) 1 w g s n v)), (0, .ref ((A 0) 0)), (1, .int (nI w)), (2, .int 1), (3, .int (nI g)), (4, .int s), (5, .int (nI n))]) K 0 dX3_valuesFor_75 rfl (kn_inc v) (by decide) rfl ?_
      refine q_goto 6 K dX3_valuesFor_78 (by decide) ?_
      rw [show f_vset (a_F X) 1 w g s n v = f_vset (a_F X) 1 w g s n (v + 1) by simp only [f_vset, if_neg c_8]]
      exact ih_3 (n_1 - 1) (v + 1, f_hoursC (f_gm 255) (f_setrow (a_F X) 1 (upd (f_row (a_F X) 1) w (nI v))) n) (by omega) (by show v + 1 + (n_1 - 1) = 9; omega)
    · refine q_iload K 1 dX3_valuesFor_66 rfl ?_
      refine q_iconst 1 K dX3_valuesFor_68 rfl ?_
      refine q_iload K 0 dX3_valuesFor_69 rfl ?_
      refine q_ishl K dX3_valuesFor_71 ?_
      refine q_ior K dX3_valuesFor_72 ?_
      refine q_istore (lv' := [(6, .int ((f_vset (a_F X) 1 w g s n v) ||| (1 <<< ((nI v) &&& 31)))), (7, .int (nI v)), (0, .ref ((A 0) 0)), (1, .int (nI w)), (2, .int 1), (3, .int (nI g)), (4, .int s), (5, .int (nI n))]) K dX3_valuesFor_73 (by decide) rfl ?_
      refine q_iinc (nI (v + 1)) (lv' := [(7, .int (nI (v + 1))), (6, .int ((f_vset (a_F X) 1 w g s n v) ||| (1 <<< ((nI v) &&& 31)))), (0, .ref ((A 0) 0)), (1, .int (nI w)), (2, .int 1), (3, .int (nI g)), (4, .int s), (5, .int (nI n))]) K 1 dX3_valuesFor_75 rfl (kn_inc v) (by decide) rfl ?_
      refine q_goto 6 K dX3_valuesFor_78 (by decide) ?_
      rw [show (f_vset (a_F X) 1 w g s n v) ||| (1 <<< ((nI v) &&& 31)) = f_vset (a_F X) 1 w g s n (v + 1) by simp only [f_vset, if_pos c_8]]
      exact ih_3 (n_1 - 1) (v + 1, f_hoursC (f_gm 255) (f_setrow (a_F X) 1 (upd (f_row (a_F X) 1) w (nI v))) n) (by omega) (by show v + 1 + (n_1 - 1) = 9; omega)
set_option maxHeartbeats 4000000 in
set_option maxRecDepth 100000 in
theorem c_X3_valuesFor3 (l : Launch) (Z : kz_Z) (A : Nat → Nat → Nat) (X : AS) (T : FS) (J : TJ) (m : Nat) (hm : m ≤ 8) (hm2 : f_wk (a_F X) = nI m) (w : Nat) (hw : w < 8) (g : Nat) (hg : g < 8) (s : Int32) (n : Nat) (hn : n ≤ 40) : KI l Z yX3_valuesFor cX3_valuesFor 8 .int 5 110 [.ref ((A 0) 0), .int (nI w), .int 3, .int (nI g), .int s, .int (nI n)] (w_G Z A (a_kp X) (a_fd X) ++ (w_F Z (A 1) (a_F X) ++ (w_F Z (A 2) T ++ (w_F Z (A 3) (a_K X) ++ (w_T Z (A 4) (t_of (a_tp X) J) ++ (w_SS Z A (a_S X))))))) (fun r w2 => ∃ T2, r = f_vset (a_F X) 3 w g s n 10 ∧ w2 = w_C Z A X T2 J) := by
  refine ki_of (by decide) [(0, .ref ((A 0) 0)), (1, .int (nI w)), (2, .int 3), (3, .int (nI g)), (4, .int s), (5, .int (nI n))] (Nat.le_of_ble_eq_true rfl) rfl ?_
  intro M e1 e2 K Rt
  subst e1 e2
  refine q_iconst 0 K dX3_valuesFor_0 rfl ?_
  refine q_istore (lv' := [(6, .int 0), (0, .ref ((A 0) 0)), (1, .int (nI w)), (2, .int 3), (3, .int (nI g)), (4, .int s), (5, .int (nI n))]) K dX3_valuesFor_1 (by decide) rfl ?_
  refine q_iconst 0 K dX3_valuesFor_3 rfl ?_
  refine q_istore (lv' := [(7, .int 0), (6, .int 0), (0, .ref ((A 0) 0)), (1, .int (nI w)), (2, .int 3), (3, .int (nI g)), (4, .int s), (5, .int (nI n))]) K dX3_valuesFor_4 (by decide) rfl ?_
  refine q_loop (α := Nat × FS) (fun n9 x9 => x9.1 + n9 = 10) 6 (fun x9 => [(7, .int (nI x9.1)), (6, .int (f_vset (a_F X) 3 w g s n x9.1)), (0, .ref ((A 0) 0)), (1, .int (nI w)), (2, .int 3), (3, .int (nI g)), (4, .int s), (5, .int (nI n))]) (fun x9 => w_G (k_Z M) A (a_kp X) (a_fd X) ++ (w_F (k_Z M) (A 1) (a_F X) ++ (w_F (k_Z M) (A 2) x9.2 ++ (w_F (k_Z M) (A 3) (a_K X) ++ (w_T (k_Z M) (A 4) (t_of (a_tp X) J) ++ (w_SS (k_Z M) A (a_S X))))))) (fun n_1 x9 hI_2 ih_3 => ?_) 10 (0, T) rfl
  obtain ⟨v, T1⟩ := x9
  dsimp only at hI_2 ih_3 ⊢
  refine q_iload K 0 dX3_valuesFor_6 rfl ?_
  refine q_most K fl_X3_95 dX3_valuesFor_8 ?_
  refine q_iload_n K 4 dX3_valuesFor_11 rfl ?_
  refine q_mostld (v := 9) K (vp_in_nI (n := 3) (N := 5) (by omega) (by omega)) rfl dX3_valuesFor_12 ?_
  refine q_icmp_gt 81 K dX3_valuesFor_13 (by decide) (fun c_4 => ?_) (fun c_4 => ?_)
  · have c_4n : 9 < v := (nI_ltI (a := 9) (b := v) (by omega) (by omega)).mp c_4
    refine q_iload K 1 dX3_valuesFor_81 rfl ?_
    exact Rt _ _ (f_vset (a_F X) 3 w g s n v) (w_G (k_Z M) A (a_kp X) (a_fd X) ++ (w_F (k_Z M) (A 1) (a_F X) ++ (w_F (k_Z M) (A 2) T1 ++ (w_F (k_Z M) (A 3) (a_K X) ++ (w_T (k_Z M) (A 4) (t_of (a_tp X) J) ++ (w_SS (k_Z M) A (a_S X))))))) dX3_valuesFor_83 rfl (⟨T1, by rw [show v = 10 by omega], rfl⟩)
  · have c_4n : ¬ (9 < v) := fun h9 => c_4 ((nI_ltI (a := 9) (b := v) (by omega) (by omega)).mpr h9)
    refine q_aload_n K 2 dX3_valuesFor_16 rfl ?_
    refine q_get (.ref ((A 2) 0)) K ws_X3 0 rfl rfl 1 (by decide) fl_X3_16 rfl dX3_valuesFor_17 ?_
    refine q_aload_n K 2 dX3_valuesFor_20 rfl ?_
    refine q_get (.ref ((A 1) 0)) K ws_X3 0 rfl rfl 0 (by decide) fl_X3_12 rfl dX3_valuesFor_21 ?_
    refine q_cvV (q0 := 10) (As := [.ref ((A 1) 0)]) (rest := []) K kv_X0_become (c_X0_becomeR (k_l M) (k_Z M) (A 2) (A 1) T1 (a_F X)) (w_G (k_Z M) A (a_kp X) (a_fd X)) (w_F (k_Z M) (A 3) (a_K X) ++ (w_T (k_Z M) (A 4) (t_of (a_tp X) J) ++ (w_SS (k_Z M) A (a_S X)))) rfl rfl rfl ml_X3_132 rfl rfl (Nat.le_of_ble_eq_true rfl) ⟨Nat.le_of_ble_eq_true rfl, Nat.le_of_ble_eq_true rfl⟩ dX3_valuesFor_24 (fun w2 h_5 => ?_)
    obtain rfl := h_5
    refine q_ws (ws' := w_G (k_Z M) A (a_kp X) (a_fd X) ++ (w_F (k_Z M) (A 1) (a_F X) ++ (w_F (k_Z M) (A 2) (a_F X) ++ (w_F (k_Z M) (A 3) (a_K X) ++ (w_T (k_Z M) (A 4) (t_of (a_tp X) J) ++ (w_SS (k_Z M) A (a_S X))))))) rfl ?_
    refine q_aload_n K 2 dX3_valuesFor_27 rfl ?_
    refine q_get (.ref ((A 2) 0)) K ws_X3 0 rfl rfl 1 (by decide) fl_X3_16 rfl dX3_valuesFor_28 ?_
    refine q_get (.ref ((A 2) 3)) K ws_X0 13 rfl rfl 2 (by decide) fl_X3_91 rfl dX3_valuesFor_31 ?_
    refine q_iload_n K 4 dX3_valuesFor_34 rfl ?_
    refine q_aldg (y := (A 2) 8) K 16 rfl (vp_in_nI (n := 3) (N := 5) (by omega) (by omega)) rfl dX3_valuesFor_35 ?_
    refine q_iload_n K 3 dX3_valuesFor_36 rfl ?_
    refine q_iload K 0 dX3_valuesFor_37 rfl ?_
    refine q_iast (ws' := w_G (k_Z M) A (a_kp X) (a_fd X) ++ (w_F (k_Z M) (A 1) (a_F X) ++ (w_F (k_Z M) (A 2) (f_bs (a_F X), f_gs (a_F X), f_kd (a_F X), f_fd (a_F X), f_wy (a_F X), upd (f_md (a_F X)) w (nI v), f_ps (a_F X), f_hd (a_F X), f_wk (a_F X), f_wd (a_F X), f_hr (a_F X), f_zz (a_F X)) ++ (w_F (k_Z M) (A 3) (a_K X) ++ (w_T (k_Z M) (A 4) (t_of (a_tp X) J) ++ (w_SS (k_Z M) A (a_S X))))))) K 21 rfl (vp_in_nI (n := w) (N := 8) (by omega) (by omega)) (by rw [nI_clamp (n := w) (by omega)] <;> rfl) dX3_valuesFor_39 ?_
    refine q_ws (ws' := w_G (k_Z M) A (a_kp X) (a_fd X) ++ (w_F (k_Z M) (A 1) (a_F X) ++ (w_F (k_Z M) (A 2) (f_setrow (a_F X) 3 (upd (f_row (a_F X) 3) w (nI v))) ++ (w_F (k_Z M) (A 3) (a_K X) ++ (w_T (k_Z M) (A 4) (t_of (a_tp X) J) ++ (w_SS (k_Z M) A (a_S X))))))) rfl ?_
    refine q_aload_n K 2 dX3_valuesFor_40 rfl ?_
    refine q_get (.ref ((A 2) 0)) K ws_X3 0 rfl rfl 1 (by decide) fl_X3_16 rfl dX3_valuesFor_41 ?_
    refine q_iload K 7 dX3_valuesFor_44 rfl ?_
    refine q_sipush 255 K dX3_valuesFor_46 rfl ?_
    refine q_cvV (q0 := 0) (As := [.int (nI n), .int 255]) (rest := []) K kv_X0_passHours (c_X0_passHours (k_l M) (k_Z M) (A 2) (f_setrow (a_F X) 3 (upd (f_row (a_F X) 3) w (nI v))) m hm hm2 n (by omega) 255) (w_G (k_Z M) A (a_kp X) (a_fd X) ++ (w_F (k_Z M) (A 1) (a_F X))) (w_F (k_Z M) (A 3) (a_K X) ++ (w_T (k_Z M) (A 4) (t_of (a_tp X) J) ++ (w_SS (k_Z M) A (a_S X)))) rfl rfl rfl ml_X3_108 rfl rfl (Nat.le_of_ble_eq_true rfl) ⟨Nat.le_of_ble_eq_true rfl, Nat.le_of_ble_eq_true rfl⟩ dX3_valuesFor_49 (fun w2 h_6 => ?_)
    obtain rfl := h_6
    refine q_ws (ws' := w_G (k_Z M) A (a_kp X) (a_fd X) ++ (w_F (k_Z M) (A 1) (a_F X) ++ (w_F (k_Z M) (A 2) (f_hoursC (f_gm 255) (f_setrow (a_F X) 3 (upd (f_row (a_F X) 3) w (nI v))) n) ++ (w_F (k_Z M) (A 3) (a_K X) ++ (w_T (k_Z M) (A 4) (t_of (a_tp X) J) ++ (w_SS (k_Z M) A (a_S X))))))) rfl ?_
    refine q_aload_n K 2 dX3_valuesFor_52 rfl ?_
    refine q_get (.ref ((A 2) 0)) K ws_X3 0 rfl rfl 1 (by decide) fl_X3_16 rfl dX3_valuesFor_53 ?_
    refine q_get (.ref ((A 2) 2)) K ws_X0 13 rfl rfl 1 (by decide) fl_X3_68 rfl dX3_valuesFor_56 ?_
    refine q_iload_n K 5 dX3_valuesFor_59 rfl ?_
    refine q_iald K 15 rfl (vp_in_nI (n := g) (N := 8) (by omega) (by omega)) dX3_valuesFor_60 ?_
    refine q_eqi ((f_gs (f_hoursC (f_gm 255) (f_setrow (a_F X) 3 (upd (f_row (a_F X) 3) w (nI v))) n)) g) (by rw [nI_clamp (n := g) (by omega)]) ?_
    refine q_iload K 6 dX3_valuesFor_61 rfl ?_
    refine q_icmp_ne 75 K dX3_valuesFor_63 (by decide) (fun c_8 => ?_) (fun c_8 => ?_)
    · refine q_iinc (nI (v + 1)) (lv' := [(7, .int (nI (v + 1))), (6, .int (f_vset (a_F X) 3 w g s n v)), (0, .ref ((A 0) 0)), (1, .int (nI w)), (2, .int 3), (3, .int (nI g)), (4, .int s), (5, .int (nI n))]) K 0 dX3_valuesFor_75 rfl (kn_inc v) (by decide) rfl ?_
      refine q_goto 6 K dX3_valuesFor_78 (by decide) ?_
      rw [show f_vset (a_F X) 3 w g s n v = f_vset (a_F X) 3 w g s n (v + 1) by simp only [f_vset, if_neg c_8]]
      exact ih_3 (n_1 - 1) (v + 1, f_hoursC (f_gm 255) (f_setrow (a_F X) 3 (upd (f_row (a_F X) 3) w (nI v))) n) (by omega) (by show v + 1 + (n_1 - 1) = 10; omega)
    · refine q_iload K 1 dX3_valuesFor_66 rfl ?_
      refine q_iconst 1 K dX3_valuesFor_68 rfl ?_
      refine q_iload K 0 dX3_valuesFor_69 rfl ?_
      refine q_ishl K dX3_valuesFor_71 ?_
      refine q_ior K dX3_valuesFor_72 ?_
      refine q_istore (lv' := [(6, .int ((f_vset (a_F X) 3 w g s n v) ||| (1 <<< ((nI v) &&& 31)))), (7, .int (nI v)), (0, .ref ((A 0) 0)), (1, .int (nI w)), (2, .int 3), (3, .int (nI g)), (4, .int s), (5, .int (nI n))]) K dX3_valuesFor_73 (by decide) rfl ?_
      refine q_iinc (nI (v + 1)) (lv' := [(7, .int (nI (v + 1))), (6, .int ((f_vset (a_F X) 3 w g s n v) ||| (1 <<< ((nI v) &&& 31)))), (0, .ref ((A 0) 0)), (1, .int (nI w)), (2, .int 3), (3, .int (nI g)), (4, .int s), (5, .int (nI n))]) K 1 dX3_valuesFor_75 rfl (kn_inc v) (by decide) rfl ?_
      refine q_goto 6 K dX3_valuesFor_78 (by decide) ?_
      rw [show (f_vset (a_F X) 3 w g s n v) ||| (1 <<< ((nI v) &&& 31)) = f_vset (a_F X) 3 w g s n (v + 1) by simp only [f_vset, if_pos c_8]]
      exact ih_3 (n_1 - 1) (v + 1, f_hoursC (f_gm 255) (f_setrow (a_F X) 3 (upd (f_row (a_F X) 3) w (nI v))) n) (by omega) (by show v + 1 + (n_1 - 1) = 10; omega)
theorem kv_X3_valuesFor : k_iv yX3_valuesFor cX3_valuesFor 8 (some .int) 5 := ⟨⟨im_X3_valuesFor, se_X3_valuesFor⟩, in_X3, co_X3_valuesFor, by decide +kernel⟩
set_option maxHeartbeats 4000000 in
set_option maxRecDepth 100000 in
theorem c_X3_kindsFor (l : Launch) (Z : kz_Z) (A : Nat → Nat → Nat) (X : AS) (T : FS) (J : TJ) (m : Nat) (hm : m ≤ 8) (hm2 : f_wk (a_F X) = nI m) (w g s n : Int32) : KI l Z yX3_kindsFor cX3_kindsFor 5 .int 6 137 [.ref ((A 0) 0), .int w, .int g, .int s, .int n] (w_G Z A (a_kp X) (a_fd X) ++ (w_F Z (A 1) (a_F X) ++ (w_F Z (A 2) T ++ (w_F Z (A 3) (a_K X) ++ (w_T Z (A 4) (t_of (a_tp X) J) ++ (w_SS Z A (a_S X))))))) (fun r w2 => ∃ T2 J2, r = (o_kindsFor X w g s n).1 ∧ w2 = w_C Z A (o_kindsFor X w g s n).2 T2 J2) := by
  refine ki_of (by decide) [(0, .ref ((A 0) 0)), (1, .int w), (2, .int g), (3, .int s), (4, .int n)] (Nat.le_of_ble_eq_true rfl) rfl ?_
  intro M e1 e2 K Rt
  subst e1 e2
  refine q_aload_n K 0 dX3_kindsFor_0 rfl ?_
  refine q_iload_n K 1 dX3_kindsFor_1 rfl ?_
  refine q_iload_n K 2 dX3_kindsFor_2 rfl ?_
  refine q_iload_n K 3 dX3_kindsFor_3 rfl ?_
  refine q_iload K 4 dX3_kindsFor_4 rfl ?_
  refine q_wI (q0 := 0) (As := [.int w, .int g, .int s, .int n]) (rest := []) K kv_X3_isWish (c_X3_isWish (k_l M) (k_Z M) A X T J w g s n) rfl rfl ml_X3_136 rfl rfl (Nat.le_of_ble_eq_true rfl) ⟨Nat.le_of_ble_eq_true rfl, Nat.le_of_ble_eq_true rfl⟩ dX3_kindsFor_6 (fun r_2 w2 h_1 => ?_)
  obtain ⟨e_r_2, rfl⟩ := h_1
  refine q_ws (ws' := w_G (k_Z M) A (a_kp X) (a_fd X) ++ (w_F (k_Z M) (A 1) (a_F X) ++ (w_F (k_Z M) (A 2) T ++ (w_F (k_Z M) (A 3) (a_K X) ++ (w_T (k_Z M) (A 4) (t_of (a_tp X) J) ++ (w_SS (k_Z M) A (a_S X))))))) rfl ?_
  refine q_if_ne 18 K dX3_kindsFor_9 (by decide) (fun c_3 => ?_) (fun c_3 => ?_)
  · have c_3 : isWish X w g s n := (kn_ne e_r_2).mp c_3
    obtain ⟨q1, q2, q3, q4⟩ := id c_3
    obtain ⟨u, h_u, e_u⟩ := isW_nat hm hm2 q1
    obtain ⟨v, h_v, e_v⟩ := kn_rng (n := 7) q2 rfl
    obtain ⟨k, h_k, e_k⟩ := kn_rng (n := 40) q4 rfl
    subst e_u e_v e_k
    refine q_aload_n K 0 dX3_kindsFor_18 rfl ?_
    refine q_iload_n K 1 dX3_kindsFor_19 rfl ?_
    refine q_iconst 0 K dX3_kindsFor_20 rfl ?_
    refine q_iload_n K 2 dX3_kindsFor_21 rfl ?_
    refine q_iload_n K 3 dX3_kindsFor_22 rfl ?_
    refine q_iload K 4 dX3_kindsFor_23 rfl ?_
    refine q_wI (q0 := 0) (As := [.int (nI u), .int 0, .int (nI v), .int s, .int (nI k)]) (rest := []) K kv_X3_valuesFor (c_X3_valuesFor0 (k_l M) (k_Z M) A X T J m hm hm2 u (by omega) v (by omega) s k (by omega)) rfl rfl ml_X3_140 rfl rfl (Nat.le_of_ble_eq_true rfl) ⟨Nat.le_of_ble_eq_true rfl, Nat.le_of_ble_eq_true rfl⟩ dX3_kindsFor_25 (fun r_5 w2 h_4 => ?_)
    obtain ⟨T_r_5, e_r_5, rfl⟩ := h_4
    refine q_ws (ws' := w_G (k_Z M) A (a_kp X) (a_fd X) ++ (w_F (k_Z M) (A 1) (a_F X) ++ (w_F (k_Z M) (A 2) T_r_5 ++ (w_F (k_Z M) (A 3) (a_K X) ++ (w_T (k_Z M) (A 4) (t_of (a_tp X) J) ++ (w_SS (k_Z M) A (a_S X))))))) rfl ?_
    refine q_eqi (f_vset (a_F X) 0 u v s k 7) e_r_5 ?_
    exact Rt _ _ (f_vset (a_F X) 0 u v s k 7) (w_G (k_Z M) A (a_kp X) (a_fd X) ++ (w_F (k_Z M) (A 1) (a_F X) ++ (w_F (k_Z M) (A 2) T_r_5 ++ (w_F (k_Z M) (A 3) (a_K X) ++ (w_T (k_Z M) (A 4) (t_of (a_tp X) J) ++ (w_SS (k_Z M) A (a_S X))))))) dX3_kindsFor_28 rfl (⟨T_r_5, J, by simp only [o_kindsFor, a_fin, if_pos c_3, e_r_2, nI_clamp (n := u) (by omega), nI_clamp (n := v) (by omega), nI_clamp (n := k) (by omega)], by simp only [o_kindsFor, a_fin, if_pos c_3, nI_clamp (n := u) (by omega), nI_clamp (n := v) (by omega), nI_clamp (n := k) (by omega)]; rfl⟩)
  · have c_3 : ¬ (isWish X w g s n) := (kn_eq e_r_2).mp c_3
    refine q_aload_n K 0 dX3_kindsFor_12 rfl ?_
    refine q_iconst 0 K dX3_kindsFor_13 rfl ?_
    refine q_wI (q0 := 0) (As := [.int 0]) (rest := []) K kv_X3_finding (c_X3_finding (k_l M) (k_Z M) A X T J 0 (by omega)) rfl rfl ml_X3_52 rfl rfl (Nat.le_of_ble_eq_true rfl) ⟨Nat.le_of_ble_eq_true rfl, Nat.le_of_ble_eq_true rfl⟩ dX3_kindsFor_14 (fun r_7 w2 h_6 => ?_)
    obtain ⟨e_r_7, rfl⟩ := h_6
    refine q_eqi (r_fin 0) e_r_7 ?_
    refine q_ws (ws' := w_G (k_Z M) A (a_kp X) (fd_up (a_fd X) 0) ++ (w_F (k_Z M) (A 1) (a_F X) ++ (w_F (k_Z M) (A 2) T ++ (w_F (k_Z M) (A 3) (a_K X) ++ (w_T (k_Z M) (A 4) (t_of (a_tp X) J) ++ (w_SS (k_Z M) A (a_S X))))))) rfl ?_
    exact Rt _ _ (r_fin 0) (w_G (k_Z M) A (a_kp X) (fd_up (a_fd X) 0) ++ (w_F (k_Z M) (A 1) (a_F X) ++ (w_F (k_Z M) (A 2) T ++ (w_F (k_Z M) (A 3) (a_K X) ++ (w_T (k_Z M) (A 4) (t_of (a_tp X) J) ++ (w_SS (k_Z M) A (a_S X))))))) dX3_kindsFor_17 rfl (⟨T, J, by simp only [o_kindsFor, a_fin, if_neg c_3, e_r_2], by simp only [o_kindsFor, a_fin, if_neg c_3]; rfl⟩)
theorem kv_X3_kindsFor : k_iv yX3_kindsFor cX3_kindsFor 5 (some .int) 4 := ⟨⟨im_X3_kindsFor, se_X3_kindsFor⟩, in_X3, co_X3_kindsFor, by decide +kernel⟩
set_option maxHeartbeats 4000000 in
set_option maxRecDepth 100000 in
theorem c_X3_moods (l : Launch) (Z : kz_Z) (A : Nat → Nat → Nat) (X : AS) (T : FS) (J : TJ) (m : Nat) (hm : m ≤ 8) (hm2 : f_wk (a_F X) = nI m) (w g s n : Int32) : KI l Z yX3_moods cX3_moods 5 .int 6 137 [.ref ((A 0) 0), .int w, .int g, .int s, .int n] (w_G Z A (a_kp X) (a_fd X) ++ (w_F Z (A 1) (a_F X) ++ (w_F Z (A 2) T ++ (w_F Z (A 3) (a_K X) ++ (w_T Z (A 4) (t_of (a_tp X) J) ++ (w_SS Z A (a_S X))))))) (fun r w2 => ∃ T2 J2, r = (o_moods X w g s n).1 ∧ w2 = w_C Z A (o_moods X w g s n).2 T2 J2) := by
  refine ki_of (by decide) [(0, .ref ((A 0) 0)), (1, .int w), (2, .int g), (3, .int s), (4, .int n)] (Nat.le_of_ble_eq_true rfl) rfl ?_
  intro M e1 e2 K Rt
  subst e1 e2
  refine q_aload_n K 0 dX3_moods_0 rfl ?_
  refine q_iload_n K 1 dX3_moods_1 rfl ?_
  refine q_iload_n K 2 dX3_moods_2 rfl ?_
  refine q_iload_n K 3 dX3_moods_3 rfl ?_
  refine q_iload K 4 dX3_moods_4 rfl ?_
  refine q_wI (q0 := 0) (As := [.int w, .int g, .int s, .int n]) (rest := []) K kv_X3_isWish (c_X3_isWish (k_l M) (k_Z M) A X T J w g s n) rfl rfl ml_X3_136 rfl rfl (Nat.le_of_ble_eq_true rfl) ⟨Nat.le_of_ble_eq_true rfl, Nat.le_of_ble_eq_true rfl⟩ dX3_moods_6 (fun r_2 w2 h_1 => ?_)
  obtain ⟨e_r_2, rfl⟩ := h_1
  refine q_ws (ws' := w_G (k_Z M) A (a_kp X) (a_fd X) ++ (w_F (k_Z M) (A 1) (a_F X) ++ (w_F (k_Z M) (A 2) T ++ (w_F (k_Z M) (A 3) (a_K X) ++ (w_T (k_Z M) (A 4) (t_of (a_tp X) J) ++ (w_SS (k_Z M) A (a_S X))))))) rfl ?_
  refine q_if_ne 18 K dX3_moods_9 (by decide) (fun c_3 => ?_) (fun c_3 => ?_)
  · have c_3 : isWish X w g s n := (kn_ne e_r_2).mp c_3
    obtain ⟨q1, q2, q3, q4⟩ := id c_3
    obtain ⟨u, h_u, e_u⟩ := isW_nat hm hm2 q1
    obtain ⟨v, h_v, e_v⟩ := kn_rng (n := 7) q2 rfl
    obtain ⟨k, h_k, e_k⟩ := kn_rng (n := 40) q4 rfl
    subst e_u e_v e_k
    refine q_aload_n K 0 dX3_moods_18 rfl ?_
    refine q_iload_n K 1 dX3_moods_19 rfl ?_
    refine q_iconst 3 K dX3_moods_20 rfl ?_
    refine q_iload_n K 2 dX3_moods_21 rfl ?_
    refine q_iload_n K 3 dX3_moods_22 rfl ?_
    refine q_iload K 4 dX3_moods_23 rfl ?_
    refine q_wI (q0 := 0) (As := [.int (nI u), .int 3, .int (nI v), .int s, .int (nI k)]) (rest := []) K kv_X3_valuesFor (c_X3_valuesFor3 (k_l M) (k_Z M) A X T J m hm hm2 u (by omega) v (by omega) s k (by omega)) rfl rfl ml_X3_140 rfl rfl (Nat.le_of_ble_eq_true rfl) ⟨Nat.le_of_ble_eq_true rfl, Nat.le_of_ble_eq_true rfl⟩ dX3_moods_25 (fun r_5 w2 h_4 => ?_)
    obtain ⟨T_r_5, e_r_5, rfl⟩ := h_4
    refine q_ws (ws' := w_G (k_Z M) A (a_kp X) (a_fd X) ++ (w_F (k_Z M) (A 1) (a_F X) ++ (w_F (k_Z M) (A 2) T_r_5 ++ (w_F (k_Z M) (A 3) (a_K X) ++ (w_T (k_Z M) (A 4) (t_of (a_tp X) J) ++ (w_SS (k_Z M) A (a_S X))))))) rfl ?_
    refine q_eqi (f_vset (a_F X) 3 u v s k 10) e_r_5 ?_
    exact Rt _ _ (f_vset (a_F X) 3 u v s k 10) (w_G (k_Z M) A (a_kp X) (a_fd X) ++ (w_F (k_Z M) (A 1) (a_F X) ++ (w_F (k_Z M) (A 2) T_r_5 ++ (w_F (k_Z M) (A 3) (a_K X) ++ (w_T (k_Z M) (A 4) (t_of (a_tp X) J) ++ (w_SS (k_Z M) A (a_S X))))))) dX3_moods_28 rfl (⟨T_r_5, J, by simp only [o_moods, a_fin, if_pos c_3, e_r_2, nI_clamp (n := u) (by omega), nI_clamp (n := v) (by omega), nI_clamp (n := k) (by omega)], by simp only [o_moods, a_fin, if_pos c_3, nI_clamp (n := u) (by omega), nI_clamp (n := v) (by omega), nI_clamp (n := k) (by omega)]; rfl⟩)
  · have c_3 : ¬ (isWish X w g s n) := (kn_eq e_r_2).mp c_3
    refine q_aload_n K 0 dX3_moods_12 rfl ?_
    refine q_iconst 0 K dX3_moods_13 rfl ?_
    refine q_wI (q0 := 0) (As := [.int 0]) (rest := []) K kv_X3_finding (c_X3_finding (k_l M) (k_Z M) A X T J 0 (by omega)) rfl rfl ml_X3_52 rfl rfl (Nat.le_of_ble_eq_true rfl) ⟨Nat.le_of_ble_eq_true rfl, Nat.le_of_ble_eq_true rfl⟩ dX3_moods_14 (fun r_7 w2 h_6 => ?_)
    obtain ⟨e_r_7, rfl⟩ := h_6
    refine q_eqi (r_fin 0) e_r_7 ?_
    refine q_ws (ws' := w_G (k_Z M) A (a_kp X) (fd_up (a_fd X) 0) ++ (w_F (k_Z M) (A 1) (a_F X) ++ (w_F (k_Z M) (A 2) T ++ (w_F (k_Z M) (A 3) (a_K X) ++ (w_T (k_Z M) (A 4) (t_of (a_tp X) J) ++ (w_SS (k_Z M) A (a_S X))))))) rfl ?_
    exact Rt _ _ (r_fin 0) (w_G (k_Z M) A (a_kp X) (fd_up (a_fd X) 0) ++ (w_F (k_Z M) (A 1) (a_F X) ++ (w_F (k_Z M) (A 2) T ++ (w_F (k_Z M) (A 3) (a_K X) ++ (w_T (k_Z M) (A 4) (t_of (a_tp X) J) ++ (w_SS (k_Z M) A (a_S X))))))) dX3_moods_17 rfl (⟨T, J, by simp only [o_moods, a_fin, if_neg c_3, e_r_2], by simp only [o_moods, a_fin, if_neg c_3]; rfl⟩)
theorem kv_X3_moods : k_iv yX3_moods cX3_moods 5 (some .int) 4 := ⟨⟨im_X3_moods, se_X3_moods⟩, in_X3, co_X3_moods, by decide +kernel⟩
set_option maxHeartbeats 4000000 in
set_option maxRecDepth 100000 in
theorem c_X3_shut (l : Launch) (Z : kz_Z) (A : Nat → Nat → Nat) (X : AS) (T : FS) (J : TJ) (m : Nat) (hm : m ≤ 8) (hm2 : f_wk (a_F X) = nI m) (field n : Int32) : KI l Z yX3_shut cX3_shut 6 .int 5 110 [.ref ((A 0) 0), .int field, .int n] (w_G Z A (a_kp X) (a_fd X) ++ (w_F Z (A 1) (a_F X) ++ (w_F Z (A 2) T ++ (w_F Z (A 3) (a_K X) ++ (w_T Z (A 4) (t_of (a_tp X) J) ++ (w_SS Z A (a_S X))))))) (fun r w2 => ∃ T2 J2, r = (o_shut X field n).1 ∧ w2 = w_C Z A (o_shut X field n).2 T2 J2) := by
  refine ki_of (by decide) [(0, .ref ((A 0) 0)), (1, .int field), (2, .int n)] (Nat.le_of_ble_eq_true rfl) rfl ?_
  intro M e1 e2 K Rt
  subst e1 e2
  refine q_iload_n K 1 dX3_shut_0 rfl ?_
  refine q_cp (rest := []) K ks_X3_isField (c_X3_isField (k_l M) (k_Z M) field) ml_X3_44 rfl rfl (Nat.le_of_ble_eq_true rfl) ⟨Nat.le_of_ble_eq_true rfl, Nat.le_of_ble_eq_true rfl⟩ dX3_shut_1 (fun r_1 e_r_1 => ?_)
  refine q_if_eq 17 K dX3_shut_4 (by decide) (fun c_2 => ?_) (fun c_2 => ?_)
  · have c_2 : ¬ (inR field 0 8) := (kn_eq e_r_1).mp c_2
    refine q_aload_n K 0 dX3_shut_17 rfl ?_
    refine q_iconst 0 K dX3_shut_18 rfl ?_
    refine q_wI (q0 := 0) (As := [.int 0]) (rest := []) K kv_X3_finding (c_X3_finding (k_l M) (k_Z M) A X T J 0 (by omega)) rfl rfl ml_X3_52 rfl rfl (Nat.le_of_ble_eq_true rfl) ⟨Nat.le_of_ble_eq_true rfl, Nat.le_of_ble_eq_true rfl⟩ dX3_shut_19 (fun r_4 w2 h_3 => ?_)
    obtain ⟨e_r_4, rfl⟩ := h_3
    refine q_eqi (r_fin 0) e_r_4 ?_
    refine q_ws (ws' := w_G (k_Z M) A (a_kp X) (fd_up (a_fd X) 0) ++ (w_F (k_Z M) (A 1) (a_F X) ++ (w_F (k_Z M) (A 2) T ++ (w_F (k_Z M) (A 3) (a_K X) ++ (w_T (k_Z M) (A 4) (t_of (a_tp X) J) ++ (w_SS (k_Z M) A (a_S X))))))) rfl ?_
    exact Rt _ _ (r_fin 0) (w_G (k_Z M) A (a_kp X) (fd_up (a_fd X) 0) ++ (w_F (k_Z M) (A 1) (a_F X) ++ (w_F (k_Z M) (A 2) T ++ (w_F (k_Z M) (A 3) (a_K X) ++ (w_T (k_Z M) (A 4) (t_of (a_tp X) J) ++ (w_SS (k_Z M) A (a_S X))))))) dX3_shut_22 rfl (⟨T, J, by simp only [o_shut, a_fin, if_neg c_2, e_r_1], by simp only [o_shut, a_fin, if_neg c_2]; rfl⟩)
  · have c_2 : inR field 0 8 := (kn_ne e_r_1).mp c_2
    obtain ⟨f, h_f, e_f⟩ := kn_rng (n := 8) c_2 rfl
    subst e_f
    refine q_iload_n K 2 dX3_shut_7 rfl ?_
    refine q_iconst 0 K dX3_shut_8 rfl ?_
    refine q_bipush 40 K dX3_shut_9 rfl ?_
    refine q_cp (rest := []) K ks_X3_isIn (c_X3_isIn (k_l M) (k_Z M) n 0 40) ml_X3_48 rfl rfl (Nat.le_of_ble_eq_true rfl) ⟨Nat.le_of_ble_eq_true rfl, Nat.le_of_ble_eq_true rfl⟩ dX3_shut_11 (fun r_5 e_r_5 => ?_)
    refine q_if_ne 23 K dX3_shut_14 (by decide) (fun c_6 => ?_) (fun c_6 => ?_)
    · have c_6 : inR n 0 40 := (kn_ne e_r_5).mp c_6
      obtain ⟨k, h_k, e_k⟩ := kn_rng (n := 40) c_6 rfl
      subst e_k
      refine q_iconst 0 K dX3_shut_23 rfl ?_
      refine q_istore_n (lv' := [(3, .int 0), (0, .ref ((A 0) 0)), (1, .int (nI f)), (2, .int (nI k))]) K dX3_shut_24 (by decide) rfl ?_
      refine q_sipush 10000 K dX3_shut_25 rfl ?_
      refine q_istore (lv' := [(4, .int 10000), (3, .int 0), (0, .ref ((A 0) 0)), (1, .int (nI f)), (2, .int (nI k))]) K dX3_shut_28 (by decide) rfl ?_
      refine q_iconst 0 K dX3_shut_30 rfl ?_
      refine q_istore (lv' := [(5, .int 0), (4, .int 10000), (3, .int 0), (0, .ref ((A 0) 0)), (1, .int (nI f)), (2, .int (nI k))]) K dX3_shut_31 (by decide) rfl ?_
      refine q_loop (α := Nat × FS) (fun n9 x9 => x9.1 + n9 = 8) 33 (fun x9 => [(5, .int (nI x9.1)), (4, .int ((f_shut (a_F X) f k x9.1).2)), (3, .int (nI ((f_shut (a_F X) f k x9.1).1))), (0, .ref ((A 0) 0)), (1, .int (nI f)), (2, .int (nI k))]) (fun x9 => w_G (k_Z M) A (a_kp X) (a_fd X) ++ (w_F (k_Z M) (A 1) (a_F X) ++ (w_F (k_Z M) (A 2) x9.2 ++ (w_F (k_Z M) (A 3) (a_K X) ++ (w_T (k_Z M) (A 4) (t_of (a_tp X) J) ++ (w_SS (k_Z M) A (a_S X))))))) (fun n_7 x9 hI_8 ih_9 => ?_) 8 (0, T) rfl
      obtain ⟨g, T1⟩ := x9
      dsimp only at hI_8 ih_9 ⊢
      refine q_iload K 0 dX3_shut_33 rfl ?_
      refine q_bipush 8 K dX3_shut_35 rfl ?_
      refine q_icmp_ge 107 K dX3_shut_37 (by decide) (fun c_10 => ?_) (fun c_10 => ?_)
      · have c_10n : 8 ≤ g := (nI_leI (a := 8) (b := g) (by omega) (by omega)).mp c_10
        refine q_iload_n K 2 dX3_shut_107 rfl ?_
        exact Rt _ _ (nI ((f_shut (a_F X) f k g).1)) (w_G (k_Z M) A (a_kp X) (a_fd X) ++ (w_F (k_Z M) (A 1) (a_F X) ++ (w_F (k_Z M) (A 2) T1 ++ (w_F (k_Z M) (A 3) (a_K X) ++ (w_T (k_Z M) (A 4) (t_of (a_tp X) J) ++ (w_SS (k_Z M) A (a_S X))))))) dX3_shut_108 rfl (⟨T1, J, by simp only [o_shut, a_fin, if_pos c_2, if_pos c_6, if_pos c_10, nI_clamp (n := f) (by omega), nI_clamp (n := k) (by omega), show g = 8 by omega], by simp only [o_shut, a_fin, if_pos c_2, if_pos c_6, if_pos c_10, nI_clamp (n := f) (by omega), nI_clamp (n := k) (by omega), show g = 8 by omega]; rfl⟩)
      · have c_10n : ¬ (8 ≤ g) := fun h9 => c_10 ((nI_leI (a := 8) (b := g) (by omega) (by omega)).mpr h9)
        refine q_aload_n K 3 dX3_shut_40 rfl ?_
        refine q_get (.ref ((A 2) 0)) K ws_X3 0 rfl rfl 1 (by decide) fl_X3_16 rfl dX3_shut_41 ?_
        refine q_aload_n K 3 dX3_shut_44 rfl ?_
        refine q_get (.ref ((A 1) 0)) K ws_X3 0 rfl rfl 0 (by decide) fl_X3_12 rfl dX3_shut_45 ?_
        refine q_cvV (q0 := 10) (As := [.ref ((A 1) 0)]) (rest := []) K kv_X0_become (c_X0_becomeR (k_l M) (k_Z M) (A 2) (A 1) T1 (a_F X)) (w_G (k_Z M) A (a_kp X) (a_fd X)) (w_F (k_Z M) (A 3) (a_K X) ++ (w_T (k_Z M) (A 4) (t_of (a_tp X) J) ++ (w_SS (k_Z M) A (a_S X)))) rfl rfl rfl ml_X3_132 rfl rfl (Nat.le_of_ble_eq_true rfl) ⟨Nat.le_of_ble_eq_true rfl, Nat.le_of_ble_eq_true rfl⟩ dX3_shut_48 (fun w2 h_11 => ?_)
        obtain rfl := h_11
        refine q_ws (ws' := w_G (k_Z M) A (a_kp X) (a_fd X) ++ (w_F (k_Z M) (A 1) (a_F X) ++ (w_F (k_Z M) (A 2) (a_F X) ++ (w_F (k_Z M) (A 3) (a_K X) ++ (w_T (k_Z M) (A 4) (t_of (a_tp X) J) ++ (w_SS (k_Z M) A (a_S X))))))) rfl ?_
        refine q_aload_n K 3 dX3_shut_51 rfl ?_
        refine q_get (.ref ((A 2) 0)) K ws_X3 0 rfl rfl 1 (by decide) fl_X3_16 rfl dX3_shut_52 ?_
        refine q_get (.ref ((A 2) 2)) K ws_X0 13 rfl rfl 1 (by decide) fl_X3_68 rfl dX3_shut_55 ?_
        refine q_iload K 0 dX3_shut_58 rfl ?_
        refine q_iconst 0 K dX3_shut_60 rfl ?_
        refine q_iast (ws' := w_G (k_Z M) A (a_kp X) (a_fd X) ++ (w_F (k_Z M) (A 1) (a_F X) ++ (w_F (k_Z M) (A 2) (f_bs (a_F X), upd (f_gs (a_F X)) g 0, f_kd (a_F X), f_fd (a_F X), f_wy (a_F X), f_md (a_F X), f_ps (a_F X), f_hd (a_F X), f_wk (a_F X), f_wd (a_F X), f_hr (a_F X), f_zz (a_F X)) ++ (w_F (k_Z M) (A 3) (a_K X) ++ (w_T (k_Z M) (A 4) (t_of (a_tp X) J) ++ (w_SS (k_Z M) A (a_S X))))))) K 15 rfl (vp_in_nI (n := g) (N := 8) (by omega) (by omega)) (by rw [nI_clamp (n := g) (by omega)] <;> rfl) dX3_shut_61 ?_
        refine q_ws (ws' := w_G (k_Z M) A (a_kp X) (a_fd X) ++ (w_F (k_Z M) (A 1) (a_F X) ++ (w_F (k_Z M) (A 2) (f_setgs (a_F X) (upd (f_gs (a_F X)) g 0)) ++ (w_F (k_Z M) (A 3) (a_K X) ++ (w_T (k_Z M) (A 4) (t_of (a_tp X) J) ++ (w_SS (k_Z M) A (a_S X))))))) rfl ?_
        refine q_aload_n K 3 dX3_shut_62 rfl ?_
        refine q_get (.ref ((A 2) 0)) K ws_X3 0 rfl rfl 1 (by decide) fl_X3_16 rfl dX3_shut_63 ?_
        refine q_iload_n K 5 dX3_shut_66 rfl ?_
        refine q_sipush 255 K dX3_shut_67 rfl ?_
        refine q_cvV (q0 := 0) (As := [.int (nI k), .int 255]) (rest := []) K kv_X0_passHours (c_X0_passHours (k_l M) (k_Z M) (A 2) (f_setgs (a_F X) (upd (f_gs (a_F X)) g 0)) m hm hm2 k (by omega) 255) (w_G (k_Z M) A (a_kp X) (a_fd X) ++ (w_F (k_Z M) (A 1) (a_F X))) (w_F (k_Z M) (A 3) (a_K X) ++ (w_T (k_Z M) (A 4) (t_of (a_tp X) J) ++ (w_SS (k_Z M) A (a_S X)))) rfl rfl rfl ml_X3_108 rfl rfl (Nat.le_of_ble_eq_true rfl) ⟨Nat.le_of_ble_eq_true rfl, Nat.le_of_ble_eq_true rfl⟩ dX3_shut_70 (fun w2 h_12 => ?_)
        obtain rfl := h_12
        refine q_ws (ws' := w_G (k_Z M) A (a_kp X) (a_fd X) ++ (w_F (k_Z M) (A 1) (a_F X) ++ (w_F (k_Z M) (A 2) (f_hoursC (f_gm 255) (f_setgs (a_F X) (upd (f_gs (a_F X)) g 0)) k) ++ (w_F (k_Z M) (A 3) (a_K X) ++ (w_T (k_Z M) (A 4) (t_of (a_tp X) J) ++ (w_SS (k_Z M) A (a_S X))))))) rfl ?_
        refine q_aload_n K 3 dX3_shut_73 rfl ?_
        refine q_get (.ref ((A 2) 0)) K ws_X3 0 rfl rfl 1 (by decide) fl_X3_16 rfl dX3_shut_74 ?_
        refine q_get (.ref ((A 2) 1)) K ws_X0 13 rfl rfl 0 (by decide) fl_X3_56 rfl dX3_shut_77 ?_
        refine q_iload_n K 4 dX3_shut_80 rfl ?_
        refine q_iald K 14 rfl (vp_in_nI (n := f) (N := 9) (by omega) (by omega)) dX3_shut_81 ?_
        refine q_eqi ((f_bs (f_hoursC (f_gm 255) (f_setgs (a_F X) (upd (f_gs (a_F X)) g 0)) k)) f) (by rw [nI_clamp (n := f) (by omega)]) ?_
        refine q_iload K 1 dX3_shut_82 rfl ?_
        refine q_icmp_ge 101 K dX3_shut_84 (by decide) (fun c_14 => ?_) (fun c_14 => ?_)
        · refine q_iinc (nI (g + 1)) (lv' := [(5, .int (nI (g + 1))), (4, .int ((f_shut (a_F X) f k g).2)), (3, .int (nI ((f_shut (a_F X) f k g).1))), (0, .ref ((A 0) 0)), (1, .int (nI f)), (2, .int (nI k))]) K 0 dX3_shut_101 rfl (kn_inc g) (by decide) rfl ?_
          refine q_goto 33 K dX3_shut_104 (by decide) ?_
          rw [show nI ((f_shut (a_F X) f k g).1) = nI (f_shut (a_F X) f k (g + 1)).1 by simp only [f_shut, if_pos c_14], show (f_shut (a_F X) f k g).2 = (f_shut (a_F X) f k (g + 1)).2 by simp only [f_shut, if_pos c_14]]
          exact ih_9 (n_7 - 1) (g + 1, f_hoursC (f_gm 255) (f_setgs (a_F X) (upd (f_gs (a_F X)) g 0)) k) (by omega) (by show g + 1 + (n_7 - 1) = 8; omega)
        · refine q_aload_n K 3 dX3_shut_87 rfl ?_
          refine q_get (.ref ((A 2) 0)) K ws_X3 0 rfl rfl 1 (by decide) fl_X3_16 rfl dX3_shut_88 ?_
          refine q_get (.ref ((A 2) 1)) K ws_X0 13 rfl rfl 0 (by decide) fl_X3_56 rfl dX3_shut_91 ?_
          refine q_iload_n K 4 dX3_shut_94 rfl ?_
          refine q_iald K 14 rfl (vp_in_nI (n := f) (N := 9) (by omega) (by omega)) dX3_shut_95 ?_
          refine q_eqi ((f_bs (f_hoursC (f_gm 255) (f_setgs (a_F X) (upd (f_gs (a_F X)) g 0)) k)) f) (by rw [nI_clamp (n := f) (by omega)]) ?_
          refine q_istore (lv' := [(4, .int ((f_bs (f_hoursC (f_gm 255) (f_setgs (a_F X) (upd (f_gs (a_F X)) g 0)) k)) f)), (5, .int (nI g)), (3, .int (nI ((f_shut (a_F X) f k g).1))), (0, .ref ((A 0) 0)), (1, .int (nI f)), (2, .int (nI k))]) K dX3_shut_96 (by decide) rfl ?_
          refine q_iload K 1 dX3_shut_98 rfl ?_
          refine q_istore_n (lv' := [(3, .int (nI g)), (4, .int ((f_bs (f_hoursC (f_gm 255) (f_setgs (a_F X) (upd (f_gs (a_F X)) g 0)) k)) f)), (5, .int (nI g)), (0, .ref ((A 0) 0)), (1, .int (nI f)), (2, .int (nI k))]) K dX3_shut_100 (by decide) rfl ?_
          refine q_iinc (nI (g + 1)) (lv' := [(5, .int (nI (g + 1))), (3, .int (nI g)), (4, .int ((f_bs (f_hoursC (f_gm 255) (f_setgs (a_F X) (upd (f_gs (a_F X)) g 0)) k)) f)), (0, .ref ((A 0) 0)), (1, .int (nI f)), (2, .int (nI k))]) K 2 dX3_shut_101 rfl (kn_inc g) (by decide) rfl ?_
          refine q_goto 33 K dX3_shut_104 (by decide) ?_
          refine q_lv [0, 2, 1, 3, 4, 5] rfl ?_
          rw [show nI g = nI (f_shut (a_F X) f k (g + 1)).1 by simp only [f_shut, if_neg c_14], show (f_bs (f_hoursC (f_gm 255) (f_setgs (a_F X) (upd (f_gs (a_F X)) g 0)) k)) f = (f_shut (a_F X) f k (g + 1)).2 by simp only [f_shut, if_neg c_14]]
          exact ih_9 (n_7 - 1) (g + 1, f_hoursC (f_gm 255) (f_setgs (a_F X) (upd (f_gs (a_F X)) g 0)) k) (by omega) (by show g + 1 + (n_7 - 1) = 8; omega)
    · have c_6 : ¬ (inR n 0 40) := (kn_eq e_r_5).mp c_6
      refine q_aload_n K 0 dX3_shut_17 rfl ?_
      refine q_iconst 0 K dX3_shut_18 rfl ?_
      refine q_wI (q0 := 0) (As := [.int 0]) (rest := []) K kv_X3_finding (c_X3_finding (k_l M) (k_Z M) A X T J 0 (by omega)) rfl rfl ml_X3_52 rfl rfl (Nat.le_of_ble_eq_true rfl) ⟨Nat.le_of_ble_eq_true rfl, Nat.le_of_ble_eq_true rfl⟩ dX3_shut_19 (fun r_16 w2 h_15 => ?_)
      obtain ⟨e_r_16, rfl⟩ := h_15
      refine q_eqi (r_fin 0) e_r_16 ?_
      refine q_ws (ws' := w_G (k_Z M) A (a_kp X) (fd_up (a_fd X) 0) ++ (w_F (k_Z M) (A 1) (a_F X) ++ (w_F (k_Z M) (A 2) T ++ (w_F (k_Z M) (A 3) (a_K X) ++ (w_T (k_Z M) (A 4) (t_of (a_tp X) J) ++ (w_SS (k_Z M) A (a_S X))))))) rfl ?_
      exact Rt _ _ (r_fin 0) (w_G (k_Z M) A (a_kp X) (fd_up (a_fd X) 0) ++ (w_F (k_Z M) (A 1) (a_F X) ++ (w_F (k_Z M) (A 2) T ++ (w_F (k_Z M) (A 3) (a_K X) ++ (w_T (k_Z M) (A 4) (t_of (a_tp X) J) ++ (w_SS (k_Z M) A (a_S X))))))) dX3_shut_22 rfl (⟨T, J, by simp only [o_shut, a_fin, if_pos c_2, if_neg c_6, e_r_1, e_r_5, nI_clamp (n := f) (by omega)], by simp only [o_shut, a_fin, if_pos c_2, if_neg c_6, nI_clamp (n := f) (by omega)]; rfl⟩)
theorem kv_X3_shut : k_iv yX3_shut cX3_shut 6 (some .int) 2 := ⟨⟨im_X3_shut, se_X3_shut⟩, in_X3, co_X3_shut, by decide +kernel⟩
