set_option maxHeartbeats 4000000 in
set_option maxRecDepth 100000 in
theorem c_X4_there (l : Launch) (Z : kz_Z) (B : Nat → Nat) (X : AS) (D : DJ) (m : Nat) (hm : m ≤ 8) (hm2 : f_wk (a_F X) = nI m) (f : Int32) : KI l Z yX4_there cX4_there 4 .int 1 22 [.ref (B 0), .int f] (w_M Z B X D) (fun r w2 => r = f_wset (a_F X) f m ∧ w2 = w_M Z B X D) := by
  refine ki_of (by decide) [(0, .ref (B 0)), (1, .int f)] (Nat.le_of_ble_eq_true rfl) rfl ?_
  intro M e1 e2 K Rt
  subst e1 e2
  refine q_iconst 0 K dX4_there_0 rfl ?_
  refine q_istore_n (lv' := [(2, .int 0), (0, .ref (B 0)), (1, .int f)]) K dX4_there_1 (by decide) rfl ?_
  refine q_iconst 0 K dX4_there_2 rfl ?_
  refine q_istore_n (lv' := [(3, .int 0), (2, .int 0), (0, .ref (B 0)), (1, .int f)]) K dX4_there_3 (by decide) rfl ?_
  refine q_loop (α := Nat) (fun n9 w => w + n9 = m) 4 (fun w => [(3, .int (nI w)), (2, .int (f_wset (a_F X) f w)), (0, .ref (B 0)), (1, .int f)]) (fun w => w_M (k_Z M) B X D) (fun n_1 w hI_2 ih_3 => ?_) m 0 (by omega)
  refine q_iload_n K 0 dX4_there_4 rfl ?_
  refine q_aload_n K 2 dX4_there_5 rfl ?_
  refine q_get (.ref (B 1)) K ws_X4 0 rfl rfl 0 (by decide) fl_X4_7 rfl dX4_there_6 ?_
  refine q_iconst 0 K dX4_there_9 rfl ?_
  refine q_iald K 1 rfl (vp_in_nI (n := 0) (N := 71) (by omega) (by omega)) dX4_there_10 ?_
  refine q_eqi (f_wk (a_F X)) rfl ?_
  refine q_eqi (nI m) hm2 ?_
  refine q_icmp_ge 40 K dX4_there_11 (by decide) (fun c_4 => ?_) (fun c_4 => ?_)
  · have c_4n : m ≤ w := (nI_leI (a := m) (b := w) (by omega) (by omega)).mp c_4
    refine q_iload_n K 1 dX4_there_40 rfl ?_
    exact Rt _ _ (f_wset (a_F X) f w) (w_M (k_Z M) B X D) dX4_there_41 rfl (⟨by rw [show w = m by omega], rfl⟩)
  · have c_4n : ¬ (m ≤ w) := fun h9 => c_4 ((nI_leI (a := m) (b := w) (by omega) (by omega)).mpr h9)
    refine q_iload_n K 1 dX4_there_14 rfl ?_
    refine q_aload_n K 2 dX4_there_15 rfl ?_
    refine q_iload_n K 0 dX4_there_16 rfl ?_
    refine q_iconst 1 K dX4_there_17 rfl ?_
    refine q_wI (q0 := 0) (As := [.int (nI w), .int 1]) (rest := [.int (f_wset (a_F X) f w)]) K kv_X4_its (c_X4_its (k_l M) (k_Z M) B X D w 1 (by omega) (by omega)) rfl rfl ml_X4_62 rfl rfl (Nat.le_of_ble_eq_true rfl) ⟨Nat.le_of_ble_eq_true rfl, Nat.le_of_ble_eq_true rfl⟩ dX4_there_18 (fun r_6 w2 h_5 => ?_)
    obtain ⟨e_r_6, rfl⟩ := h_5
    refine q_eqi (f_fd (a_F X) w) e_r_6 ?_
    refine q_iload_n K 3 dX4_there_21 rfl ?_
    refine q_icmp_ne 31 K dX4_there_22 (by decide) (fun c_7 => ?_) (fun c_7 => ?_)
    · refine q_iconst 0 K dX4_there_31 rfl ?_
      refine q_ior K dX4_there_32 ?_
      refine q_istore_n (lv' := [(2, .int ((f_wset (a_F X) f w) ||| 0)), (3, .int (nI w)), (0, .ref (B 0)), (1, .int f)]) K dX4_there_33 (by decide) rfl ?_
      refine q_iinc (nI (w + 1)) (lv' := [(3, .int (nI (w + 1))), (2, .int ((f_wset (a_F X) f w) ||| 0)), (0, .ref (B 0)), (1, .int f)]) K 1 dX4_there_34 rfl (kn_inc w) (by decide) rfl ?_
      refine q_goto 4 K dX4_there_37 (by decide) ?_
      rw [show (f_wset (a_F X) f w) ||| 0 = f_wset (a_F X) f (w + 1) by simp only [f_wset, if_neg c_7, Int32.or_zero]]
      exact ih_3 (n_1 - 1) (w + 1) (by omega) (by omega)
    · refine q_iconst 1 K dX4_there_25 rfl ?_
      refine q_iload_n K 0 dX4_there_26 rfl ?_
      refine q_ishl K dX4_there_27 ?_
      refine q_goto 32 K dX4_there_28 (by decide) ?_
      refine q_ior K dX4_there_32 ?_
      refine q_istore_n (lv' := [(2, .int ((f_wset (a_F X) f w) ||| (1 <<< ((nI w) &&& 31)))), (3, .int (nI w)), (0, .ref (B 0)), (1, .int f)]) K dX4_there_33 (by decide) rfl ?_
      refine q_iinc (nI (w + 1)) (lv' := [(3, .int (nI (w + 1))), (2, .int ((f_wset (a_F X) f w) ||| (1 <<< ((nI w) &&& 31)))), (0, .ref (B 0)), (1, .int f)]) K 1 dX4_there_34 rfl (kn_inc w) (by decide) rfl ?_
      refine q_goto 4 K dX4_there_37 (by decide) ?_
      rw [show (f_wset (a_F X) f w) ||| (1 <<< ((nI w) &&& 31)) = f_wset (a_F X) f (w + 1) by simp only [f_wset, if_pos c_7, Int32.or_zero]]
      exact ih_3 (n_1 - 1) (w + 1) (by omega) (by omega)
theorem kv_X4_there : k_iv yX4_there cX4_there 4 (some .int) 1 := ⟨⟨im_X4_there, se_X4_there⟩, in_X4, co_X4_there, by decide +kernel⟩
set_option maxHeartbeats 4000000 in
set_option maxRecDepth 100000 in
theorem c_X4_beasts (l : Launch) (Z : kz_Z) (B : Nat → Nat) (X : AS) (D : DJ) (m : Nat) (hm : m ≤ 8) (hm2 : f_wk (a_F X) = nI m) (hok : f_ok (a_F X)) (field v : Int32) : KI l Z yX4_beasts cX4_beasts 3 .int 1 25 [.ref (B 0), .int field, .int v] (w_M Z B X D) (fun r w2 => ∃ D2, r = (o_beasts X field v).1 ∧ w2 = w_M Z B (o_beasts X field v).2 D2) := by
  refine ki_of (by decide) [(0, .ref (B 0)), (1, .int field), (2, .int v)] (Nat.le_of_ble_eq_true rfl) rfl ?_
  intro M e1 e2 K Rt
  subst e1 e2
  refine q_iload_n K 1 dX4_beasts_0 rfl ?_
  refine q_cp (rest := []) K ks_X4_isField (c_X4_isField (k_l M) (k_Z M) field) ml_X4_52 rfl rfl (Nat.le_of_ble_eq_true rfl) ⟨Nat.le_of_ble_eq_true rfl, Nat.le_of_ble_eq_true rfl⟩ dX4_beasts_1 (fun r_1 e_r_1 => ?_)
  refine q_if_eq 30 K dX4_beasts_4 (by decide) (fun c_2 => ?_) (fun c_2 => ?_)
  · have c_2 : ¬ (inR field 0 8) := (kn_eq e_r_1).mp c_2
    refine q_aload_n K 0 dX4_beasts_30 rfl ?_
    refine q_ldc K dX4_beasts_31 ct_X4_40 ?_
    refine q_eqi (r_fin 0) (by decide) ?_
    refine q_wI (q0 := 0) (As := [.int (r_fin 0)]) (rest := []) K kv_X4_finds (c_X4_finds (k_l M) (k_Z M) B X D 0 (by omega)) rfl rfl ml_X4_48 rfl rfl (Nat.le_of_ble_eq_true rfl) ⟨Nat.le_of_ble_eq_true rfl, Nat.le_of_ble_eq_true rfl⟩ dX4_beasts_33 (fun r_4 w2 h_3 => ?_)
    obtain ⟨e_r_4, rfl⟩ := h_3
    refine q_eqi (r_fin 0) e_r_4 ?_
    refine q_ws (ws' := w_M (k_Z M) B (a_F X, a_K X, a_kp X, fd_up (a_fd X) 0, a_tp X, a_S X) D) rfl ?_
    exact Rt _ _ (r_fin 0) (w_M (k_Z M) B (a_F X, a_K X, a_kp X, fd_up (a_fd X) 0, a_tp X, a_S X) D) dX4_beasts_36 rfl (⟨D, by simp only [o_beasts, a_fin, if_neg c_2, e_r_1] <;> rfl, by simp only [o_beasts, a_fin, if_neg c_2] <;> rfl⟩)
  · have c_2 : inR field 0 8 := (kn_ne e_r_1).mp c_2
    obtain ⟨f, h_f, e_f⟩ := kn_rng (n := 8) c_2 rfl
    subst e_f
    refine q_iload_n K 2 dX4_beasts_7 rfl ?_
    refine q_i2l K dX4_beasts_8 ?_
    refine q_lconst 0 K dX4_beasts_9 rfl ?_
    refine q_ldc2 K dX4_beasts_10 ct_X4_56 ?_
    refine q_cp (rest := []) K ks_X4_isIn (c_X4_isIn (k_l M) (k_Z M) v.toInt64 0 9999) ml_X4_43 rfl rfl (Nat.le_of_ble_eq_true rfl) ⟨Nat.le_of_ble_eq_true rfl, Nat.le_of_ble_eq_true rfl⟩ dX4_beasts_13 (fun r_5 e_r_5 => ?_)
    have e_r_5 : r_5 = if inR v 0 9999 then 1 else 0 := kn_if e_r_5 (kn_i64 (v := v) (lo := 0) (hi := 9999))
    refine q_if_eq 30 K dX4_beasts_16 (by decide) (fun c_6 => ?_) (fun c_6 => ?_)
    · have c_6 : ¬ (inR v 0 9999) := (kn_eq e_r_5).mp c_6
      refine q_aload_n K 0 dX4_beasts_30 rfl ?_
      refine q_ldc K dX4_beasts_31 ct_X4_40 ?_
      refine q_eqi (r_fin 0) (by decide) ?_
      refine q_wI (q0 := 0) (As := [.int (r_fin 0)]) (rest := []) K kv_X4_finds (c_X4_finds (k_l M) (k_Z M) B X D 0 (by omega)) rfl rfl ml_X4_48 rfl rfl (Nat.le_of_ble_eq_true rfl) ⟨Nat.le_of_ble_eq_true rfl, Nat.le_of_ble_eq_true rfl⟩ dX4_beasts_33 (fun r_8 w2 h_7 => ?_)
      obtain ⟨e_r_8, rfl⟩ := h_7
      refine q_eqi (r_fin 0) e_r_8 ?_
      refine q_ws (ws' := w_M (k_Z M) B (a_F X, a_K X, a_kp X, fd_up (a_fd X) 0, a_tp X, a_S X) D) rfl ?_
      exact Rt _ _ (r_fin 0) (w_M (k_Z M) B (a_F X, a_K X, a_kp X, fd_up (a_fd X) 0, a_tp X, a_S X) D) dX4_beasts_36 rfl (⟨D, by simp only [o_beasts, a_fin, if_pos c_2, if_neg c_6, e_r_1, e_r_5, nI_clamp (n := f) (by omega)] <;> rfl, by simp only [o_beasts, a_fin, if_pos c_2, if_neg c_6, nI_clamp (n := f) (by omega)] <;> rfl⟩)
    · have c_6 : inR v 0 9999 := (kn_ne e_r_5).mp c_6
      refine q_aload_n K 0 dX4_beasts_19 rfl ?_
      refine q_iconst 4 K dX4_beasts_20 rfl ?_
      refine q_iload_n K 1 dX4_beasts_21 rfl ?_
      refine q_iadd K dX4_beasts_22 ?_
      refine q_eqi (nI (4 + f)) (kn_add 4 f) ?_
      refine q_iload_n K 2 dX4_beasts_23 rfl ?_
      refine q_wI (q0 := 0) (As := [.int (nI (4 + f)), .int v]) (rest := []) K kv_X4_becomes (c_X4_becomes (k_l M) (k_Z M) B X D (4 + f) (by omega) v) rfl rfl ml_X4_58 rfl rfl (Nat.le_of_ble_eq_true rfl) ⟨Nat.le_of_ble_eq_true rfl, Nat.le_of_ble_eq_true rfl⟩ dX4_beasts_24 (fun r_10 w2 h_9 => ?_)
      obtain ⟨e_r_10, rfl⟩ := h_9
      refine q_eqi (f_bs (a_F X) f) (e_r_10.trans (rw_bs _ (by omega))) ?_
      refine q_ws (ws' := w_M (k_Z M) B (f_setbs (a_F X) (upd (f_bs (a_F X)) f v), a_K X, a_kp X, a_fd X, a_tp X, a_S X) D) (by rw [up_bs _ (by omega) _]; rfl) ?_
      refine q_goto 36 K dX4_beasts_27 (by decide) ?_
      exact Rt _ _ (f_bs (a_F X) f) (w_M (k_Z M) B (f_setbs (a_F X) (upd (f_bs (a_F X)) f v), a_K X, a_kp X, a_fd X, a_tp X, a_S X) D) dX4_beasts_36 rfl (⟨D, by simp only [o_beasts, a_fin, if_pos c_2, if_pos c_6, e_r_1, e_r_5, nI_clamp (n := f) (by omega)] <;> rfl, by simp only [o_beasts, a_fin, if_pos c_2, if_pos c_6, nI_clamp (n := f) (by omega)] <;> rfl⟩)
theorem kv_X4_beasts : k_iv yX4_beasts cX4_beasts 3 (some .int) 2 := ⟨⟨im_X4_beasts, se_X4_beasts⟩, in_X4, co_X4_beasts, by decide +kernel⟩
set_option maxHeartbeats 4000000 in
set_option maxRecDepth 100000 in
theorem c_X4_field (l : Launch) (Z : kz_Z) (B : Nat → Nat) (X : AS) (D : DJ) (m : Nat) (hm : m ≤ 8) (hm2 : f_wk (a_F X) = nI m) (hok : f_ok (a_F X)) (field what : Int32) : KI l Z yX4_field cX4_field 3 .int 2 45 [.ref (B 0), .int field, .int what] (w_M Z B X D) (fun r w2 => ∃ D2, r = (o_field X field what).1 ∧ w2 = w_M Z B (o_field X field what).2 D2) := by
  refine ki_of (by decide) [(0, .ref (B 0)), (1, .int field), (2, .int what)] (Nat.le_of_ble_eq_true rfl) rfl ?_
  intro M e1 e2 K Rt
  subst e1 e2
  refine q_iload_n K 1 dX4_field_0 rfl ?_
  refine q_cp (rest := []) K ks_X4_isField (c_X4_isField (k_l M) (k_Z M) field) ml_X4_52 rfl rfl (Nat.le_of_ble_eq_true rfl) ⟨Nat.le_of_ble_eq_true rfl, Nat.le_of_ble_eq_true rfl⟩ dX4_field_1 (fun r_1 e_r_1 => ?_)
  refine q_if_eq 17 K dX4_field_4 (by decide) (fun c_2 => ?_) (fun c_2 => ?_)
  · have c_2 : ¬ (inR field 0 8) := (kn_eq e_r_1).mp c_2
    refine q_aload_n K 0 dX4_field_17 rfl ?_
    refine q_ldc K dX4_field_18 ct_X4_40 ?_
    refine q_eqi (r_fin 0) (by decide) ?_
    refine q_wI (q0 := 0) (As := [.int (r_fin 0)]) (rest := []) K kv_X4_finds (c_X4_finds (k_l M) (k_Z M) B X D 0 (by omega)) rfl rfl ml_X4_48 rfl rfl (Nat.le_of_ble_eq_true rfl) ⟨Nat.le_of_ble_eq_true rfl, Nat.le_of_ble_eq_true rfl⟩ dX4_field_20 (fun r_4 w2 h_3 => ?_)
    obtain ⟨e_r_4, rfl⟩ := h_3
    refine q_eqi (r_fin 0) e_r_4 ?_
    refine q_ws (ws' := w_M (k_Z M) B (a_F X, a_K X, a_kp X, fd_up (a_fd X) 0, a_tp X, a_S X) D) rfl ?_
    exact Rt _ _ (r_fin 0) (w_M (k_Z M) B (a_F X, a_K X, a_kp X, fd_up (a_fd X) 0, a_tp X, a_S X) D) dX4_field_23 rfl (⟨D, by simp only [o_field, a_fin, if_neg c_2, e_r_1, f_mm hm hm2] <;> rfl, by simp only [o_field, a_fin, if_neg c_2, f_mm hm hm2] <;> rfl⟩)
  · have c_2 : inR field 0 8 := (kn_ne e_r_1).mp c_2
    obtain ⟨f, h_f, e_f⟩ := kn_rng (n := 8) c_2 rfl
    subst e_f
    refine q_iload_n K 2 dX4_field_7 rfl ?_
    refine q_i2l K dX4_field_8 ?_
    refine q_lconst 0 K dX4_field_9 rfl ?_
    refine q_lconst 1 K dX4_field_10 rfl ?_
    refine q_cp (rest := []) K ks_X4_isIn (c_X4_isIn (k_l M) (k_Z M) what.toInt64 0 1) ml_X4_43 rfl rfl (Nat.le_of_ble_eq_true rfl) ⟨Nat.le_of_ble_eq_true rfl, Nat.le_of_ble_eq_true rfl⟩ dX4_field_11 (fun r_5 e_r_5 => ?_)
    have e_r_5 : r_5 = if inR what 0 1 then 1 else 0 := kn_if e_r_5 (kn_i64 (v := what) (lo := 0) (hi := 1))
    refine q_if_ne 24 K dX4_field_14 (by decide) (fun c_6 => ?_) (fun c_6 => ?_)
    · have c_6 : inR what 0 1 := (kn_ne e_r_5).mp c_6
      refine q_iload_n K 2 dX4_field_24 rfl ?_
      refine q_if_ne 39 K dX4_field_25 (by decide) (fun c_7 => ?_) (fun c_7 => ?_)
      · refine q_aload_n K 0 dX4_field_39 rfl ?_
        refine q_iload_n K 1 dX4_field_40 rfl ?_
        refine q_wI (q0 := 0) (As := [.int (nI f)]) (rest := []) K kv_X4_there (c_X4_there (k_l M) (k_Z M) B X D m hm hm2 (nI f)) rfl rfl ml_X4_65 rfl rfl (Nat.le_of_ble_eq_true rfl) ⟨Nat.le_of_ble_eq_true rfl, Nat.le_of_ble_eq_true rfl⟩ dX4_field_41 (fun r_9 w2 h_8 => ?_)
        obtain ⟨e_r_9, rfl⟩ := h_8
        refine q_eqi (f_wset (a_F X) (nI f) m) e_r_9 ?_
        exact Rt _ _ (f_wset (a_F X) (nI f) m) (w_M (k_Z M) B X D) dX4_field_44 rfl (⟨D, by simp only [o_field, a_fin, if_pos c_2, if_pos c_6, if_neg c_7, e_r_1, e_r_5, nI_clamp (n := f) (by omega), f_mm hm hm2] <;> rfl, by simp only [o_field, a_fin, if_pos c_2, if_pos c_6, if_neg c_7, nI_clamp (n := f) (by omega), f_mm hm hm2] <;> rfl⟩)
      · refine q_aload_n K 0 dX4_field_28 rfl ?_
        refine q_get (.ref (B 1)) K ws_X4 0 rfl rfl 0 (by decide) fl_X4_7 rfl dX4_field_29 ?_
        refine q_iconst 4 K dX4_field_32 rfl ?_
        refine q_iload_n K 1 dX4_field_33 rfl ?_
        refine q_iadd K dX4_field_34 ?_
        refine q_eqi (nI (4 + f)) (kn_add 4 f) ?_
        refine q_iald K 1 rfl (vp_in_nI (n := 4 + f) (N := 71) (by omega) (by omega)) dX4_field_35 ?_
        refine q_eqi (f_bs (a_F X) f) (by rw [nI_clamp (n := 4 + f) (by omega)]; exact rw_bs _ (by omega)) ?_
        refine q_goto 44 K dX4_field_36 (by decide) ?_
        exact Rt _ _ (f_bs (a_F X) f) (w_M (k_Z M) B X D) dX4_field_44 rfl (⟨D, by simp only [o_field, a_fin, if_pos c_2, if_pos c_6, if_pos c_7, e_r_1, e_r_5, nI_clamp (n := f) (by omega), f_mm hm hm2] <;> rfl, by simp only [o_field, a_fin, if_pos c_2, if_pos c_6, if_pos c_7, nI_clamp (n := f) (by omega), f_mm hm hm2] <;> rfl⟩)
    · have c_6 : ¬ (inR what 0 1) := (kn_eq e_r_5).mp c_6
      refine q_aload_n K 0 dX4_field_17 rfl ?_
      refine q_ldc K dX4_field_18 ct_X4_40 ?_
      refine q_eqi (r_fin 0) (by decide) ?_
      refine q_wI (q0 := 0) (As := [.int (r_fin 0)]) (rest := []) K kv_X4_finds (c_X4_finds (k_l M) (k_Z M) B X D 0 (by omega)) rfl rfl ml_X4_48 rfl rfl (Nat.le_of_ble_eq_true rfl) ⟨Nat.le_of_ble_eq_true rfl, Nat.le_of_ble_eq_true rfl⟩ dX4_field_20 (fun r_11 w2 h_10 => ?_)
      obtain ⟨e_r_11, rfl⟩ := h_10
      refine q_eqi (r_fin 0) e_r_11 ?_
      refine q_ws (ws' := w_M (k_Z M) B (a_F X, a_K X, a_kp X, fd_up (a_fd X) 0, a_tp X, a_S X) D) rfl ?_
      exact Rt _ _ (r_fin 0) (w_M (k_Z M) B (a_F X, a_K X, a_kp X, fd_up (a_fd X) 0, a_tp X, a_S X) D) dX4_field_23 rfl (⟨D, by simp only [o_field, a_fin, if_pos c_2, if_neg c_6, e_r_1, e_r_5, nI_clamp (n := f) (by omega), f_mm hm hm2] <;> rfl, by simp only [o_field, a_fin, if_pos c_2, if_neg c_6, nI_clamp (n := f) (by omega), f_mm hm hm2] <;> rfl⟩)
theorem kv_X4_field : k_iv yX4_field cX4_field 3 (some .int) 2 := ⟨⟨im_X4_field, se_X4_field⟩, in_X4, co_X4_field, by decide +kernel⟩
set_option maxHeartbeats 4000000 in
set_option maxRecDepth 100000 in
theorem c_X4_gate (l : Launch) (Z : kz_Z) (B : Nat → Nat) (X : AS) (D : DJ) (m : Nat) (hm : m ≤ 8) (hm2 : f_wk (a_F X) = nI m) (hok : f_ok (a_F X)) (gate v : Int32) : KI l Z yX4_gate cX4_gate 3 .int 2 45 [.ref (B 0), .int gate, .int v] (w_M Z B X D) (fun r w2 => ∃ D2, r = (o_gate X gate v).1 ∧ w2 = w_M Z B (o_gate X gate v).2 D2) := by
  refine ki_of (by decide) [(0, .ref (B 0)), (1, .int gate), (2, .int v)] (Nat.le_of_ble_eq_true rfl) rfl ?_
  intro M e1 e2 K Rt
  subst e1 e2
  refine q_iload_n K 1 dX4_gate_0 rfl ?_
  refine q_cp (rest := []) K ks_X4_isGate (c_X4_isGate (k_l M) (k_Z M) gate) ml_X4_68 rfl rfl (Nat.le_of_ble_eq_true rfl) ⟨Nat.le_of_ble_eq_true rfl, Nat.le_of_ble_eq_true rfl⟩ dX4_gate_1 (fun r_1 e_r_1 => ?_)
  refine q_if_eq 26 K dX4_gate_4 (by decide) (fun c_2 => ?_) (fun c_2 => ?_)
  · have c_2 : ¬ (inR gate 0 7) := (kn_eq e_r_1).mp c_2
    refine q_aload_n K 0 dX4_gate_26 rfl ?_
    refine q_ldc K dX4_gate_27 ct_X4_40 ?_
    refine q_eqi (r_fin 0) (by decide) ?_
    refine q_wI (q0 := 0) (As := [.int (r_fin 0)]) (rest := []) K kv_X4_finds (c_X4_finds (k_l M) (k_Z M) B X D 0 (by omega)) rfl rfl ml_X4_48 rfl rfl (Nat.le_of_ble_eq_true rfl) ⟨Nat.le_of_ble_eq_true rfl, Nat.le_of_ble_eq_true rfl⟩ dX4_gate_29 (fun r_4 w2 h_3 => ?_)
    obtain ⟨e_r_4, rfl⟩ := h_3
    refine q_eqi (r_fin 0) e_r_4 ?_
    refine q_ws (ws' := w_M (k_Z M) B (a_F X, a_K X, a_kp X, fd_up (a_fd X) 0, a_tp X, a_S X) D) rfl ?_
    exact Rt _ _ (r_fin 0) (w_M (k_Z M) B (a_F X, a_K X, a_kp X, fd_up (a_fd X) 0, a_tp X, a_S X) D) dX4_gate_32 rfl (⟨D, by simp only [o_gate, a_fin, if_neg c_2, e_r_1] <;> rfl, by simp only [o_gate, a_fin, if_neg c_2] <;> rfl⟩)
  · have c_2 : inR gate 0 7 := (kn_ne e_r_1).mp c_2
    obtain ⟨g, h_g, e_g⟩ := kn_rng (n := 7) c_2 rfl
    subst e_g
    refine q_iload_n K 2 dX4_gate_7 rfl ?_
    refine q_cp (rest := []) K ks_X4_isStand (c_X4_isStand (k_l M) (k_Z M) v) ml_X4_71 rfl rfl (Nat.le_of_ble_eq_true rfl) ⟨Nat.le_of_ble_eq_true rfl, Nat.le_of_ble_eq_true rfl⟩ dX4_gate_8 (fun r_5 e_r_5 => ?_)
    refine q_if_eq 26 K dX4_gate_11 (by decide) (fun c_6 => ?_) (fun c_6 => ?_)
    · have c_6 : ¬ (inR v 0 3) := (kn_eq e_r_5).mp c_6
      refine q_aload_n K 0 dX4_gate_26 rfl ?_
      refine q_ldc K dX4_gate_27 ct_X4_40 ?_
      refine q_eqi (r_fin 0) (by decide) ?_
      refine q_wI (q0 := 0) (As := [.int (r_fin 0)]) (rest := []) K kv_X4_finds (c_X4_finds (k_l M) (k_Z M) B X D 0 (by omega)) rfl rfl ml_X4_48 rfl rfl (Nat.le_of_ble_eq_true rfl) ⟨Nat.le_of_ble_eq_true rfl, Nat.le_of_ble_eq_true rfl⟩ dX4_gate_29 (fun r_8 w2 h_7 => ?_)
      obtain ⟨e_r_8, rfl⟩ := h_7
      refine q_eqi (r_fin 0) e_r_8 ?_
      refine q_ws (ws' := w_M (k_Z M) B (a_F X, a_K X, a_kp X, fd_up (a_fd X) 0, a_tp X, a_S X) D) rfl ?_
      exact Rt _ _ (r_fin 0) (w_M (k_Z M) B (a_F X, a_K X, a_kp X, fd_up (a_fd X) 0, a_tp X, a_S X) D) dX4_gate_32 rfl (⟨D, by simp only [o_gate, a_fin, if_pos c_2, if_neg c_6, e_r_1, e_r_5, nI_clamp (n := g) (by omega)] <;> rfl, by simp only [o_gate, a_fin, if_pos c_2, if_neg c_6, nI_clamp (n := g) (by omega)] <;> rfl⟩)
    · have c_6 : inR v 0 3 := (kn_ne e_r_5).mp c_6
      refine q_aload_n K 0 dX4_gate_14 rfl ?_
      refine q_bipush 13 K dX4_gate_15 rfl ?_
      refine q_iload_n K 1 dX4_gate_17 rfl ?_
      refine q_iadd K dX4_gate_18 ?_
      refine q_eqi (nI (13 + g)) (kn_add 13 g) ?_
      refine q_iload_n K 2 dX4_gate_19 rfl ?_
      refine q_wI (q0 := 0) (As := [.int (nI (13 + g)), .int v]) (rest := []) K kv_X4_becomes (c_X4_becomes (k_l M) (k_Z M) B X D (13 + g) (by omega) v) rfl rfl ml_X4_58 rfl rfl (Nat.le_of_ble_eq_true rfl) ⟨Nat.le_of_ble_eq_true rfl, Nat.le_of_ble_eq_true rfl⟩ dX4_gate_20 (fun r_10 w2 h_9 => ?_)
      obtain ⟨e_r_10, rfl⟩ := h_9
      refine q_eqi (f_gs (a_F X) g) (e_r_10.trans (rw_gs _ (by omega))) ?_
      refine q_ws (ws' := w_M (k_Z M) B (f_setgs (a_F X) (upd (f_gs (a_F X)) g v), a_K X, a_kp X, a_fd X, a_tp X, a_S X) D) (by rw [up_gs _ (by omega) _]; rfl) ?_
      refine q_goto 32 K dX4_gate_23 (by decide) ?_
      exact Rt _ _ (f_gs (a_F X) g) (w_M (k_Z M) B (f_setgs (a_F X) (upd (f_gs (a_F X)) g v), a_K X, a_kp X, a_fd X, a_tp X, a_S X) D) dX4_gate_32 rfl (⟨D, by simp only [o_gate, a_fin, if_pos c_2, if_pos c_6, e_r_1, e_r_5, nI_clamp (n := g) (by omega)] <;> rfl, by simp only [o_gate, a_fin, if_pos c_2, if_pos c_6, nI_clamp (n := g) (by omega)] <;> rfl⟩)
theorem kv_X4_gate : k_iv yX4_gate cX4_gate 3 (some .int) 2 := ⟨⟨im_X4_gate, se_X4_gate⟩, in_X4, co_X4_gate, by decide +kernel⟩
set_option maxHeartbeats 4000000 in
set_option maxRecDepth 100000 in
theorem c_X4_stands (l : Launch) (Z : kz_Z) (B : Nat → Nat) (X : AS) (D : DJ) (m : Nat) (hm : m ≤ 8) (hm2 : f_wk (a_F X) = nI m) (hok : f_ok (a_F X)) (gate : Int32) : KI l Z yX4_stands cX4_stands 2 .int 1 21 [.ref (B 0), .int gate] (w_M Z B X D) (fun r w2 => ∃ D2, r = (o_stands X gate).1 ∧ w2 = w_M Z B (o_stands X gate).2 D2) := by
  refine ki_of (by decide) [(0, .ref (B 0)), (1, .int gate)] (Nat.le_of_ble_eq_true rfl) rfl ?_
  intro M e1 e2 K Rt
  subst e1 e2
  refine q_iload_n K 1 dX4_stands_0 rfl ?_
  refine q_cp (rest := []) K ks_X4_isGate (c_X4_isGate (k_l M) (k_Z M) gate) ml_X4_68 rfl rfl (Nat.le_of_ble_eq_true rfl) ⟨Nat.le_of_ble_eq_true rfl, Nat.le_of_ble_eq_true rfl⟩ dX4_stands_1 (fun r_1 e_r_1 => ?_)
  refine q_if_eq 19 K dX4_stands_4 (by decide) (fun c_2 => ?_) (fun c_2 => ?_)
  · have c_2 : ¬ (inR gate 0 7) := (kn_eq e_r_1).mp c_2
    refine q_aload_n K 0 dX4_stands_19 rfl ?_
    refine q_ldc K dX4_stands_20 ct_X4_40 ?_
    refine q_eqi (r_fin 0) (by decide) ?_
    refine q_wI (q0 := 0) (As := [.int (r_fin 0)]) (rest := []) K kv_X4_finds (c_X4_finds (k_l M) (k_Z M) B X D 0 (by omega)) rfl rfl ml_X4_48 rfl rfl (Nat.le_of_ble_eq_true rfl) ⟨Nat.le_of_ble_eq_true rfl, Nat.le_of_ble_eq_true rfl⟩ dX4_stands_22 (fun r_4 w2 h_3 => ?_)
    obtain ⟨e_r_4, rfl⟩ := h_3
    refine q_eqi (r_fin 0) e_r_4 ?_
    refine q_ws (ws' := w_M (k_Z M) B (a_F X, a_K X, a_kp X, fd_up (a_fd X) 0, a_tp X, a_S X) D) rfl ?_
    exact Rt _ _ (r_fin 0) (w_M (k_Z M) B (a_F X, a_K X, a_kp X, fd_up (a_fd X) 0, a_tp X, a_S X) D) dX4_stands_25 rfl (⟨D, by simp only [o_stands, a_fin, if_neg c_2, e_r_1] <;> rfl, by simp only [o_stands, a_fin, if_neg c_2] <;> rfl⟩)
  · have c_2 : inR gate 0 7 := (kn_ne e_r_1).mp c_2
    obtain ⟨g, h_g, e_g⟩ := kn_rng (n := 7) c_2 rfl
    subst e_g
    refine q_aload_n K 0 dX4_stands_7 rfl ?_
    refine q_get (.ref (B 1)) K ws_X4 0 rfl rfl 0 (by decide) fl_X4_7 rfl dX4_stands_8 ?_
    refine q_bipush 13 K dX4_stands_11 rfl ?_
    refine q_iload_n K 1 dX4_stands_13 rfl ?_
    refine q_iadd K dX4_stands_14 ?_
    refine q_eqi (nI (13 + g)) (kn_add 13 g) ?_
    refine q_iald K 1 rfl (vp_in_nI (n := 13 + g) (N := 71) (by omega) (by omega)) dX4_stands_15 ?_
    refine q_eqi (f_gs (a_F X) g) (by rw [nI_clamp (n := 13 + g) (by omega)]; exact rw_gs _ (by omega)) ?_
    refine q_goto 25 K dX4_stands_16 (by decide) ?_
    exact Rt _ _ (f_gs (a_F X) g) (w_M (k_Z M) B X D) dX4_stands_25 rfl (⟨D, by simp only [o_stands, a_fin, if_pos c_2, e_r_1, nI_clamp (n := g) (by omega)] <;> rfl, by simp only [o_stands, a_fin, if_pos c_2, nI_clamp (n := g) (by omega)] <;> rfl⟩)
theorem kv_X4_stands : k_iv yX4_stands cX4_stands 2 (some .int) 1 := ⟨⟨im_X4_stands, se_X4_stands⟩, in_X4, co_X4_stands, by decide +kernel⟩
set_option maxHeartbeats 4000000 in
set_option maxRecDepth 100000 in
theorem c_X4_wind (l : Launch) (Z : kz_Z) (B : Nat → Nat) (X : AS) (D : DJ) (m : Nat) (hm : m ≤ 8) (hm2 : f_wk (a_F X) = nI m) (hok : f_ok (a_F X)) (v : Int32) : KI l Z yX4_wind cX4_wind 2 .int 1 25 [.ref (B 0), .int v] (w_M Z B X D) (fun r w2 => ∃ D2, r = (o_wind X v).1 ∧ w2 = w_M Z B (o_wind X v).2 D2) := by
  refine ki_of (by decide) [(0, .ref (B 0)), (1, .int v)] (Nat.le_of_ble_eq_true rfl) rfl ?_
  intro M e1 e2 K Rt
  subst e1 e2
  refine q_iload_n K 1 dX4_wind_0 rfl ?_
  refine q_i2l K dX4_wind_1 ?_
  refine q_lconst 0 K dX4_wind_2 rfl ?_
  refine q_ldc2 K dX4_wind_3 ct_X4_74 ?_
  refine q_cp (rest := []) K ks_X4_isIn (c_X4_isIn (k_l M) (k_Z M) v.toInt64 0 9) ml_X4_43 rfl rfl (Nat.le_of_ble_eq_true rfl) ⟨Nat.le_of_ble_eq_true rfl, Nat.le_of_ble_eq_true rfl⟩ dX4_wind_6 (fun r_1 e_r_1 => ?_)
  have e_r_1 : r_1 = if inR v 0 9 then 1 else 0 := kn_if e_r_1 (kn_i64 (v := v) (lo := 0) (hi := 9))
  refine q_if_eq 21 K dX4_wind_9 (by decide) (fun c_2 => ?_) (fun c_2 => ?_)
  · have c_2 : ¬ (inR v 0 9) := (kn_eq e_r_1).mp c_2
    refine q_aload_n K 0 dX4_wind_21 rfl ?_
    refine q_ldc K dX4_wind_22 ct_X4_40 ?_
    refine q_eqi (r_fin 0) (by decide) ?_
    refine q_wI (q0 := 0) (As := [.int (r_fin 0)]) (rest := []) K kv_X4_finds (c_X4_finds (k_l M) (k_Z M) B X D 0 (by omega)) rfl rfl ml_X4_48 rfl rfl (Nat.le_of_ble_eq_true rfl) ⟨Nat.le_of_ble_eq_true rfl, Nat.le_of_ble_eq_true rfl⟩ dX4_wind_24 (fun r_4 w2 h_3 => ?_)
    obtain ⟨e_r_4, rfl⟩ := h_3
    refine q_eqi (r_fin 0) e_r_4 ?_
    refine q_ws (ws' := w_M (k_Z M) B (a_F X, a_K X, a_kp X, fd_up (a_fd X) 0, a_tp X, a_S X) D) rfl ?_
    exact Rt _ _ (r_fin 0) (w_M (k_Z M) B (a_F X, a_K X, a_kp X, fd_up (a_fd X) 0, a_tp X, a_S X) D) dX4_wind_27 rfl (⟨D, by simp only [o_wind, a_fin, if_neg c_2, e_r_1] <;> rfl, by simp only [o_wind, a_fin, if_neg c_2] <;> rfl⟩)
  · have c_2 : inR v 0 9 := (kn_ne e_r_1).mp c_2
    refine q_aload_n K 0 dX4_wind_12 rfl ?_
    refine q_iconst 3 K dX4_wind_13 rfl ?_
    refine q_iload_n K 1 dX4_wind_14 rfl ?_
    refine q_wI (q0 := 0) (As := [.int 3, .int v]) (rest := []) K kv_X4_becomes (c_X4_becomes (k_l M) (k_Z M) B X D 3 (by omega) v) rfl rfl ml_X4_58 rfl rfl (Nat.le_of_ble_eq_true rfl) ⟨Nat.le_of_ble_eq_true rfl, Nat.le_of_ble_eq_true rfl⟩ dX4_wind_15 (fun r_6 w2 h_5 => ?_)
    obtain ⟨e_r_6, rfl⟩ := h_5
    refine q_eqi (f_wd (a_F X)) (e_r_6.trans rfl) ?_
    refine q_ws (ws' := w_M (k_Z M) B (f_setwd (a_F X) v, a_K X, a_kp X, a_fd X, a_tp X, a_S X) D) (by rw [up_3 _ _]; rfl) ?_
    refine q_goto 27 K dX4_wind_18 (by decide) ?_
    exact Rt _ _ (f_wd (a_F X)) (w_M (k_Z M) B (f_setwd (a_F X) v, a_K X, a_kp X, a_fd X, a_tp X, a_S X) D) dX4_wind_27 rfl (⟨D, by simp only [o_wind, a_fin, if_pos c_2, e_r_1] <;> rfl, by simp only [o_wind, a_fin, if_pos c_2] <;> rfl⟩)
theorem kv_X4_wind : k_iv yX4_wind cX4_wind 2 (some .int) 1 := ⟨⟨im_X4_wind, se_X4_wind⟩, in_X4, co_X4_wind, by decide +kernel⟩
set_option maxHeartbeats 4000000 in
set_option maxRecDepth 100000 in
theorem c_X4_comes (l : Launch) (Z : kz_Z) (B : Nat → Nat) (X : AS) (D : DJ) (m : Nat) (hm : m < 8) (hm2 : f_wk (a_F X) = nI m) (kind field : Int32) : KV l Z yX4_comes cX4_comes 3 1 21 [.ref (B 0), .int kind, .int field] (w_M Z B X D) (fun w2 => w2 = w_M Z B (a_setF X (f_add (a_F X) kind field m)) D) := by
  refine kv_of (by decide) [(0, .ref (B 0)), (1, .int kind), (2, .int field)] (Nat.le_of_ble_eq_true rfl) rfl ?_
  intro M e1 e2 K Rt
  subst e1 e2
  refine q_aload_n K 0 dX4_comes_0 rfl ?_
  refine q_get (.ref (B 1)) K ws_X4 0 rfl rfl 0 (by decide) fl_X4_7 rfl dX4_comes_1 ?_
  refine q_aload_n K 0 dX4_comes_4 rfl ?_
  refine q_get (.ref (B 1)) K ws_X4 0 rfl rfl 0 (by decide) fl_X4_7 rfl dX4_comes_5 ?_
  refine q_iconst 0 K dX4_comes_8 rfl ?_
  refine q_iald K 1 rfl (vp_in_nI (n := 0) (N := 71) (by omega) (by omega)) dX4_comes_9 ?_
  refine q_eqi (f_wk (a_F X)) rfl ?_
  refine q_eqi (nI m) hm2 ?_
  refine q_iconst 0 K dX4_comes_10 rfl ?_
  refine q_cp (rest := [.ref (B 1)]) K ks_X4_at (c_X4_at (k_l M) (k_Z M) m 0) ml_X4_76 rfl rfl (Nat.le_of_ble_eq_true rfl) ⟨Nat.le_of_ble_eq_true rfl, Nat.le_of_ble_eq_true rfl⟩ dX4_comes_11 (fun r_1 e_r_1 => ?_)
  refine q_eqi (nI ((21 + (5 * m)) + 0)) e_r_1 ?_
  refine q_iload_n K 1 dX4_comes_14 rfl ?_
  refine q_iast (ws' := w_M (k_Z M) B (f_setrow (a_F X) 0 (upd (f_row (a_F X) 0) m kind), a_K X, a_kp X, a_fd X, a_tp X, a_S X) D) K 1 rfl (vp_in_nI (n := (21 + (5 * m)) + 0) (N := 71) (by omega) (by omega)) (by rw [nI_clamp (n := (21 + (5 * m)) + 0) (by omega), up_at _ (by omega) (by omega) _]; rfl) dX4_comes_15 ?_
  refine q_aload_n K 0 dX4_comes_16 rfl ?_
  refine q_get (.ref (B 1)) K ws_X4 0 rfl rfl 0 (by decide) fl_X4_7 rfl dX4_comes_17 ?_
  refine q_aload_n K 0 dX4_comes_20 rfl ?_
  refine q_get (.ref (B 1)) K ws_X4 0 rfl rfl 0 (by decide) fl_X4_7 rfl dX4_comes_21 ?_
  refine q_iconst 0 K dX4_comes_24 rfl ?_
  refine q_iald K 1 rfl (vp_in_nI (n := 0) (N := 71) (by omega) (by omega)) dX4_comes_25 ?_
  refine q_eqi (f_wk (f_setrow (a_F X) 0 (upd (f_row (a_F X) 0) m kind))) rfl ?_
  refine q_eqi (nI m) hm2 ?_
  refine q_iconst 1 K dX4_comes_26 rfl ?_
  refine q_cp (rest := [.ref (B 1)]) K ks_X4_at (c_X4_at (k_l M) (k_Z M) m 1) ml_X4_76 rfl rfl (Nat.le_of_ble_eq_true rfl) ⟨Nat.le_of_ble_eq_true rfl, Nat.le_of_ble_eq_true rfl⟩ dX4_comes_27 (fun r_2 e_r_2 => ?_)
  refine q_eqi (nI ((21 + (5 * m)) + 1)) e_r_2 ?_
  refine q_iload_n K 2 dX4_comes_30 rfl ?_
  refine q_iast (ws' := w_M (k_Z M) B (f_setrow (f_setrow (a_F X) 0 (upd (f_row (a_F X) 0) m kind)) 1 (upd (f_row (f_setrow (a_F X) 0 (upd (f_row (a_F X) 0) m kind)) 1) m field), a_K X, a_kp X, a_fd X, a_tp X, a_S X) D) K 1 rfl (vp_in_nI (n := (21 + (5 * m)) + 1) (N := 71) (by omega) (by omega)) (by rw [nI_clamp (n := (21 + (5 * m)) + 1) (by omega), up_at _ (by omega) (by omega) _]; rfl) dX4_comes_31 ?_
  refine q_aload_n K 0 dX4_comes_32 rfl ?_
  refine q_get (.ref (B 1)) K ws_X4 0 rfl rfl 0 (by decide) fl_X4_7 rfl dX4_comes_33 ?_
  refine q_aload_n K 0 dX4_comes_36 rfl ?_
  refine q_get (.ref (B 1)) K ws_X4 0 rfl rfl 0 (by decide) fl_X4_7 rfl dX4_comes_37 ?_
  refine q_iconst 0 K dX4_comes_40 rfl ?_
  refine q_iald K 1 rfl (vp_in_nI (n := 0) (N := 71) (by omega) (by omega)) dX4_comes_41 ?_
  refine q_eqi (f_wk (f_setrow (f_setrow (a_F X) 0 (upd (f_row (a_F X) 0) m kind)) 1 (upd (f_row (f_setrow (a_F X) 0 (upd (f_row (a_F X) 0) m kind)) 1) m field))) rfl ?_
  refine q_eqi (nI m) hm2 ?_
  refine q_iconst 2 K dX4_comes_42 rfl ?_
  refine q_cp (rest := [.ref (B 1)]) K ks_X4_at (c_X4_at (k_l M) (k_Z M) m 2) ml_X4_76 rfl rfl (Nat.le_of_ble_eq_true rfl) ⟨Nat.le_of_ble_eq_true rfl, Nat.le_of_ble_eq_true rfl⟩ dX4_comes_43 (fun r_3 e_r_3 => ?_)
  refine q_eqi (nI ((21 + (5 * m)) + 2)) e_r_3 ?_
  refine q_iconst 0 K dX4_comes_46 rfl ?_
  refine q_iast (ws' := w_M (k_Z M) B (f_setrow (f_setrow (f_setrow (a_F X) 0 (upd (f_row (a_F X) 0) m kind)) 1 (upd (f_row (f_setrow (a_F X) 0 (upd (f_row (a_F X) 0) m kind)) 1) m field)) 2 (upd (f_row (f_setrow (f_setrow (a_F X) 0 (upd (f_row (a_F X) 0) m kind)) 1 (upd (f_row (f_setrow (a_F X) 0 (upd (f_row (a_F X) 0) m kind)) 1) m field)) 2) m 0), a_K X, a_kp X, a_fd X, a_tp X, a_S X) D) K 1 rfl (vp_in_nI (n := (21 + (5 * m)) + 2) (N := 71) (by omega) (by omega)) (by rw [nI_clamp (n := (21 + (5 * m)) + 2) (by omega), up_at _ (by omega) (by omega) _]; rfl) dX4_comes_47 ?_
  refine q_aload_n K 0 dX4_comes_48 rfl ?_
  refine q_get (.ref (B 1)) K ws_X4 0 rfl rfl 0 (by decide) fl_X4_7 rfl dX4_comes_49 ?_
  refine q_aload_n K 0 dX4_comes_52 rfl ?_
  refine q_get (.ref (B 1)) K ws_X4 0 rfl rfl 0 (by decide) fl_X4_7 rfl dX4_comes_53 ?_
  refine q_iconst 0 K dX4_comes_56 rfl ?_
  refine q_iald K 1 rfl (vp_in_nI (n := 0) (N := 71) (by omega) (by omega)) dX4_comes_57 ?_
  refine q_eqi (f_wk (f_setrow (f_setrow (f_setrow (a_F X) 0 (upd (f_row (a_F X) 0) m kind)) 1 (upd (f_row (f_setrow (a_F X) 0 (upd (f_row (a_F X) 0) m kind)) 1) m field)) 2 (upd (f_row (f_setrow (f_setrow (a_F X) 0 (upd (f_row (a_F X) 0) m kind)) 1 (upd (f_row (f_setrow (a_F X) 0 (upd (f_row (a_F X) 0) m kind)) 1) m field)) 2) m 0))) rfl ?_
  refine q_eqi (nI m) hm2 ?_
  refine q_iconst 3 K dX4_comes_58 rfl ?_
  refine q_cp (rest := [.ref (B 1)]) K ks_X4_at (c_X4_at (k_l M) (k_Z M) m 3) ml_X4_76 rfl rfl (Nat.le_of_ble_eq_true rfl) ⟨Nat.le_of_ble_eq_true rfl, Nat.le_of_ble_eq_true rfl⟩ dX4_comes_59 (fun r_4 e_r_4 => ?_)
  refine q_eqi (nI ((21 + (5 * m)) + 3)) e_r_4 ?_
  refine q_iconst 3 K dX4_comes_62 rfl ?_
  refine q_iast (ws' := w_M (k_Z M) B (f_setrow (f_setrow (f_setrow (f_setrow (a_F X) 0 (upd (f_row (a_F X) 0) m kind)) 1 (upd (f_row (f_setrow (a_F X) 0 (upd (f_row (a_F X) 0) m kind)) 1) m field)) 2 (upd (f_row (f_setrow (f_setrow (a_F X) 0 (upd (f_row (a_F X) 0) m kind)) 1 (upd (f_row (f_setrow (a_F X) 0 (upd (f_row (a_F X) 0) m kind)) 1) m field)) 2) m 0)) 3 (upd (f_row (f_setrow (f_setrow (f_setrow (a_F X) 0 (upd (f_row (a_F X) 0) m kind)) 1 (upd (f_row (f_setrow (a_F X) 0 (upd (f_row (a_F X) 0) m kind)) 1) m field)) 2 (upd (f_row (f_setrow (f_setrow (a_F X) 0 (upd (f_row (a_F X) 0) m kind)) 1 (upd (f_row (f_setrow (a_F X) 0 (upd (f_row (a_F X) 0) m kind)) 1) m field)) 2) m 0)) 3) m 3), a_K X, a_kp X, a_fd X, a_tp X, a_S X) D) K 1 rfl (vp_in_nI (n := (21 + (5 * m)) + 3) (N := 71) (by omega) (by omega)) (by rw [nI_clamp (n := (21 + (5 * m)) + 3) (by omega), up_at _ (by omega) (by omega) _]; rfl) dX4_comes_63 ?_
  refine q_aload_n K 0 dX4_comes_64 rfl ?_
  refine q_get (.ref (B 1)) K ws_X4 0 rfl rfl 0 (by decide) fl_X4_7 rfl dX4_comes_65 ?_
  refine q_aload_n K 0 dX4_comes_68 rfl ?_
  refine q_get (.ref (B 1)) K ws_X4 0 rfl rfl 0 (by decide) fl_X4_7 rfl dX4_comes_69 ?_
  refine q_iconst 0 K dX4_comes_72 rfl ?_
  refine q_iald K 1 rfl (vp_in_nI (n := 0) (N := 71) (by omega) (by omega)) dX4_comes_73 ?_
  refine q_eqi (f_wk (f_setrow (f_setrow (f_setrow (f_setrow (a_F X) 0 (upd (f_row (a_F X) 0) m kind)) 1 (upd (f_row (f_setrow (a_F X) 0 (upd (f_row (a_F X) 0) m kind)) 1) m field)) 2 (upd (f_row (f_setrow (f_setrow (a_F X) 0 (upd (f_row (a_F X) 0) m kind)) 1 (upd (f_row (f_setrow (a_F X) 0 (upd (f_row (a_F X) 0) m kind)) 1) m field)) 2) m 0)) 3 (upd (f_row (f_setrow (f_setrow (f_setrow (a_F X) 0 (upd (f_row (a_F X) 0) m kind)) 1 (upd (f_row (f_setrow (a_F X) 0 (upd (f_row (a_F X) 0) m kind)) 1) m field)) 2 (upd (f_row (f_setrow (f_setrow (a_F X) 0 (upd (f_row (a_F X) 0) m kind)) 1 (upd (f_row (f_setrow (a_F X) 0 (upd (f_row (a_F X) 0) m kind)) 1) m field)) 2) m 0)) 3) m 3))) rfl ?_
  refine q_eqi (nI m) hm2 ?_
  refine q_iconst 4 K dX4_comes_74 rfl ?_
  refine q_cp (rest := [.ref (B 1)]) K ks_X4_at (c_X4_at (k_l M) (k_Z M) m 4) ml_X4_76 rfl rfl (Nat.le_of_ble_eq_true rfl) ⟨Nat.le_of_ble_eq_true rfl, Nat.le_of_ble_eq_true rfl⟩ dX4_comes_75 (fun r_5 e_r_5 => ?_)
  refine q_eqi (nI ((21 + (5 * m)) + 4)) e_r_5 ?_
  refine q_iconst 0 K dX4_comes_78 rfl ?_
  refine q_iast (ws' := w_M (k_Z M) B (f_setrow (f_setrow (f_setrow (f_setrow (f_setrow (a_F X) 0 (upd (f_row (a_F X) 0) m kind)) 1 (upd (f_row (f_setrow (a_F X) 0 (upd (f_row (a_F X) 0) m kind)) 1) m field)) 2 (upd (f_row (f_setrow (f_setrow (a_F X) 0 (upd (f_row (a_F X) 0) m kind)) 1 (upd (f_row (f_setrow (a_F X) 0 (upd (f_row (a_F X) 0) m kind)) 1) m field)) 2) m 0)) 3 (upd (f_row (f_setrow (f_setrow (f_setrow (a_F X) 0 (upd (f_row (a_F X) 0) m kind)) 1 (upd (f_row (f_setrow (a_F X) 0 (upd (f_row (a_F X) 0) m kind)) 1) m field)) 2 (upd (f_row (f_setrow (f_setrow (a_F X) 0 (upd (f_row (a_F X) 0) m kind)) 1 (upd (f_row (f_setrow (a_F X) 0 (upd (f_row (a_F X) 0) m kind)) 1) m field)) 2) m 0)) 3) m 3)) 4 (upd (f_row (f_setrow (f_setrow (f_setrow (f_setrow (a_F X) 0 (upd (f_row (a_F X) 0) m kind)) 1 (upd (f_row (f_setrow (a_F X) 0 (upd (f_row (a_F X) 0) m kind)) 1) m field)) 2 (upd (f_row (f_setrow (f_setrow (a_F X) 0 (upd (f_row (a_F X) 0) m kind)) 1 (upd (f_row (f_setrow (a_F X) 0 (upd (f_row (a_F X) 0) m kind)) 1) m field)) 2) m 0)) 3 (upd (f_row (f_setrow (f_setrow (f_setrow (a_F X) 0 (upd (f_row (a_F X) 0) m kind)) 1 (upd (f_row (f_setrow (a_F X) 0 (upd (f_row (a_F X) 0) m kind)) 1) m field)) 2 (upd (f_row (f_setrow (f_setrow (a_F X) 0 (upd (f_row (a_F X) 0) m kind)) 1 (upd (f_row (f_setrow (a_F X) 0 (upd (f_row (a_F X) 0) m kind)) 1) m field)) 2) m 0)) 3) m 3)) 4) m 0), a_K X, a_kp X, a_fd X, a_tp X, a_S X) D) K 1 rfl (vp_in_nI (n := (21 + (5 * m)) + 4) (N := 71) (by omega) (by omega)) (by rw [nI_clamp (n := (21 + (5 * m)) + 4) (by omega), up_at _ (by omega) (by omega) _]; rfl) dX4_comes_79 ?_
  refine q_aload_n K 0 dX4_comes_80 rfl ?_
  refine q_get (.ref (B 1)) K ws_X4 0 rfl rfl 0 (by decide) fl_X4_7 rfl dX4_comes_81 ?_
  refine q_iconst 0 K dX4_comes_84 rfl ?_
  refine q_dup2 K dX4_comes_85 rfl rfl ?_
  refine q_iald K 1 rfl (vp_in_nI (n := 0) (N := 71) (by omega) (by omega)) dX4_comes_86 ?_
  refine q_eqi (f_wk (f_setrow (f_setrow (f_setrow (f_setrow (f_setrow (a_F X) 0 (upd (f_row (a_F X) 0) m kind)) 1 (upd (f_row (f_setrow (a_F X) 0 (upd (f_row (a_F X) 0) m kind)) 1) m field)) 2 (upd (f_row (f_setrow (f_setrow (a_F X) 0 (upd (f_row (a_F X) 0) m kind)) 1 (upd (f_row (f_setrow (a_F X) 0 (upd (f_row (a_F X) 0) m kind)) 1) m field)) 2) m 0)) 3 (upd (f_row (f_setrow (f_setrow (f_setrow (a_F X) 0 (upd (f_row (a_F X) 0) m kind)) 1 (upd (f_row (f_setrow (a_F X) 0 (upd (f_row (a_F X) 0) m kind)) 1) m field)) 2 (upd (f_row (f_setrow (f_setrow (a_F X) 0 (upd (f_row (a_F X) 0) m kind)) 1 (upd (f_row (f_setrow (a_F X) 0 (upd (f_row (a_F X) 0) m kind)) 1) m field)) 2) m 0)) 3) m 3)) 4 (upd (f_row (f_setrow (f_setrow (f_setrow (f_setrow (a_F X) 0 (upd (f_row (a_F X) 0) m kind)) 1 (upd (f_row (f_setrow (a_F X) 0 (upd (f_row (a_F X) 0) m kind)) 1) m field)) 2 (upd (f_row (f_setrow (f_setrow (a_F X) 0 (upd (f_row (a_F X) 0) m kind)) 1 (upd (f_row (f_setrow (a_F X) 0 (upd (f_row (a_F X) 0) m kind)) 1) m field)) 2) m 0)) 3 (upd (f_row (f_setrow (f_setrow (f_setrow (a_F X) 0 (upd (f_row (a_F X) 0) m kind)) 1 (upd (f_row (f_setrow (a_F X) 0 (upd (f_row (a_F X) 0) m kind)) 1) m field)) 2 (upd (f_row (f_setrow (f_setrow (a_F X) 0 (upd (f_row (a_F X) 0) m kind)) 1 (upd (f_row (f_setrow (a_F X) 0 (upd (f_row (a_F X) 0) m kind)) 1) m field)) 2) m 0)) 3) m 3)) 4) m 0))) rfl ?_
  refine q_eqi (nI m) hm2 ?_
  refine q_iconst 1 K dX4_comes_87 rfl ?_
  refine q_iadd K dX4_comes_88 ?_
  refine q_eqi (nI (m + 1)) (kn_add m 1) ?_
  refine q_iast (ws' := w_M (k_Z M) B (f_setwk (f_setrow (f_setrow (f_setrow (f_setrow (f_setrow (a_F X) 0 (upd (f_row (a_F X) 0) m kind)) 1 (upd (f_row (f_setrow (a_F X) 0 (upd (f_row (a_F X) 0) m kind)) 1) m field)) 2 (upd (f_row (f_setrow (f_setrow (a_F X) 0 (upd (f_row (a_F X) 0) m kind)) 1 (upd (f_row (f_setrow (a_F X) 0 (upd (f_row (a_F X) 0) m kind)) 1) m field)) 2) m 0)) 3 (upd (f_row (f_setrow (f_setrow (f_setrow (a_F X) 0 (upd (f_row (a_F X) 0) m kind)) 1 (upd (f_row (f_setrow (a_F X) 0 (upd (f_row (a_F X) 0) m kind)) 1) m field)) 2 (upd (f_row (f_setrow (f_setrow (a_F X) 0 (upd (f_row (a_F X) 0) m kind)) 1 (upd (f_row (f_setrow (a_F X) 0 (upd (f_row (a_F X) 0) m kind)) 1) m field)) 2) m 0)) 3) m 3)) 4 (upd (f_row (f_setrow (f_setrow (f_setrow (f_setrow (a_F X) 0 (upd (f_row (a_F X) 0) m kind)) 1 (upd (f_row (f_setrow (a_F X) 0 (upd (f_row (a_F X) 0) m kind)) 1) m field)) 2 (upd (f_row (f_setrow (f_setrow (a_F X) 0 (upd (f_row (a_F X) 0) m kind)) 1 (upd (f_row (f_setrow (a_F X) 0 (upd (f_row (a_F X) 0) m kind)) 1) m field)) 2) m 0)) 3 (upd (f_row (f_setrow (f_setrow (f_setrow (a_F X) 0 (upd (f_row (a_F X) 0) m kind)) 1 (upd (f_row (f_setrow (a_F X) 0 (upd (f_row (a_F X) 0) m kind)) 1) m field)) 2 (upd (f_row (f_setrow (f_setrow (a_F X) 0 (upd (f_row (a_F X) 0) m kind)) 1 (upd (f_row (f_setrow (a_F X) 0 (upd (f_row (a_F X) 0) m kind)) 1) m field)) 2) m 0)) 3) m 3)) 4) m 0)) (nI (m + 1)), a_K X, a_kp X, a_fd X, a_tp X, a_S X) D) K 1 rfl (vp_in_nI (n := 0) (N := 71) (by omega) (by omega)) (by rw [show (0 : Int32).toNatClampNeg = 0 from rfl, up_0 _ _]; rfl) dX4_comes_89 ?_
  exact Rt _ _ (w_M (k_Z M) B (f_setwk (f_setrow (f_setrow (f_setrow (f_setrow (f_setrow (a_F X) 0 (upd (f_row (a_F X) 0) m kind)) 1 (upd (f_row (f_setrow (a_F X) 0 (upd (f_row (a_F X) 0) m kind)) 1) m field)) 2 (upd (f_row (f_setrow (f_setrow (a_F X) 0 (upd (f_row (a_F X) 0) m kind)) 1 (upd (f_row (f_setrow (a_F X) 0 (upd (f_row (a_F X) 0) m kind)) 1) m field)) 2) m 0)) 3 (upd (f_row (f_setrow (f_setrow (f_setrow (a_F X) 0 (upd (f_row (a_F X) 0) m kind)) 1 (upd (f_row (f_setrow (a_F X) 0 (upd (f_row (a_F X) 0) m kind)) 1) m field)) 2 (upd (f_row (f_setrow (f_setrow (a_F X) 0 (upd (f_row (a_F X) 0) m kind)) 1 (upd (f_row (f_setrow (a_F X) 0 (upd (f_row (a_F X) 0) m kind)) 1) m field)) 2) m 0)) 3) m 3)) 4 (upd (f_row (f_setrow (f_setrow (f_setrow (f_setrow (a_F X) 0 (upd (f_row (a_F X) 0) m kind)) 1 (upd (f_row (f_setrow (a_F X) 0 (upd (f_row (a_F X) 0) m kind)) 1) m field)) 2 (upd (f_row (f_setrow (f_setrow (a_F X) 0 (upd (f_row (a_F X) 0) m kind)) 1 (upd (f_row (f_setrow (a_F X) 0 (upd (f_row (a_F X) 0) m kind)) 1) m field)) 2) m 0)) 3 (upd (f_row (f_setrow (f_setrow (f_setrow (a_F X) 0 (upd (f_row (a_F X) 0) m kind)) 1 (upd (f_row (f_setrow (a_F X) 0 (upd (f_row (a_F X) 0) m kind)) 1) m field)) 2 (upd (f_row (f_setrow (f_setrow (a_F X) 0 (upd (f_row (a_F X) 0) m kind)) 1 (upd (f_row (f_setrow (a_F X) 0 (upd (f_row (a_F X) 0) m kind)) 1) m field)) 2) m 0)) 3) m 3)) 4) m 0)) (nI (m + 1)), a_K X, a_kp X, a_fd X, a_tp X, a_S X) D) dX4_comes_90 (rfl)
theorem kv_X4_comes : k_iv yX4_comes cX4_comes 3 none 2 := ⟨⟨im_X4_comes, se_X4_comes⟩, in_X4, co_X4_comes, by decide +kernel⟩
set_option maxHeartbeats 4000000 in
set_option maxRecDepth 100000 in
theorem c_X4_walker (l : Launch) (Z : kz_Z) (B : Nat → Nat) (X : AS) (D : DJ) (m : Nat) (hm : m ≤ 8) (hm2 : f_wk (a_F X) = nI m) (hok : f_ok (a_F X)) (kind field : Int32) : KI l Z yX4_walker cX4_walker 3 .int 2 43 [.ref (B 0), .int kind, .int field] (w_M Z B X D) (fun r w2 => ∃ D2, r = (o_walker X kind field).1 ∧ w2 = w_M Z B (o_walker X kind field).2 D2) := by
  refine ki_of (by decide) [(0, .ref (B 0)), (1, .int kind), (2, .int field)] (Nat.le_of_ble_eq_true rfl) rfl ?_
  intro M e1 e2 K Rt
  subst e1 e2
  refine q_iload_n K 1 dX4_walker_0 rfl ?_
  refine q_i2l K dX4_walker_1 ?_
  refine q_lconst 0 K dX4_walker_2 rfl ?_
  refine q_ldc2 K dX4_walker_3 ct_X4_79 ?_
  refine q_cp (rest := []) K ks_X4_isIn (c_X4_isIn (k_l M) (k_Z M) kind.toInt64 0 6) ml_X4_43 rfl rfl (Nat.le_of_ble_eq_true rfl) ⟨Nat.le_of_ble_eq_true rfl, Nat.le_of_ble_eq_true rfl⟩ dX4_walker_6 (fun r_1 e_r_1 => ?_)
  have e_r_1 : r_1 = if inR kind 0 6 then 1 else 0 := kn_if e_r_1 (kn_i64 (v := kind) (lo := 0) (hi := 6))
  refine q_if_eq 19 K dX4_walker_9 (by decide) (fun c_2 => ?_) (fun c_2 => ?_)
  · have c_2 : ¬ (inR kind 0 6) := (kn_eq e_r_1).mp c_2
    refine q_aload_n K 0 dX4_walker_19 rfl ?_
    refine q_ldc K dX4_walker_20 ct_X4_40 ?_
    refine q_eqi (r_fin 0) (by decide) ?_
    refine q_wI (q0 := 0) (As := [.int (r_fin 0)]) (rest := []) K kv_X4_finds (c_X4_finds (k_l M) (k_Z M) B X D 0 (by omega)) rfl rfl ml_X4_48 rfl rfl (Nat.le_of_ble_eq_true rfl) ⟨Nat.le_of_ble_eq_true rfl, Nat.le_of_ble_eq_true rfl⟩ dX4_walker_22 (fun r_4 w2 h_3 => ?_)
    obtain ⟨e_r_4, rfl⟩ := h_3
    refine q_eqi (r_fin 0) e_r_4 ?_
    refine q_ws (ws' := w_M (k_Z M) B (a_F X, a_K X, a_kp X, fd_up (a_fd X) 0, a_tp X, a_S X) D) rfl ?_
    exact Rt _ _ (r_fin 0) (w_M (k_Z M) B (a_F X, a_K X, a_kp X, fd_up (a_fd X) 0, a_tp X, a_S X) D) dX4_walker_25 rfl (⟨D, by simp only [o_walker, a_fin, if_neg c_2, e_r_1] <;> rfl, by simp only [o_walker, a_fin, if_neg c_2] <;> rfl⟩)
  · have c_2 : inR kind 0 6 := (kn_ne e_r_1).mp c_2
    refine q_iload_n K 2 dX4_walker_12 rfl ?_
    refine q_cp (rest := []) K ks_X4_isField (c_X4_isField (k_l M) (k_Z M) field) ml_X4_52 rfl rfl (Nat.le_of_ble_eq_true rfl) ⟨Nat.le_of_ble_eq_true rfl, Nat.le_of_ble_eq_true rfl⟩ dX4_walker_13 (fun r_5 e_r_5 => ?_)
    refine q_if_ne 26 K dX4_walker_16 (by decide) (fun c_6 => ?_) (fun c_6 => ?_)
    · have c_6 : inR field 0 8 := (kn_ne e_r_5).mp c_6
      refine q_aload_n K 0 dX4_walker_26 rfl ?_
      refine q_get (.ref (B 1)) K ws_X4 0 rfl rfl 0 (by decide) fl_X4_7 rfl dX4_walker_27 ?_
      refine q_iconst 0 K dX4_walker_30 rfl ?_
      refine q_iald K 1 rfl (vp_in_nI (n := 0) (N := 71) (by omega) (by omega)) dX4_walker_31 ?_
      refine q_eqi (f_wk (a_F X)) rfl ?_
      refine q_eqi (nI m) hm2 ?_
      refine q_bipush 8 K dX4_walker_32 rfl ?_
      refine q_icmp_ne 44 K dX4_walker_34 (by decide) (fun c_7 => ?_) (fun c_7 => ?_)
      · have c_7n : ¬ (m = 8) := fun h9 => c_7 ((nI_eq (a := m) (b := 8) (by omega) (by omega)).mpr h9)
        refine q_aload_n K 0 dX4_walker_44 rfl ?_
        refine q_iload_n K 1 dX4_walker_45 rfl ?_
        refine q_iload_n K 2 dX4_walker_46 rfl ?_
        refine q_wV (q0 := 0) (As := [.int kind, .int field]) (rest := []) K kv_X4_comes (c_X4_comes (k_l M) (k_Z M) B X D m (by omega) hm2 kind field) rfl rfl ml_X4_82 rfl rfl (Nat.le_of_ble_eq_true rfl) ⟨Nat.le_of_ble_eq_true rfl, Nat.le_of_ble_eq_true rfl⟩ dX4_walker_47 (fun w2 h_8 => ?_)
        obtain rfl := h_8
        refine q_ws (ws' := w_M (k_Z M) B (f_add (a_F X) kind field m, a_K X, a_kp X, a_fd X, a_tp X, a_S X) D) rfl ?_
        refine q_aload_n K 0 dX4_walker_50 rfl ?_
        refine q_get (.ref (B 1)) K ws_X4 0 rfl rfl 0 (by decide) fl_X4_7 rfl dX4_walker_51 ?_
        refine q_iconst 0 K dX4_walker_54 rfl ?_
        refine q_iald K 1 rfl (vp_in_nI (n := 0) (N := 71) (by omega) (by omega)) dX4_walker_55 ?_
        refine q_eqi (f_wk (f_add (a_F X) kind field m)) rfl ?_
        refine q_iconst 1 K dX4_walker_56 rfl ?_
        refine q_isub K dX4_walker_57 ?_
        refine q_eqi (nI m) (nI_pred m) ?_
        exact Rt _ _ (nI m) (w_M (k_Z M) B (f_add (a_F X) kind field m, a_K X, a_kp X, a_fd X, a_tp X, a_S X) D) dX4_walker_58 rfl (⟨D, by simp only [o_walker, a_fin, if_pos c_2, if_pos c_6, if_neg c_7, e_r_1, e_r_5, f_mm hm hm2, if_neg (show ¬ m = 8 by omega), hm2], by simp only [o_walker, a_fin, if_pos c_2, if_pos c_6, if_neg c_7, e_r_1, e_r_5, f_mm hm hm2, if_neg (show ¬ m = 8 by omega)] <;> rfl⟩)
      · have c_7n : m = 8 := (nI_eq (a := m) (b := 8) (by omega) (by omega)).mp c_7
        refine q_aload_n K 0 dX4_walker_37 rfl ?_
        refine q_ldc K dX4_walker_38 ct_X4_81 ?_
        refine q_eqi (r_fin 1) (by decide) ?_
        refine q_wI (q0 := 0) (As := [.int (r_fin 1)]) (rest := []) K kv_X4_finds (c_X4_finds (k_l M) (k_Z M) B X D 1 (by omega)) rfl rfl ml_X4_48 rfl rfl (Nat.le_of_ble_eq_true rfl) ⟨Nat.le_of_ble_eq_true rfl, Nat.le_of_ble_eq_true rfl⟩ dX4_walker_40 (fun r_11 w2 h_10 => ?_)
        obtain ⟨e_r_11, rfl⟩ := h_10
        refine q_eqi (r_fin 1) e_r_11 ?_
        refine q_ws (ws' := w_M (k_Z M) B (a_F X, a_K X, a_kp X, fd_up (a_fd X) 1, a_tp X, a_S X) D) rfl ?_
        exact Rt _ _ (r_fin 1) (w_M (k_Z M) B (a_F X, a_K X, a_kp X, fd_up (a_fd X) 1, a_tp X, a_S X) D) dX4_walker_43 rfl (⟨D, by simp only [o_walker, a_fin, if_pos c_2, if_pos c_6, if_pos c_7, e_r_1, e_r_5, f_mm hm hm2, if_pos (show m = 8 by omega)], by simp only [o_walker, a_fin, if_pos c_2, if_pos c_6, if_pos c_7, e_r_1, e_r_5, f_mm hm hm2, if_pos (show m = 8 by omega)] <;> rfl⟩)
    · have c_6 : ¬ (inR field 0 8) := (kn_eq e_r_5).mp c_6
      refine q_aload_n K 0 dX4_walker_19 rfl ?_
      refine q_ldc K dX4_walker_20 ct_X4_40 ?_
      refine q_eqi (r_fin 0) (by decide) ?_
      refine q_wI (q0 := 0) (As := [.int (r_fin 0)]) (rest := []) K kv_X4_finds (c_X4_finds (k_l M) (k_Z M) B X D 0 (by omega)) rfl rfl ml_X4_48 rfl rfl (Nat.le_of_ble_eq_true rfl) ⟨Nat.le_of_ble_eq_true rfl, Nat.le_of_ble_eq_true rfl⟩ dX4_walker_22 (fun r_13 w2 h_12 => ?_)
      obtain ⟨e_r_13, rfl⟩ := h_12
      refine q_eqi (r_fin 0) e_r_13 ?_
      refine q_ws (ws' := w_M (k_Z M) B (a_F X, a_K X, a_kp X, fd_up (a_fd X) 0, a_tp X, a_S X) D) rfl ?_
      exact Rt _ _ (r_fin 0) (w_M (k_Z M) B (a_F X, a_K X, a_kp X, fd_up (a_fd X) 0, a_tp X, a_S X) D) dX4_walker_25 rfl (⟨D, by simp only [o_walker, a_fin, if_pos c_2, if_neg c_6, e_r_1, e_r_5] <;> rfl, by simp only [o_walker, a_fin, if_pos c_2, if_neg c_6] <;> rfl⟩)
theorem kv_X4_walker : k_iv yX4_walker cX4_walker 3 (some .int) 2 := ⟨⟨im_X4_walker, se_X4_walker⟩, in_X4, co_X4_walker, by decide +kernel⟩
set_option maxHeartbeats 4000000 in
set_option maxRecDepth 100000 in
theorem c_X4_of (l : Launch) (Z : kz_Z) (B : Nat → Nat) (X : AS) (D : DJ) (m : Nat) (hm : m ≤ 8) (hm2 : f_wk (a_F X) = nI m) (hok : f_ok (a_F X)) (w what : Int32) : KI l Z yX4_of cX4_of 3 .int 2 44 [.ref (B 0), .int w, .int what] (w_M Z B X D) (fun r w2 => ∃ D2, r = (o_of X w what).1 ∧ w2 = w_M Z B (o_of X w what).2 D2) := by
  refine ki_of (by decide) [(0, .ref (B 0)), (1, .int w), (2, .int what)] (Nat.le_of_ble_eq_true rfl) rfl ?_
  intro M e1 e2 K Rt
  subst e1 e2
  refine q_aload_n K 0 dX4_of_0 rfl ?_
  refine q_iload_n K 1 dX4_of_1 rfl ?_
  refine q_wI (q0 := 0) (As := [.int w]) (rest := []) K kv_X4_isWalker (c_X4_isWalker (k_l M) (k_Z M) B X D m hm hm2 w) rfl rfl ml_X4_89 rfl rfl (Nat.le_of_ble_eq_true rfl) ⟨Nat.le_of_ble_eq_true rfl, Nat.le_of_ble_eq_true rfl⟩ dX4_of_2 (fun r_2 w2 h_1 => ?_)
  obtain ⟨e_r_2, rfl⟩ := h_1
  refine q_if_eq 20 K dX4_of_5 (by decide) (fun c_3 => ?_) (fun c_3 => ?_)
  · have c_3 : ¬ (isW X w) := (kn_eq e_r_2).mp c_3
    refine q_aload_n K 0 dX4_of_20 rfl ?_
    refine q_ldc K dX4_of_21 ct_X4_40 ?_
    refine q_eqi (r_fin 0) (by decide) ?_
    refine q_wI (q0 := 0) (As := [.int (r_fin 0)]) (rest := []) K kv_X4_finds (c_X4_finds (k_l M) (k_Z M) B X D 0 (by omega)) rfl rfl ml_X4_48 rfl rfl (Nat.le_of_ble_eq_true rfl) ⟨Nat.le_of_ble_eq_true rfl, Nat.le_of_ble_eq_true rfl⟩ dX4_of_23 (fun r_5 w2 h_4 => ?_)
    obtain ⟨e_r_5, rfl⟩ := h_4
    refine q_eqi (r_fin 0) e_r_5 ?_
    refine q_ws (ws' := w_M (k_Z M) B (a_F X, a_K X, a_kp X, fd_up (a_fd X) 0, a_tp X, a_S X) D) rfl ?_
    exact Rt _ _ (r_fin 0) (w_M (k_Z M) B (a_F X, a_K X, a_kp X, fd_up (a_fd X) 0, a_tp X, a_S X) D) dX4_of_26 rfl (⟨D, by simp only [o_of, a_fin, if_neg c_3, e_r_2] <;> rfl, by simp only [o_of, a_fin, if_neg c_3] <;> rfl⟩)
  · have c_3 : isW X w := (kn_ne e_r_2).mp c_3
    obtain ⟨u, h_u, e_u⟩ := isW_nat hm hm2 c_3
    subst e_u
    refine q_iload_n K 2 dX4_of_8 rfl ?_
    refine q_i2l K dX4_of_9 ?_
    refine q_lconst 0 K dX4_of_10 rfl ?_
    refine q_ldc2 K dX4_of_11 ct_X4_92 ?_
    refine q_cp (rest := []) K ks_X4_isIn (c_X4_isIn (k_l M) (k_Z M) what.toInt64 0 5) ml_X4_43 rfl rfl (Nat.le_of_ble_eq_true rfl) ⟨Nat.le_of_ble_eq_true rfl, Nat.le_of_ble_eq_true rfl⟩ dX4_of_14 (fun r_6 e_r_6 => ?_)
    have e_r_6 : r_6 = if inR what 0 5 then 1 else 0 := kn_if e_r_6 (kn_i64 (v := what) (lo := 0) (hi := 5))
    refine q_if_ne 27 K dX4_of_17 (by decide) (fun c_7 => ?_) (fun c_7 => ?_)
    · have c_7 : inR what 0 5 := (kn_ne e_r_6).mp c_7
      obtain ⟨k, h_k, e_k⟩ := kn_rng (n := 5) c_7 rfl
      subst e_k
      refine q_iload_n K 2 dX4_of_27 rfl ?_
      refine q_iconst 5 K dX4_of_28 rfl ?_
      refine q_icmp_ge 41 K dX4_of_29 (by decide) (fun c_8 => ?_) (fun c_8 => ?_)
      · have c_8n : 5 ≤ k := (nI_leI (a := 5) (b := k) (by omega) (by omega)).mp c_8
        refine q_aload_n K 0 dX4_of_41 rfl ?_
        refine q_iload_n K 1 dX4_of_42 rfl ?_
        refine q_wI (q0 := 0) (As := [.int (nI u)]) (rest := []) K kv_X4_goesFar (c_X4_goesFar (k_l M) (k_Z M) B X D u (by omega)) rfl rfl ml_X4_94 rfl rfl (Nat.le_of_ble_eq_true rfl) ⟨Nat.le_of_ble_eq_true rfl, Nat.le_of_ble_eq_true rfl⟩ dX4_of_43 (fun r_10 w2 h_9 => ?_)
        obtain ⟨e_r_10, rfl⟩ := h_9
        refine q_eqi (f_goes (a_F X) u) e_r_10 ?_
        exact Rt _ _ (f_goes (a_F X) u) (w_M (k_Z M) B X D) dX4_of_46 rfl (⟨D, by simp only [o_of, a_fin, if_pos c_3, if_pos c_7, if_pos c_8, e_r_2, e_r_6, nI_clamp (n := u) (by omega), nI_clamp (n := k) (by omega), if_pos (show nI k = 5 from congrArg nI (show k = 5 by omega))] <;> rfl, by simp only [o_of, a_fin, if_pos c_3, if_pos c_7, if_pos c_8, nI_clamp (n := u) (by omega), nI_clamp (n := k) (by omega), if_pos (show nI k = 5 from congrArg nI (show k = 5 by omega))] <;> rfl⟩)
      · have c_8n : ¬ (5 ≤ k) := fun h9 => c_8 ((nI_leI (a := 5) (b := k) (by omega) (by omega)).mpr h9)
        refine q_aload_n K 0 dX4_of_32 rfl ?_
        refine q_iload_n K 1 dX4_of_33 rfl ?_
        refine q_iload_n K 2 dX4_of_34 rfl ?_
        refine q_wI (q0 := 0) (As := [.int (nI u), .int (nI k)]) (rest := []) K kv_X4_its (c_X4_its (k_l M) (k_Z M) B X D u k (by omega) (by omega)) rfl rfl ml_X4_62 rfl rfl (Nat.le_of_ble_eq_true rfl) ⟨Nat.le_of_ble_eq_true rfl, Nat.le_of_ble_eq_true rfl⟩ dX4_of_35 (fun r_12 w2 h_11 => ?_)
        obtain ⟨e_r_12, rfl⟩ := h_11
        refine q_eqi (f_row (a_F X) k u) e_r_12 ?_
        refine q_goto 46 K dX4_of_38 (by decide) ?_
        exact Rt _ _ (f_row (a_F X) k u) (w_M (k_Z M) B X D) dX4_of_46 rfl (⟨D, by simp only [o_of, a_fin, if_pos c_3, if_pos c_7, if_neg c_8, e_r_2, e_r_6, nI_clamp (n := u) (by omega), nI_clamp (n := k) (by omega), if_neg (show ¬ nI k = 5 from fun h9 => by have := (nI_eq (a := k) (b := 5) (by omega) (by omega)).mp h9; omega)] <;> rfl, by simp only [o_of, a_fin, if_pos c_3, if_pos c_7, if_neg c_8, nI_clamp (n := u) (by omega), nI_clamp (n := k) (by omega), if_neg (show ¬ nI k = 5 from fun h9 => by have := (nI_eq (a := k) (b := 5) (by omega) (by omega)).mp h9; omega)] <;> rfl⟩)
    · have c_7 : ¬ (inR what 0 5) := (kn_eq e_r_6).mp c_7
      refine q_aload_n K 0 dX4_of_20 rfl ?_
      refine q_ldc K dX4_of_21 ct_X4_40 ?_
      refine q_eqi (r_fin 0) (by decide) ?_
      refine q_wI (q0 := 0) (As := [.int (r_fin 0)]) (rest := []) K kv_X4_finds (c_X4_finds (k_l M) (k_Z M) B X D 0 (by omega)) rfl rfl ml_X4_48 rfl rfl (Nat.le_of_ble_eq_true rfl) ⟨Nat.le_of_ble_eq_true rfl, Nat.le_of_ble_eq_true rfl⟩ dX4_of_23 (fun r_14 w2 h_13 => ?_)
      obtain ⟨e_r_14, rfl⟩ := h_13
      refine q_eqi (r_fin 0) e_r_14 ?_
      refine q_ws (ws' := w_M (k_Z M) B (a_F X, a_K X, a_kp X, fd_up (a_fd X) 0, a_tp X, a_S X) D) rfl ?_
      exact Rt _ _ (r_fin 0) (w_M (k_Z M) B (a_F X, a_K X, a_kp X, fd_up (a_fd X) 0, a_tp X, a_S X) D) dX4_of_26 rfl (⟨D, by simp only [o_of, a_fin, if_pos c_3, if_neg c_7, e_r_2, e_r_6, nI_clamp (n := u) (by omega)] <;> rfl, by simp only [o_of, a_fin, if_pos c_3, if_neg c_7, nI_clamp (n := u) (by omega)] <;> rfl⟩)
theorem kv_X4_of : k_iv yX4_of cX4_of 3 (some .int) 2 := ⟨⟨im_X4_of, se_X4_of⟩, in_X4, co_X4_of, by decide +kernel⟩
set_option maxHeartbeats 4000000 in
set_option maxRecDepth 100000 in
theorem c_X4_greatestOf (l : Launch) (Z : kz_Z) (k : Nat) (hk : k ≤ 4) : KP l Z yX4_greatestOf cX4_greatestOf 1 .int 0 0 [.int (nI k)] (fun r => r = o_most k) := by
  refine ki_of (by decide) [(0, .int (nI k))] (Nat.le_of_ble_eq_true rfl) rfl ?_
  intro M e1 e2 K Rt
  subst e1 e2
  refine q_iload_n K 0 dX4_greatestOf_0 rfl ?_
  refine q_if_ne 9 K dX4_greatestOf_1 (by decide) (fun c_1 => ?_) (fun c_1 => ?_)
  · have c_1n : ¬ (k = 0) := fun h9 => c_1 ((nI_eq (a := k) (b := 0) (by omega) (by omega)).mpr h9)
    refine q_iload_n K 0 dX4_greatestOf_9 rfl ?_
    refine q_iconst 1 K dX4_greatestOf_10 rfl ?_
    refine q_icmp_ne 19 K dX4_greatestOf_11 (by decide) (fun c_2 => ?_) (fun c_2 => ?_)
    · have c_2n : ¬ (k = 1) := fun h9 => c_2 ((nI_eq (a := k) (b := 1) (by omega) (by omega)).mpr h9)
      refine q_iload_n K 0 dX4_greatestOf_19 rfl ?_
      refine q_iconst 2 K dX4_greatestOf_20 rfl ?_
      refine q_icmp_ne 28 K dX4_greatestOf_21 (by decide) (fun c_3 => ?_) (fun c_3 => ?_)
      · have c_3n : ¬ (k = 2) := fun h9 => c_3 ((nI_eq (a := k) (b := 2) (by omega) (by omega)).mpr h9)
        refine q_iload_n K 0 dX4_greatestOf_28 rfl ?_
        refine q_iconst 3 K dX4_greatestOf_29 rfl ?_
        refine q_icmp_ne 38 K dX4_greatestOf_30 (by decide) (fun c_4 => ?_) (fun c_4 => ?_)
        · have c_4n : ¬ (k = 3) := fun h9 => c_4 ((nI_eq (a := k) (b := 3) (by omega) (by omega)).mpr h9)
          refine q_sipush 9999 K dX4_greatestOf_38 rfl ?_
          exact Rt _ _ 9999 ([]) dX4_greatestOf_41 rfl (⟨by rw [show k = 4 by omega] <;> rfl, rfl⟩)
        · have c_4n : k = 3 := (nI_eq (a := k) (b := 3) (by omega) (by omega)).mp c_4
          refine q_bipush 9 K dX4_greatestOf_33 rfl ?_
          refine q_goto 41 K dX4_greatestOf_35 (by decide) ?_
          exact Rt _ _ 9 ([]) dX4_greatestOf_41 rfl (⟨by rw [show k = 3 by omega] <;> rfl, rfl⟩)
      · have c_3n : k = 2 := (nI_eq (a := k) (b := 2) (by omega) (by omega)).mp c_3
        refine q_iconst 1 K dX4_greatestOf_24 rfl ?_
        refine q_goto 41 K dX4_greatestOf_25 (by decide) ?_
        exact Rt _ _ 1 ([]) dX4_greatestOf_41 rfl (⟨by rw [show k = 2 by omega] <;> rfl, rfl⟩)
    · have c_2n : k = 1 := (nI_eq (a := k) (b := 1) (by omega) (by omega)).mp c_2
      refine q_bipush 8 K dX4_greatestOf_14 rfl ?_
      refine q_goto 41 K dX4_greatestOf_16 (by decide) ?_
      exact Rt _ _ 8 ([]) dX4_greatestOf_41 rfl (⟨by rw [show k = 1 by omega] <;> rfl, rfl⟩)
  · have c_1n : k = 0 := (nI_eq (a := k) (b := 0) (by omega) (by omega)).mp c_1
    refine q_bipush 6 K dX4_greatestOf_4 rfl ?_
    refine q_goto 41 K dX4_greatestOf_6 (by decide) ?_
    exact Rt _ _ 6 ([]) dX4_greatestOf_41 rfl (⟨by rw [show k = 0 by omega] <;> rfl, rfl⟩)
theorem ks_X4_greatestOf : k_is yX4_greatestOf cX4_greatestOf 1 (some .int) 1 := ⟨sm_X4_greatestOf, in_X4, co_X4_greatestOf, by decide +kernel⟩
set_option maxHeartbeats 4000000 in
set_option maxRecDepth 100000 in
theorem c_X4_change (l : Launch) (Z : kz_Z) (B : Nat → Nat) (X : AS) (D : DJ) (m : Nat) (hm : m ≤ 8) (hm2 : f_wk (a_F X) = nI m) (hok : f_ok (a_F X)) (w what v : Int32) : KI l Z yX4_change cX4_change 5 .int 1 25 [.ref (B 0), .int w, .int what, .int v] (w_M Z B X D) (fun r w2 => ∃ D2, r = (o_change X w what v).1 ∧ w2 = w_M Z B (o_change X w what v).2 D2) := by
  refine ki_of (by decide) [(0, .ref (B 0)), (1, .int w), (2, .int what), (3, .int v)] (Nat.le_of_ble_eq_true rfl) rfl ?_
  intro M e1 e2 K Rt
  subst e1 e2
  refine q_aload_n K 0 dX4_change_0 rfl ?_
  refine q_iload_n K 1 dX4_change_1 rfl ?_
  refine q_wI (q0 := 0) (As := [.int w]) (rest := []) K kv_X4_isWalker (c_X4_isWalker (k_l M) (k_Z M) B X D m hm hm2 w) rfl rfl ml_X4_89 rfl rfl (Nat.le_of_ble_eq_true rfl) ⟨Nat.le_of_ble_eq_true rfl, Nat.le_of_ble_eq_true rfl⟩ dX4_change_2 (fun r_2 w2 h_1 => ?_)
  obtain ⟨e_r_2, rfl⟩ := h_1
  refine q_if_eq 38 K dX4_change_5 (by decide) (fun c_3 => ?_) (fun c_3 => ?_)
  · have c_3 : ¬ (isW X w) := (kn_eq e_r_2).mp c_3
    refine q_iconst 0 K dX4_change_38 rfl ?_
    refine q_istore (lv' := [(4, .int 0), (0, .ref (B 0)), (1, .int w), (2, .int what), (3, .int v)]) K dX4_change_39 (by decide) rfl ?_
    refine q_iload K 0 dX4_change_41 rfl ?_
    refine q_if_eq 59 K dX4_change_43 (by decide) (fun c_0 => ?_) (fun c_0 => absurd c_0 (by decide))
    refine q_aload_n K 1 dX4_change_59 rfl ?_
    refine q_ldc K dX4_change_60 ct_X4_40 ?_
    refine q_eqi (r_fin 0) (by decide) ?_
    refine q_wI (q0 := 0) (As := [.int (r_fin 0)]) (rest := []) K kv_X4_finds (c_X4_finds (k_l M) (k_Z M) B X D 0 (by omega)) rfl rfl ml_X4_48 rfl rfl (Nat.le_of_ble_eq_true rfl) ⟨Nat.le_of_ble_eq_true rfl, Nat.le_of_ble_eq_true rfl⟩ dX4_change_62 (fun r_5 w2 h_4 => ?_)
    obtain ⟨e_r_5, rfl⟩ := h_4
    refine q_eqi (r_fin 0) e_r_5 ?_
    refine q_ws (ws' := w_M (k_Z M) B (a_F X, a_K X, a_kp X, fd_up (a_fd X) 0, a_tp X, a_S X) D) rfl ?_
    exact Rt _ _ (r_fin 0) (w_M (k_Z M) B (a_F X, a_K X, a_kp X, fd_up (a_fd X) 0, a_tp X, a_S X) D) dX4_change_65 rfl (⟨D, by simp only [o_change, a_fin, if_neg c_3, e_r_2] <;> rfl, by simp only [o_change, a_fin, if_neg c_3] <;> rfl⟩)
  · have c_3 : isW X w := (kn_ne e_r_2).mp c_3
    obtain ⟨u, h_u, e_u⟩ := isW_nat hm hm2 c_3
    subst e_u
    refine q_iload_n K 2 dX4_change_8 rfl ?_
    refine q_i2l K dX4_change_9 ?_
    refine q_lconst 0 K dX4_change_10 rfl ?_
    refine q_ldc2 K dX4_change_11 ct_X4_97 ?_
    refine q_cp (rest := []) K ks_X4_isIn (c_X4_isIn (k_l M) (k_Z M) what.toInt64 0 4) ml_X4_43 rfl rfl (Nat.le_of_ble_eq_true rfl) ⟨Nat.le_of_ble_eq_true rfl, Nat.le_of_ble_eq_true rfl⟩ dX4_change_14 (fun r_6 e_r_6 => ?_)
    have e_r_6 : r_6 = if inR what 0 4 then 1 else 0 := kn_if e_r_6 (kn_i64 (v := what) (lo := 0) (hi := 4))
    refine q_if_eq 38 K dX4_change_17 (by decide) (fun c_7 => ?_) (fun c_7 => ?_)
    · have c_7 : ¬ (inR what 0 4) := (kn_eq e_r_6).mp c_7
      refine q_iconst 0 K dX4_change_38 rfl ?_
      refine q_istore (lv' := [(4, .int 0), (0, .ref (B 0)), (1, .int (nI u)), (2, .int what), (3, .int v)]) K dX4_change_39 (by decide) rfl ?_
      refine q_iload K 0 dX4_change_41 rfl ?_
      refine q_if_eq 59 K dX4_change_43 (by decide) (fun c_0 => ?_) (fun c_0 => absurd c_0 (by decide))
      refine q_aload_n K 1 dX4_change_59 rfl ?_
      refine q_ldc K dX4_change_60 ct_X4_40 ?_
      refine q_eqi (r_fin 0) (by decide) ?_
      refine q_wI (q0 := 0) (As := [.int (r_fin 0)]) (rest := []) K kv_X4_finds (c_X4_finds (k_l M) (k_Z M) B X D 0 (by omega)) rfl rfl ml_X4_48 rfl rfl (Nat.le_of_ble_eq_true rfl) ⟨Nat.le_of_ble_eq_true rfl, Nat.le_of_ble_eq_true rfl⟩ dX4_change_62 (fun r_9 w2 h_8 => ?_)
      obtain ⟨e_r_9, rfl⟩ := h_8
      refine q_eqi (r_fin 0) e_r_9 ?_
      refine q_ws (ws' := w_M (k_Z M) B (a_F X, a_K X, a_kp X, fd_up (a_fd X) 0, a_tp X, a_S X) D) rfl ?_
      exact Rt _ _ (r_fin 0) (w_M (k_Z M) B (a_F X, a_K X, a_kp X, fd_up (a_fd X) 0, a_tp X, a_S X) D) dX4_change_65 rfl (⟨D, by simp only [o_change, a_fin, if_pos c_3, if_neg c_7, e_r_2, e_r_6, nI_clamp (n := u) (by omega)] <;> rfl, by simp only [o_change, a_fin, if_pos c_3, if_neg c_7, nI_clamp (n := u) (by omega)] <;> rfl⟩)
    · have c_7 : inR what 0 4 := (kn_ne e_r_6).mp c_7
      obtain ⟨k, h_k, e_k⟩ := kn_rng (n := 4) c_7 rfl
      subst e_k
      refine q_iload_n K 3 dX4_change_20 rfl ?_
      refine q_i2l K dX4_change_21 ?_
      refine q_lconst 0 K dX4_change_22 rfl ?_
      refine q_iload_n K 2 dX4_change_23 rfl ?_
      refine q_cp (rest := [.long 0, .long v.toInt64]) K ks_X4_greatestOf (c_X4_greatestOf (k_l M) (k_Z M) k (by omega)) ml_X4_99 rfl rfl (Nat.le_of_ble_eq_true rfl) ⟨Nat.le_of_ble_eq_true rfl, Nat.le_of_ble_eq_true rfl⟩ dX4_change_24 (fun r_10 e_r_10 => ?_)
      refine q_eqi (o_most k) e_r_10 ?_
      refine q_i2l K dX4_change_27 ?_
      refine q_cp (rest := []) K ks_X4_isIn (c_X4_isIn (k_l M) (k_Z M) v.toInt64 0 ((o_most k).toInt64)) ml_X4_43 rfl rfl (Nat.le_of_ble_eq_true rfl) ⟨Nat.le_of_ble_eq_true rfl, Nat.le_of_ble_eq_true rfl⟩ dX4_change_28 (fun r_11 e_r_11 => ?_)
      have e_r_11 : r_11 = if inR v 0 (o_most k) then 1 else 0 := kn_if e_r_11 (kn_i64 (v := v) (lo := 0) (hi := (o_most k)))
      refine q_if_eq 38 K dX4_change_31 (by decide) (fun c_12 => ?_) (fun c_12 => ?_)
      · have c_12 : ¬ (inR v 0 (o_most k)) := (kn_eq e_r_11).mp c_12
        refine q_iconst 0 K dX4_change_38 rfl ?_
        refine q_istore (lv' := [(4, .int 0), (0, .ref (B 0)), (1, .int (nI u)), (2, .int (nI k)), (3, .int v)]) K dX4_change_39 (by decide) rfl ?_
        refine q_iload K 0 dX4_change_41 rfl ?_
        refine q_if_eq 59 K dX4_change_43 (by decide) (fun c_0 => ?_) (fun c_0 => absurd c_0 (by decide))
        refine q_aload_n K 1 dX4_change_59 rfl ?_
        refine q_ldc K dX4_change_60 ct_X4_40 ?_
        refine q_eqi (r_fin 0) (by decide) ?_
        refine q_wI (q0 := 0) (As := [.int (r_fin 0)]) (rest := []) K kv_X4_finds (c_X4_finds (k_l M) (k_Z M) B X D 0 (by omega)) rfl rfl ml_X4_48 rfl rfl (Nat.le_of_ble_eq_true rfl) ⟨Nat.le_of_ble_eq_true rfl, Nat.le_of_ble_eq_true rfl⟩ dX4_change_62 (fun r_14 w2 h_13 => ?_)
        obtain ⟨e_r_14, rfl⟩ := h_13
        refine q_eqi (r_fin 0) e_r_14 ?_
        refine q_ws (ws' := w_M (k_Z M) B (a_F X, a_K X, a_kp X, fd_up (a_fd X) 0, a_tp X, a_S X) D) rfl ?_
        exact Rt _ _ (r_fin 0) (w_M (k_Z M) B (a_F X, a_K X, a_kp X, fd_up (a_fd X) 0, a_tp X, a_S X) D) dX4_change_65 rfl (⟨D, by simp only [o_change, a_fin, if_pos c_3, if_pos c_7, if_neg c_12, e_r_2, e_r_6, e_r_11, nI_clamp (n := u) (by omega), nI_clamp (n := k) (by omega)] <;> rfl, by simp only [o_change, a_fin, if_pos c_3, if_pos c_7, if_neg c_12, nI_clamp (n := u) (by omega), nI_clamp (n := k) (by omega)] <;> rfl⟩)
      · have c_12 : inR v 0 (o_most k) := (kn_ne e_r_11).mp c_12
        refine q_iconst 1 K dX4_change_34 rfl ?_
        refine q_goto 39 K dX4_change_35 (by decide) ?_
        refine q_istore (lv' := [(4, .int 1), (0, .ref (B 0)), (1, .int (nI u)), (2, .int (nI k)), (3, .int v)]) K dX4_change_39 (by decide) rfl ?_
        refine q_iload K 0 dX4_change_41 rfl ?_
        refine q_if_eq 59 K dX4_change_43 (by decide) (fun c_0 => absurd c_0 (by decide)) (fun c_0 => ?_)
        refine q_aload_n K 1 dX4_change_46 rfl ?_
        refine q_iload_n K 2 dX4_change_47 rfl ?_
        refine q_iload_n K 3 dX4_change_48 rfl ?_
        refine q_cp (rest := [.ref (B 0)]) K ks_X4_at (c_X4_at (k_l M) (k_Z M) u k) ml_X4_76 rfl rfl (Nat.le_of_ble_eq_true rfl) ⟨Nat.le_of_ble_eq_true rfl, Nat.le_of_ble_eq_true rfl⟩ dX4_change_49 (fun r_15 e_r_15 => ?_)
        refine q_eqi (nI ((21 + (5 * u)) + k)) e_r_15 ?_
        refine q_iload_n K 4 dX4_change_52 rfl ?_
        refine q_wI (q0 := 0) (As := [.int (nI ((21 + (5 * u)) + k)), .int v]) (rest := []) K kv_X4_becomes (c_X4_becomes (k_l M) (k_Z M) B X D ((21 + (5 * u)) + k) (by omega) v) rfl rfl ml_X4_58 rfl rfl (Nat.le_of_ble_eq_true rfl) ⟨Nat.le_of_ble_eq_true rfl, Nat.le_of_ble_eq_true rfl⟩ dX4_change_53 (fun r_17 w2 h_16 => ?_)
        obtain ⟨e_r_17, rfl⟩ := h_16
        refine q_eqi (f_row (a_F X) k u) (e_r_17.trans (rw_at _ (by omega) (by omega))) ?_
        refine q_ws (ws' := w_M (k_Z M) B (f_setrow (a_F X) k (upd (f_row (a_F X) k) u v), a_K X, a_kp X, a_fd X, a_tp X, a_S X) D) (by rw [up_at _ (by omega) (by omega) _]; rfl) ?_
        refine q_goto 65 K dX4_change_56 (by decide) ?_
        exact Rt _ _ (f_row (a_F X) k u) (w_M (k_Z M) B (f_setrow (a_F X) k (upd (f_row (a_F X) k) u v), a_K X, a_kp X, a_fd X, a_tp X, a_S X) D) dX4_change_65 rfl (⟨D, by simp only [o_change, a_fin, if_pos c_3, if_pos c_7, if_pos c_12, e_r_2, e_r_6, e_r_11, nI_clamp (n := u) (by omega), nI_clamp (n := k) (by omega)] <;> rfl, by simp only [o_change, a_fin, if_pos c_3, if_pos c_7, if_pos c_12, nI_clamp (n := u) (by omega), nI_clamp (n := k) (by omega)] <;> rfl⟩)
theorem kv_X4_change : k_iv yX4_change cX4_change 5 (some .int) 3 := ⟨⟨im_X4_change, se_X4_change⟩, in_X4, co_X4_change, by decide +kernel⟩
set_option maxHeartbeats 4000000 in
set_option maxRecDepth 100000 in
theorem c_X4_leaves (l : Launch) (Z : kz_Z) (B : Nat → Nat) (X : AS) (D : DJ) (m : Nat) (hm : m ≤ 8) (hm2 : f_wk (a_F X) = nI m) (hok : f_ok (a_F X)) (w s what : Int32) : KI l Z yX4_leaves cX4_leaves 4 .int 2 47 [.ref (B 0), .int w, .int s, .int what] (w_M Z B X D) (fun r w2 => ∃ D2, r = (o_leaves X w s what).1 ∧ w2 = w_M Z B (o_leaves X w s what).2 D2) := by
  refine ki_of (by decide) [(0, .ref (B 0)), (1, .int w), (2, .int s), (3, .int what)] (Nat.le_of_ble_eq_true rfl) rfl ?_
  intro M e1 e2 K Rt
  subst e1 e2
  refine q_aload_n K 0 dX4_leaves_0 rfl ?_
  refine q_iload_n K 1 dX4_leaves_1 rfl ?_
  refine q_wI (q0 := 0) (As := [.int w]) (rest := []) K kv_X4_isWalker (c_X4_isWalker (k_l M) (k_Z M) B X D m hm hm2 w) rfl rfl ml_X4_89 rfl rfl (Nat.le_of_ble_eq_true rfl) ⟨Nat.le_of_ble_eq_true rfl, Nat.le_of_ble_eq_true rfl⟩ dX4_leaves_2 (fun r_2 w2 h_1 => ?_)
  obtain ⟨e_r_2, rfl⟩ := h_1
  refine q_if_eq 25 K dX4_leaves_5 (by decide) (fun c_3 => ?_) (fun c_3 => ?_)
  · have c_3 : ¬ (isW X w) := (kn_eq e_r_2).mp c_3
    refine q_aload_n K 0 dX4_leaves_25 rfl ?_
    refine q_ldc K dX4_leaves_26 ct_X4_40 ?_
    refine q_eqi (r_fin 0) (by decide) ?_
    refine q_wI (q0 := 0) (As := [.int (r_fin 0)]) (rest := []) K kv_X4_finds (c_X4_finds (k_l M) (k_Z M) B X D 0 (by omega)) rfl rfl ml_X4_48 rfl rfl (Nat.le_of_ble_eq_true rfl) ⟨Nat.le_of_ble_eq_true rfl, Nat.le_of_ble_eq_true rfl⟩ dX4_leaves_28 (fun r_5 w2 h_4 => ?_)
    obtain ⟨e_r_5, rfl⟩ := h_4
    refine q_eqi (r_fin 0) e_r_5 ?_
    refine q_ws (ws' := w_M (k_Z M) B (a_F X, a_K X, a_kp X, fd_up (a_fd X) 0, a_tp X, a_S X) D) rfl ?_
    exact Rt _ _ (r_fin 0) (w_M (k_Z M) B (a_F X, a_K X, a_kp X, fd_up (a_fd X) 0, a_tp X, a_S X) D) dX4_leaves_31 rfl (⟨D, by simp only [o_leaves, a_fin, if_neg c_3, e_r_2] <;> rfl, by simp only [o_leaves, a_fin, if_neg c_3] <;> rfl⟩)
  · have c_3 : isW X w := (kn_ne e_r_2).mp c_3
    obtain ⟨u, h_u, e_u⟩ := isW_nat hm hm2 c_3
    subst e_u
    refine q_iload_n K 2 dX4_leaves_8 rfl ?_
    refine q_cp (rest := []) K ks_X4_isStand (c_X4_isStand (k_l M) (k_Z M) s) ml_X4_71 rfl rfl (Nat.le_of_ble_eq_true rfl) ⟨Nat.le_of_ble_eq_true rfl, Nat.le_of_ble_eq_true rfl⟩ dX4_leaves_9 (fun r_6 e_r_6 => ?_)
    refine q_if_eq 25 K dX4_leaves_12 (by decide) (fun c_7 => ?_) (fun c_7 => ?_)
    · have c_7 : ¬ (inR s 0 3) := (kn_eq e_r_6).mp c_7
      refine q_aload_n K 0 dX4_leaves_25 rfl ?_
      refine q_ldc K dX4_leaves_26 ct_X4_40 ?_
      refine q_eqi (r_fin 0) (by decide) ?_
      refine q_wI (q0 := 0) (As := [.int (r_fin 0)]) (rest := []) K kv_X4_finds (c_X4_finds (k_l M) (k_Z M) B X D 0 (by omega)) rfl rfl ml_X4_48 rfl rfl (Nat.le_of_ble_eq_true rfl) ⟨Nat.le_of_ble_eq_true rfl, Nat.le_of_ble_eq_true rfl⟩ dX4_leaves_28 (fun r_9 w2 h_8 => ?_)
      obtain ⟨e_r_9, rfl⟩ := h_8
      refine q_eqi (r_fin 0) e_r_9 ?_
      refine q_ws (ws' := w_M (k_Z M) B (a_F X, a_K X, a_kp X, fd_up (a_fd X) 0, a_tp X, a_S X) D) rfl ?_
      exact Rt _ _ (r_fin 0) (w_M (k_Z M) B (a_F X, a_K X, a_kp X, fd_up (a_fd X) 0, a_tp X, a_S X) D) dX4_leaves_31 rfl (⟨D, by simp only [o_leaves, a_fin, if_pos c_3, if_neg c_7, e_r_2, e_r_6, nI_clamp (n := u) (by omega)] <;> rfl, by simp only [o_leaves, a_fin, if_pos c_3, if_neg c_7, nI_clamp (n := u) (by omega)] <;> rfl⟩)
    · have c_7 : inR s 0 3 := (kn_ne e_r_6).mp c_7
      refine q_iload_n K 3 dX4_leaves_15 rfl ?_
      refine q_i2l K dX4_leaves_16 ?_
      refine q_lconst 0 K dX4_leaves_17 rfl ?_
      refine q_lconst 1 K dX4_leaves_18 rfl ?_
      refine q_cp (rest := []) K ks_X4_isIn (c_X4_isIn (k_l M) (k_Z M) what.toInt64 0 1) ml_X4_43 rfl rfl (Nat.le_of_ble_eq_true rfl) ⟨Nat.le_of_ble_eq_true rfl, Nat.le_of_ble_eq_true rfl⟩ dX4_leaves_19 (fun r_10 e_r_10 => ?_)
      have e_r_10 : r_10 = if inR what 0 1 then 1 else 0 := kn_if e_r_10 (kn_i64 (v := what) (lo := 0) (hi := 1))
      refine q_if_ne 32 K dX4_leaves_22 (by decide) (fun c_11 => ?_) (fun c_11 => ?_)
      · have c_11 : inR what 0 1 := (kn_ne e_r_10).mp c_11
        refine q_iload_n K 3 dX4_leaves_32 rfl ?_
        refine q_if_ne 45 K dX4_leaves_33 (by decide) (fun c_12 => ?_) (fun c_12 => ?_)
        · refine q_aload_n K 0 dX4_leaves_45 rfl ?_
          refine q_iload_n K 1 dX4_leaves_46 rfl ?_
          refine q_iload_n K 2 dX4_leaves_47 rfl ?_
          refine q_wI (q0 := 0) (As := [.int (nI u), .int s]) (rest := []) K kv_X4_feels (c_X4_feels (k_l M) (k_Z M) B X D u (by omega) s hok) rfl rfl ml_X4_105 rfl rfl (Nat.le_of_ble_eq_true rfl) ⟨Nat.le_of_ble_eq_true rfl, Nat.le_of_ble_eq_true rfl⟩ dX4_leaves_48 (fun r_14 w2 h_13 => ?_)
          obtain ⟨e_r_14, rfl⟩ := h_13
          refine q_eqi (f_feels (a_F X) u s) e_r_14 ?_
          exact Rt _ _ (f_feels (a_F X) u s) (w_M (k_Z M) B X D) dX4_leaves_51 rfl (⟨D, by simp only [o_leaves, a_fin, if_pos c_3, if_pos c_7, if_pos c_11, if_neg c_12, e_r_2, e_r_6, e_r_10, nI_clamp (n := u) (by omega)] <;> rfl, by simp only [o_leaves, a_fin, if_pos c_3, if_pos c_7, if_pos c_11, if_neg c_12, nI_clamp (n := u) (by omega)] <;> rfl⟩)
        · refine q_aload_n K 0 dX4_leaves_36 rfl ?_
          refine q_iload_n K 1 dX4_leaves_37 rfl ?_
          refine q_iload_n K 2 dX4_leaves_38 rfl ?_
          refine q_wI (q0 := 0) (As := [.int (nI u), .int s]) (rest := []) K kv_X4_leavesIt (c_X4_leavesIt (k_l M) (k_Z M) B X D u (by omega) s) rfl rfl ml_X4_102 rfl rfl (Nat.le_of_ble_eq_true rfl) ⟨Nat.le_of_ble_eq_true rfl, Nat.le_of_ble_eq_true rfl⟩ dX4_leaves_39 (fun r_16 w2 h_15 => ?_)
          obtain ⟨e_r_16, rfl⟩ := h_15
          refine q_eqi (f_leaves (a_F X) u s) e_r_16 ?_
          refine q_goto 51 K dX4_leaves_42 (by decide) ?_
          exact Rt _ _ (f_leaves (a_F X) u s) (w_M (k_Z M) B X D) dX4_leaves_51 rfl (⟨D, by simp only [o_leaves, a_fin, if_pos c_3, if_pos c_7, if_pos c_11, if_pos c_12, e_r_2, e_r_6, e_r_10, nI_clamp (n := u) (by omega)] <;> rfl, by simp only [o_leaves, a_fin, if_pos c_3, if_pos c_7, if_pos c_11, if_pos c_12, nI_clamp (n := u) (by omega)] <;> rfl⟩)
      · have c_11 : ¬ (inR what 0 1) := (kn_eq e_r_10).mp c_11
        refine q_aload_n K 0 dX4_leaves_25 rfl ?_
        refine q_ldc K dX4_leaves_26 ct_X4_40 ?_
        refine q_eqi (r_fin 0) (by decide) ?_
        refine q_wI (q0 := 0) (As := [.int (r_fin 0)]) (rest := []) K kv_X4_finds (c_X4_finds (k_l M) (k_Z M) B X D 0 (by omega)) rfl rfl ml_X4_48 rfl rfl (Nat.le_of_ble_eq_true rfl) ⟨Nat.le_of_ble_eq_true rfl, Nat.le_of_ble_eq_true rfl⟩ dX4_leaves_28 (fun r_18 w2 h_17 => ?_)
        obtain ⟨e_r_18, rfl⟩ := h_17
        refine q_eqi (r_fin 0) e_r_18 ?_
        refine q_ws (ws' := w_M (k_Z M) B (a_F X, a_K X, a_kp X, fd_up (a_fd X) 0, a_tp X, a_S X) D) rfl ?_
        exact Rt _ _ (r_fin 0) (w_M (k_Z M) B (a_F X, a_K X, a_kp X, fd_up (a_fd X) 0, a_tp X, a_S X) D) dX4_leaves_31 rfl (⟨D, by simp only [o_leaves, a_fin, if_pos c_3, if_pos c_7, if_neg c_11, e_r_2, e_r_6, e_r_10, nI_clamp (n := u) (by omega)] <;> rfl, by simp only [o_leaves, a_fin, if_pos c_3, if_pos c_7, if_neg c_11, nI_clamp (n := u) (by omega)] <;> rfl⟩)
theorem kv_X4_leaves : k_iv yX4_leaves cX4_leaves 4 (some .int) 3 := ⟨⟨im_X4_leaves, se_X4_leaves⟩, in_X4, co_X4_leaves, by decide +kernel⟩
