set_option maxHeartbeats 4000000 in
set_option maxRecDepth 100000 in
theorem c_X4_odds (l : Launch) (Z : kz_Z) (B : Nat → Nat) (X : AS) (D : DJ) (m : Nat) (hm : m ≤ 8) (hm2 : f_wk (a_F X) = nI m) (hok : f_ok (a_F X)) (n what : Int32) : KL l Z yX4_odds cX4_odds 9 1 25 [.ref (B 0), .int n, .int what] (w_M Z B X D) (fun r w2 => ∃ D2, r = (o_odds X n what).1 ∧ w2 = w_M Z B (o_odds X n what).2 D2) := by
  refine kl_of (by decide) [(0, .ref (B 0)), (1, .int n), (2, .int what)] (Nat.le_of_ble_eq_true rfl) rfl ?_
  intro M e1 e2 K Rt
  subst e1 e2
  refine q_iload_n K 1 dX4_odds_0 rfl ?_
  refine q_i2l K dX4_odds_1 ?_
  refine q_lconst 0 K dX4_odds_2 rfl ?_
  refine q_ldc2 K dX4_odds_3 ct_X4_166 ?_
  refine q_cp (rest := []) K ks_X4_isIn (c_X4_isIn (k_l M) (k_Z M) n.toInt64 0 20) ml_X4_43 rfl rfl (Nat.le_of_ble_eq_true rfl) ⟨Nat.le_of_ble_eq_true rfl, Nat.le_of_ble_eq_true rfl⟩ dX4_odds_6 (fun r_1 e_r_1 => ?_)
  have e_r_1 : r_1 = if inR n 0 20 then 1 else 0 := kn_if e_r_1 (kn_i64 (v := n) (lo := 0) (hi := 20))
  refine q_if_eq 22 K dX4_odds_9 (by decide) (fun c_2 => ?_) (fun c_2 => ?_)
  · have c_2 : ¬ (inR n 0 20) := (kn_eq e_r_1).mp c_2
    refine q_aload_n K 0 dX4_odds_22 rfl ?_
    refine q_ldc K dX4_odds_23 ct_X4_40 ?_
    refine q_eqi (r_fin 0) (by decide) ?_
    refine q_wI (q0 := 0) (As := [.int (r_fin 0)]) (rest := []) K kv_X4_finds (c_X4_finds (k_l M) (k_Z M) B X D 0 (by omega)) rfl rfl ml_X4_48 rfl rfl (Nat.le_of_ble_eq_true rfl) ⟨Nat.le_of_ble_eq_true rfl, Nat.le_of_ble_eq_true rfl⟩ dX4_odds_25 (fun r_4 w2 h_3 => ?_)
    obtain ⟨e_r_4, rfl⟩ := h_3
    refine q_eqi (r_fin 0) e_r_4 ?_
    refine q_ws (ws' := w_M (k_Z M) B (a_F X, a_K X, a_kp X, fd_up (a_fd X) 0, a_tp X, a_S X) D) rfl ?_
    refine q_i2l K dX4_odds_28 ?_
    exact Rt _ _ ((r_fin 0).toInt64) (w_M (k_Z M) B (a_F X, a_K X, a_kp X, fd_up (a_fd X) 0, a_tp X, a_S X) D) dX4_odds_29 (⟨D, by simp only [o_odds, a_fin, if_neg c_2] <;> rfl, by simp only [o_odds, a_fin, if_neg c_2] <;> rfl⟩)
  · have c_2 : inR n 0 20 := (kn_ne e_r_1).mp c_2
    obtain ⟨k, h_k, e_k⟩ := kn_rng (n := 20) c_2 rfl
    subst e_k
    refine q_iload_n K 2 dX4_odds_12 rfl ?_
    refine q_i2l K dX4_odds_13 ?_
    refine q_lconst 0 K dX4_odds_14 rfl ?_
    refine q_lconst 1 K dX4_odds_15 rfl ?_
    refine q_cp (rest := []) K ks_X4_isIn (c_X4_isIn (k_l M) (k_Z M) what.toInt64 0 1) ml_X4_43 rfl rfl (Nat.le_of_ble_eq_true rfl) ⟨Nat.le_of_ble_eq_true rfl, Nat.le_of_ble_eq_true rfl⟩ dX4_odds_16 (fun r_5 e_r_5 => ?_)
    have e_r_5 : r_5 = if inR what 0 1 then 1 else 0 := kn_if e_r_5 (kn_i64 (v := what) (lo := 0) (hi := 1))
    refine q_if_ne 30 K dX4_odds_19 (by decide) (fun c_6 => ?_) (fun c_6 => ?_)
    · have c_6 : inR what 0 1 := (kn_ne e_r_5).mp c_6
      refine q_lconst 1 K dX4_odds_30 rfl ?_
      refine q_lstore_n (lv' := [(3, .long 1), (0, .ref (B 0)), (1, .int (nI k)), (2, .int what)]) K dX4_odds_31 (by decide) rfl ?_
      refine q_lconst 1 K dX4_odds_32 rfl ?_
      refine q_lstore (lv' := [(5, .long 1), (3, .long 1), (0, .ref (B 0)), (1, .int (nI k)), (2, .int what)]) K dX4_odds_33 (by decide) rfl ?_
      refine q_aload_n K 2 dX4_odds_35 rfl ?_
      refine q_wI (q0 := 0) (As := []) (rest := []) K kv_X4_notShut (c_X4_notShut (k_l M) (k_Z M) B X D) rfl rfl ml_X4_132 rfl rfl (Nat.le_of_ble_eq_true rfl) ⟨Nat.le_of_ble_eq_true rfl, Nat.le_of_ble_eq_true rfl⟩ dX4_odds_36 (fun r_8 w2 h_7 => ?_)
      obtain ⟨e_r_8, rfl⟩ := h_7
      refine q_eqi (f_ns (a_F X) 8) e_r_8 ?_
      obtain ⟨t, ht, et⟩ := f_ns_nat (a_F X) 8 (by omega)
      refine q_eqi (nI t) et ?_
      refine q_cp (rest := []) K ks_X4_many (c_X4_many (k_l M) (k_Z M) t (by omega)) ml_X4_168 rfl rfl (Nat.le_of_ble_eq_true rfl) ⟨Nat.le_of_ble_eq_true rfl, Nat.le_of_ble_eq_true rfl⟩ dX4_odds_39 (fun r_9 e_r_9 => ?_)
      refine q_eqi (j_bc (nI t)) e_r_9 ?_
      obtain ⟨c, hc, ec⟩ := j_bc_ns (a_F X)
      refine q_eqi (nI c) (by rw [← et]; exact ec) ?_
      refine q_istore (lv' := [(7, .int (nI c)), (5, .long 1), (3, .long 1), (0, .ref (B 0)), (1, .int (nI k)), (2, .int what)]) K dX4_odds_42 (by decide) rfl ?_
      refine q_iconst 0 K dX4_odds_44 rfl ?_
      refine q_istore (lv' := [(8, .int 0), (7, .int (nI c)), (5, .long 1), (3, .long 1), (0, .ref (B 0)), (1, .int (nI k)), (2, .int what)]) K dX4_odds_45 (by decide) rfl ?_
      refine q_loop (α := Nat) (fun n9 i => i + n9 = k) 47 (fun i => [(8, .int (nI i)), (7, .int (nI c)), (5, .long (r_p8 i)), (3, .long (j_pow (nI c) i)), (0, .ref (B 0)), (1, .int (nI k)), (2, .int what)]) (fun i => w_M (k_Z M) B X D) (fun n_10 i hI_11 ih_12 => ?_) k 0 (by omega)
      refine q_iload K 0 dX4_odds_47 rfl ?_
      refine q_iload_n K 5 dX4_odds_49 rfl ?_
      refine q_icmp_ge 73 K dX4_odds_50 (by decide) (fun c_13 => ?_) (fun c_13 => ?_)
      · have c_13n : k ≤ i := (nI_leI (a := k) (b := i) (by omega) (by omega)).mp c_13
        refine q_lload_n K 3 dX4_odds_73 rfl ?_
        refine q_lconst 0 K dX4_odds_74 rfl ?_
        refine q_lcmp K dX4_odds_75 ?_
        refine q_if_ne 83 K dX4_odds_76 (by decide) (fun c_14 => ?_) (fun c_14 => ?_)
        · refine q_lload K 2 dX4_odds_83 rfl ?_
          refine q_lstore (lv' := [(5, .long (r_p8 i)), (8, .int (nI i)), (7, .int (nI c)), (3, .long (j_pow (nI c) i)), (0, .ref (B 0)), (1, .int (nI k)), (2, .int what)]) K dX4_odds_85 (by decide) rfl ?_
          refine q_loop (α := Int64 × Int64) (fun n9 y => r_hvE n9 y.1 y.2 = true ∧ r_hv n9 y.1 y.2 = (j_pow (o_above8 c) k, j_pow (o_below8 c) k)) 87 (fun y => [(5, .long y.2), (8, .int (nI i)), (7, .int (nI c)), (3, .long y.1), (0, .ref (B 0)), (1, .int (nI k)), (2, .int what)]) (fun y => w_M (k_Z M) B X D) (fun n_15 y hI_16 ih_17 => ?_) 61 (j_pow (nI c) i, r_p8 i) (by have h9 := od_all c (by omega) i (by omega); rw [if_neg c_14] at h9; rw [show k = i by omega]; exact h9)
          refine q_lload_n K 3 dX4_odds_87 rfl ?_
          refine q_ldc2 K dX4_odds_88 ct_X4_191 ?_
          refine q_lrem K dX4_odds_91 (by decide) ?_
          refine q_lconst 0 K dX4_odds_92 rfl ?_
          refine q_lcmp K dX4_odds_93 ?_
          refine q_if_ne 125 K dX4_odds_94 (by decide) (fun c_18 => ?_) (fun c_18 => ?_)
          · refine q_iload_n K 6 dX4_odds_125 rfl ?_
            refine q_if_ne 133 K dX4_odds_126 (by decide) (fun c_19 => ?_) (fun c_19 => ?_)
            · refine q_lload K 0 dX4_odds_133 rfl ?_
              exact Rt _ _ y.2 (w_M (k_Z M) B X D) dX4_odds_135 (⟨D, by have e9 := (r_hv_end (fun h9 => c_18 h9.1)).symm.trans hI_16.2; simp only [o_odds, if_pos c_2, if_pos c_6, if_neg c_19, nI_clamp (n := k) (by omega), ec, nI_clamp (n := c) (by omega)]; exact congrArg Prod.snd e9, by simp only [o_odds, if_pos c_2, if_pos c_6, if_neg c_19, nI_clamp (n := k) (by omega), ec, nI_clamp (n := c) (by omega)] <;> rfl⟩)
            · refine q_lload_n K 3 dX4_odds_129 rfl ?_
              refine q_goto 135 K dX4_odds_130 (by decide) ?_
              exact Rt _ _ y.1 (w_M (k_Z M) B X D) dX4_odds_135 (⟨D, by have e9 := (r_hv_end (fun h9 => c_18 h9.1)).symm.trans hI_16.2; simp only [o_odds, if_pos c_2, if_pos c_6, if_pos c_19, nI_clamp (n := k) (by omega), ec, nI_clamp (n := c) (by omega)]; exact congrArg Prod.fst e9, by simp only [o_odds, if_pos c_2, if_pos c_6, if_pos c_19, nI_clamp (n := k) (by omega), ec, nI_clamp (n := c) (by omega)] <;> rfl⟩)
          · refine q_lload K 0 dX4_odds_97 rfl ?_
            refine q_ldc2 K dX4_odds_99 ct_X4_191 ?_
            refine q_lrem K dX4_odds_102 (by decide) ?_
            refine q_lconst 0 K dX4_odds_103 rfl ?_
            refine q_lcmp K dX4_odds_104 ?_
            refine q_if_ne 125 K dX4_odds_105 (by decide) (fun c_20 => ?_) (fun c_20 => ?_)
            · refine q_iload_n K 6 dX4_odds_125 rfl ?_
              refine q_if_ne 133 K dX4_odds_126 (by decide) (fun c_21 => ?_) (fun c_21 => ?_)
              · refine q_lload K 0 dX4_odds_133 rfl ?_
                exact Rt _ _ y.2 (w_M (k_Z M) B X D) dX4_odds_135 (⟨D, by have e9 := (r_hv_end (fun h9 => c_20 h9.2)).symm.trans hI_16.2; simp only [o_odds, if_pos c_2, if_pos c_6, if_neg c_21, nI_clamp (n := k) (by omega), ec, nI_clamp (n := c) (by omega)]; exact congrArg Prod.snd e9, by simp only [o_odds, if_pos c_2, if_pos c_6, if_neg c_21, nI_clamp (n := k) (by omega), ec, nI_clamp (n := c) (by omega)] <;> rfl⟩)
              · refine q_lload_n K 3 dX4_odds_129 rfl ?_
                refine q_goto 135 K dX4_odds_130 (by decide) ?_
                exact Rt _ _ y.1 (w_M (k_Z M) B X D) dX4_odds_135 (⟨D, by have e9 := (r_hv_end (fun h9 => c_20 h9.2)).symm.trans hI_16.2; simp only [o_odds, if_pos c_2, if_pos c_6, if_pos c_21, nI_clamp (n := k) (by omega), ec, nI_clamp (n := c) (by omega)]; exact congrArg Prod.fst e9, by simp only [o_odds, if_pos c_2, if_pos c_6, if_pos c_21, nI_clamp (n := k) (by omega), ec, nI_clamp (n := c) (by omega)] <;> rfl⟩)
            · refine q_lload_n K 3 dX4_odds_108 rfl ?_
              refine q_ldc2 K dX4_odds_109 ct_X4_191 ?_
              refine q_ldiv K dX4_odds_112 (by decide) ?_
              refine q_lstore_n (lv' := [(3, .long (y.1 / 2)), (5, .long y.2), (8, .int (nI i)), (7, .int (nI c)), (0, .ref (B 0)), (1, .int (nI k)), (2, .int what)]) K dX4_odds_113 (by decide) rfl ?_
              refine q_lload K 1 dX4_odds_114 rfl ?_
              refine q_ldc2 K dX4_odds_116 ct_X4_191 ?_
              refine q_ldiv K dX4_odds_119 (by decide) ?_
              refine q_lstore (lv' := [(5, .long (y.2 / 2)), (3, .long (y.1 / 2)), (8, .int (nI i)), (7, .int (nI c)), (0, .ref (B 0)), (1, .int (nI k)), (2, .int what)]) K dX4_odds_120 (by decide) rfl ?_
              refine q_goto 87 K dX4_odds_122 (by decide) ?_
              refine q_lv [0, 2, 3, 1, 4, 5, 6] rfl ?_
              obtain ⟨hk9, he9, hr9⟩ := r_hv_step ⟨c_18, c_20⟩ hI_16.1
              exact ih_17 (n_15 - 1) (y.1 / 2, y.2 / 2) (by omega) ⟨he9, hr9.symm.trans hI_16.2⟩
        · refine q_lconst 1 K dX4_odds_79 rfl ?_
          refine q_goto 85 K dX4_odds_80 (by decide) ?_
          refine q_lstore (lv' := [(5, .long 1), (8, .int (nI i)), (7, .int (nI c)), (3, .long (j_pow (nI c) i)), (0, .ref (B 0)), (1, .int (nI k)), (2, .int what)]) K dX4_odds_85 (by decide) rfl ?_
          refine q_loop (α := Int64 × Int64) (fun n9 y => r_hvE n9 y.1 y.2 = true ∧ r_hv n9 y.1 y.2 = (j_pow (o_above8 c) k, j_pow (o_below8 c) k)) 87 (fun y => [(5, .long y.2), (8, .int (nI i)), (7, .int (nI c)), (3, .long y.1), (0, .ref (B 0)), (1, .int (nI k)), (2, .int what)]) (fun y => w_M (k_Z M) B X D) (fun n_22 y hI_23 ih_24 => ?_) 61 (j_pow (nI c) i, 1) (by have h9 := od_all c (by omega) i (by omega); rw [if_pos c_14] at h9; rw [show k = i by omega]; exact h9)
          refine q_lload_n K 3 dX4_odds_87 rfl ?_
          refine q_ldc2 K dX4_odds_88 ct_X4_191 ?_
          refine q_lrem K dX4_odds_91 (by decide) ?_
          refine q_lconst 0 K dX4_odds_92 rfl ?_
          refine q_lcmp K dX4_odds_93 ?_
          refine q_if_ne 125 K dX4_odds_94 (by decide) (fun c_25 => ?_) (fun c_25 => ?_)
          · refine q_iload_n K 6 dX4_odds_125 rfl ?_
            refine q_if_ne 133 K dX4_odds_126 (by decide) (fun c_26 => ?_) (fun c_26 => ?_)
            · refine q_lload K 0 dX4_odds_133 rfl ?_
              exact Rt _ _ y.2 (w_M (k_Z M) B X D) dX4_odds_135 (⟨D, by have e9 := (r_hv_end (fun h9 => c_25 h9.1)).symm.trans hI_23.2; simp only [o_odds, if_pos c_2, if_pos c_6, if_neg c_26, nI_clamp (n := k) (by omega), ec, nI_clamp (n := c) (by omega)]; exact congrArg Prod.snd e9, by simp only [o_odds, if_pos c_2, if_pos c_6, if_neg c_26, nI_clamp (n := k) (by omega), ec, nI_clamp (n := c) (by omega)] <;> rfl⟩)
            · refine q_lload_n K 3 dX4_odds_129 rfl ?_
              refine q_goto 135 K dX4_odds_130 (by decide) ?_
              exact Rt _ _ y.1 (w_M (k_Z M) B X D) dX4_odds_135 (⟨D, by have e9 := (r_hv_end (fun h9 => c_25 h9.1)).symm.trans hI_23.2; simp only [o_odds, if_pos c_2, if_pos c_6, if_pos c_26, nI_clamp (n := k) (by omega), ec, nI_clamp (n := c) (by omega)]; exact congrArg Prod.fst e9, by simp only [o_odds, if_pos c_2, if_pos c_6, if_pos c_26, nI_clamp (n := k) (by omega), ec, nI_clamp (n := c) (by omega)] <;> rfl⟩)
          · refine q_lload K 0 dX4_odds_97 rfl ?_
            refine q_ldc2 K dX4_odds_99 ct_X4_191 ?_
            refine q_lrem K dX4_odds_102 (by decide) ?_
            refine q_lconst 0 K dX4_odds_103 rfl ?_
            refine q_lcmp K dX4_odds_104 ?_
            refine q_if_ne 125 K dX4_odds_105 (by decide) (fun c_27 => ?_) (fun c_27 => ?_)
            · refine q_iload_n K 6 dX4_odds_125 rfl ?_
              refine q_if_ne 133 K dX4_odds_126 (by decide) (fun c_28 => ?_) (fun c_28 => ?_)
              · refine q_lload K 0 dX4_odds_133 rfl ?_
                exact Rt _ _ y.2 (w_M (k_Z M) B X D) dX4_odds_135 (⟨D, by have e9 := (r_hv_end (fun h9 => c_27 h9.2)).symm.trans hI_23.2; simp only [o_odds, if_pos c_2, if_pos c_6, if_neg c_28, nI_clamp (n := k) (by omega), ec, nI_clamp (n := c) (by omega)]; exact congrArg Prod.snd e9, by simp only [o_odds, if_pos c_2, if_pos c_6, if_neg c_28, nI_clamp (n := k) (by omega), ec, nI_clamp (n := c) (by omega)] <;> rfl⟩)
              · refine q_lload_n K 3 dX4_odds_129 rfl ?_
                refine q_goto 135 K dX4_odds_130 (by decide) ?_
                exact Rt _ _ y.1 (w_M (k_Z M) B X D) dX4_odds_135 (⟨D, by have e9 := (r_hv_end (fun h9 => c_27 h9.2)).symm.trans hI_23.2; simp only [o_odds, if_pos c_2, if_pos c_6, if_pos c_28, nI_clamp (n := k) (by omega), ec, nI_clamp (n := c) (by omega)]; exact congrArg Prod.fst e9, by simp only [o_odds, if_pos c_2, if_pos c_6, if_pos c_28, nI_clamp (n := k) (by omega), ec, nI_clamp (n := c) (by omega)] <;> rfl⟩)
            · refine q_lload_n K 3 dX4_odds_108 rfl ?_
              refine q_ldc2 K dX4_odds_109 ct_X4_191 ?_
              refine q_ldiv K dX4_odds_112 (by decide) ?_
              refine q_lstore_n (lv' := [(3, .long (y.1 / 2)), (5, .long y.2), (8, .int (nI i)), (7, .int (nI c)), (0, .ref (B 0)), (1, .int (nI k)), (2, .int what)]) K dX4_odds_113 (by decide) rfl ?_
              refine q_lload K 1 dX4_odds_114 rfl ?_
              refine q_ldc2 K dX4_odds_116 ct_X4_191 ?_
              refine q_ldiv K dX4_odds_119 (by decide) ?_
              refine q_lstore (lv' := [(5, .long (y.2 / 2)), (3, .long (y.1 / 2)), (8, .int (nI i)), (7, .int (nI c)), (0, .ref (B 0)), (1, .int (nI k)), (2, .int what)]) K dX4_odds_120 (by decide) rfl ?_
              refine q_goto 87 K dX4_odds_122 (by decide) ?_
              refine q_lv [0, 2, 3, 1, 4, 5, 6] rfl ?_
              obtain ⟨hk9, he9, hr9⟩ := r_hv_step ⟨c_25, c_27⟩ hI_23.1
              exact ih_24 (n_22 - 1) (y.1 / 2, y.2 / 2) (by omega) ⟨he9, hr9.symm.trans hI_23.2⟩
      · have c_13n : ¬ (k ≤ i) := fun h9 => c_13 ((nI_leI (a := k) (b := i) (by omega) (by omega)).mpr h9)
        refine q_lload_n K 3 dX4_odds_53 rfl ?_
        refine q_iload K 1 dX4_odds_54 rfl ?_
        refine q_i2l K dX4_odds_56 ?_
        refine q_lmul K dX4_odds_57 ?_
        refine q_lstore_n (lv' := [(3, .long ((j_pow (nI c) i) * ((nI c).toInt64))), (8, .int (nI i)), (7, .int (nI c)), (5, .long (r_p8 i)), (0, .ref (B 0)), (1, .int (nI k)), (2, .int what)]) K dX4_odds_58 (by decide) rfl ?_
        refine q_lload K 3 dX4_odds_59 rfl ?_
        refine q_ldc2 K dX4_odds_61 ct_X4_189 ?_
        refine q_lmul K dX4_odds_64 ?_
        refine q_lstore (lv' := [(5, .long ((r_p8 i) * 8)), (3, .long ((j_pow (nI c) i) * ((nI c).toInt64))), (8, .int (nI i)), (7, .int (nI c)), (0, .ref (B 0)), (1, .int (nI k)), (2, .int what)]) K dX4_odds_65 (by decide) rfl ?_
        refine q_iinc (nI (i + 1)) (lv' := [(8, .int (nI (i + 1))), (5, .long ((r_p8 i) * 8)), (3, .long ((j_pow (nI c) i) * ((nI c).toInt64))), (7, .int (nI c)), (0, .ref (B 0)), (1, .int (nI k)), (2, .int what)]) K 2 dX4_odds_67 rfl (kn_inc i) (by decide) rfl ?_
        refine q_goto 47 K dX4_odds_70 (by decide) ?_
        refine q_lv [0, 3, 1, 2, 4, 5, 6] rfl ?_
        exact ih_12 (n_10 - 1) (i + 1) (by omega) (by omega)
    · have c_6 : ¬ (inR what 0 1) := (kn_eq e_r_5).mp c_6
      refine q_aload_n K 0 dX4_odds_22 rfl ?_
      refine q_ldc K dX4_odds_23 ct_X4_40 ?_
      refine q_eqi (r_fin 0) (by decide) ?_
      refine q_wI (q0 := 0) (As := [.int (r_fin 0)]) (rest := []) K kv_X4_finds (c_X4_finds (k_l M) (k_Z M) B X D 0 (by omega)) rfl rfl ml_X4_48 rfl rfl (Nat.le_of_ble_eq_true rfl) ⟨Nat.le_of_ble_eq_true rfl, Nat.le_of_ble_eq_true rfl⟩ dX4_odds_25 (fun r_30 w2 h_29 => ?_)
      obtain ⟨e_r_30, rfl⟩ := h_29
      refine q_eqi (r_fin 0) e_r_30 ?_
      refine q_ws (ws' := w_M (k_Z M) B (a_F X, a_K X, a_kp X, fd_up (a_fd X) 0, a_tp X, a_S X) D) rfl ?_
      refine q_i2l K dX4_odds_28 ?_
      exact Rt _ _ ((r_fin 0).toInt64) (w_M (k_Z M) B (a_F X, a_K X, a_kp X, fd_up (a_fd X) 0, a_tp X, a_S X) D) dX4_odds_29 (⟨D, by simp only [o_odds, a_fin, if_pos c_2, if_neg c_6, nI_clamp (n := k) (by omega)] <;> rfl, by simp only [o_odds, a_fin, if_pos c_2, if_neg c_6, nI_clamp (n := k) (by omega)] <;> rfl⟩)
theorem kv_X4_odds : k_iv yX4_odds cX4_odds 9 (some .long) 2 := ⟨⟨im_X4_odds, se_X4_odds⟩, in_X4, co_X4_odds, by decide +kernel⟩
