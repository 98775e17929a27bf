set_option maxHeartbeats 4000000 in
set_option maxRecDepth 100000 in
theorem c_X4_home (l : Launch) (Z : kz_Z) (B : Nat → Nat) (X : AS) (D : DJ) (m : Nat) (hm : m ≤ 8) (hm2 : f_wk (a_F X) = nI m) (hok : f_ok (a_F X)) (field v n : Int32) : KI l Z yX4_home cX4_home 7 .int 4 97 [.ref (B 0), .int field, .int v, .int n] (w_M Z B X D) (fun r w2 => ∃ D2, r = (o_home X field v n).1 ∧ w2 = w_M Z B (o_home X field v n).2 D2) := by
  refine ki_of (by decide) [(0, .ref (B 0)), (1, .int field), (2, .int v), (3, .int n)] (Nat.le_of_ble_eq_true rfl) rfl ?_
  intro M e1 e2 K Rt
  subst e1 e2
  obtain ⟨z, hz, ez⟩ : ∃ z : Nat, z ≤ 256 ∧ z = 2 ^ m := ⟨2 ^ m, kn_pow hm, rfl⟩
  refine q_iload_n K 1 dX4_home_0 rfl ?_
  refine q_cp (rest := []) K ks_X4_isField (c_X4_isField (k_l M) (k_Z M) field) ml_X4_52 rfl rfl (Nat.le_of_ble_eq_true rfl) ⟨Nat.le_of_ble_eq_true rfl, Nat.le_of_ble_eq_true rfl⟩ dX4_home_1 (fun r_1 e_r_1 => ?_)
  refine q_if_eq 31 K dX4_home_4 (by decide) (fun c_2 => ?_) (fun c_2 => ?_)
  · have c_2 : ¬ (inR field 0 8) := (kn_eq e_r_1).mp c_2
    refine q_aload_n K 0 dX4_home_31 rfl ?_
    refine q_ldc K dX4_home_32 ct_X4_40 ?_
    refine q_eqi (r_fin 0) (by decide) ?_
    refine q_wI (q0 := 0) (As := [.int (r_fin 0)]) (rest := []) K kv_X4_finds (c_X4_finds (k_l M) (k_Z M) B X D 0 (by omega)) rfl rfl ml_X4_48 rfl rfl (Nat.le_of_ble_eq_true rfl) ⟨Nat.le_of_ble_eq_true rfl, Nat.le_of_ble_eq_true rfl⟩ dX4_home_34 (fun r_4 w2 h_3 => ?_)
    obtain ⟨e_r_4, rfl⟩ := h_3
    refine q_eqi (r_fin 0) e_r_4 ?_
    refine q_ws (ws' := w_M (k_Z M) B (a_F X, a_K X, a_kp X, fd_up (a_fd X) 0, a_tp X, a_S X) D) rfl ?_
    exact Rt _ _ (r_fin 0) (w_M (k_Z M) B (a_F X, a_K X, a_kp X, fd_up (a_fd X) 0, a_tp X, a_S X) D) dX4_home_37 rfl (⟨D, by simp only [o_home, a_fin, if_neg c_2, e_r_1] <;> rfl, by simp only [o_home, a_fin, if_neg c_2] <;> rfl⟩)
  · have c_2 : inR field 0 8 := (kn_ne e_r_1).mp c_2
    obtain ⟨f, h_f, e_f⟩ := kn_rng (n := 8) c_2 rfl
    subst e_f
    refine q_iload_n K 2 dX4_home_7 rfl ?_
    refine q_i2l K dX4_home_8 ?_
    refine q_lconst 0 K dX4_home_9 rfl ?_
    refine q_ldc2 K dX4_home_10 ct_X4_56 ?_
    refine q_cp (rest := []) K ks_X4_isIn (c_X4_isIn (k_l M) (k_Z M) v.toInt64 0 9999) ml_X4_43 rfl rfl (Nat.le_of_ble_eq_true rfl) ⟨Nat.le_of_ble_eq_true rfl, Nat.le_of_ble_eq_true rfl⟩ dX4_home_13 (fun r_5 e_r_5 => ?_)
    have e_r_5 : r_5 = if inR v 0 9999 then 1 else 0 := kn_if e_r_5 (kn_i64 (v := v) (lo := 0) (hi := 9999))
    refine q_if_eq 31 K dX4_home_16 (by decide) (fun c_6 => ?_) (fun c_6 => ?_)
    · have c_6 : ¬ (inR v 0 9999) := (kn_eq e_r_5).mp c_6
      refine q_aload_n K 0 dX4_home_31 rfl ?_
      refine q_ldc K dX4_home_32 ct_X4_40 ?_
      refine q_eqi (r_fin 0) (by decide) ?_
      refine q_wI (q0 := 0) (As := [.int (r_fin 0)]) (rest := []) K kv_X4_finds (c_X4_finds (k_l M) (k_Z M) B X D 0 (by omega)) rfl rfl ml_X4_48 rfl rfl (Nat.le_of_ble_eq_true rfl) ⟨Nat.le_of_ble_eq_true rfl, Nat.le_of_ble_eq_true rfl⟩ dX4_home_34 (fun r_8 w2 h_7 => ?_)
      obtain ⟨e_r_8, rfl⟩ := h_7
      refine q_eqi (r_fin 0) e_r_8 ?_
      refine q_ws (ws' := w_M (k_Z M) B (a_F X, a_K X, a_kp X, fd_up (a_fd X) 0, a_tp X, a_S X) D) rfl ?_
      exact Rt _ _ (r_fin 0) (w_M (k_Z M) B (a_F X, a_K X, a_kp X, fd_up (a_fd X) 0, a_tp X, a_S X) D) dX4_home_37 rfl (⟨D, by simp only [o_home, a_fin, if_pos c_2, if_neg c_6, e_r_1, e_r_5, nI_clamp (n := f) (by omega)] <;> rfl, by simp only [o_home, a_fin, if_pos c_2, if_neg c_6, nI_clamp (n := f) (by omega)] <;> rfl⟩)
    · have c_6 : inR v 0 9999 := (kn_ne e_r_5).mp c_6
      refine q_iload_n K 3 dX4_home_19 rfl ?_
      refine q_i2l K dX4_home_20 ?_
      refine q_lconst 0 K dX4_home_21 rfl ?_
      refine q_ldc2 K dX4_home_22 ct_X4_166 ?_
      refine q_cp (rest := []) K ks_X4_isIn (c_X4_isIn (k_l M) (k_Z M) n.toInt64 0 20) ml_X4_43 rfl rfl (Nat.le_of_ble_eq_true rfl) ⟨Nat.le_of_ble_eq_true rfl, Nat.le_of_ble_eq_true rfl⟩ dX4_home_25 (fun r_9 e_r_9 => ?_)
      have e_r_9 : r_9 = if inR n 0 20 then 1 else 0 := kn_if e_r_9 (kn_i64 (v := n) (lo := 0) (hi := 20))
      refine q_if_ne 38 K dX4_home_28 (by decide) (fun c_10 => ?_) (fun c_10 => ?_)
      · have c_10 : inR n 0 20 := (kn_ne e_r_9).mp c_10
        obtain ⟨k, h_k, e_k⟩ := kn_rng (n := 20) c_10 rfl
        subst e_k
        refine q_iconst (-1) K dX4_home_38 rfl ?_
        refine q_istore (lv' := [(4, .int (-1)), (0, .ref (B 0)), (1, .int (nI f)), (2, .int v), (3, .int (nI k))]) K dX4_home_39 (by decide) rfl ?_
        refine q_aload_n K 1 dX4_home_41 rfl ?_
        refine q_get (.ref (B 1)) K ws_X4 0 rfl rfl 0 (by decide) fl_X4_7 rfl dX4_home_42 ?_
        refine q_aload_n K 1 dX4_home_45 rfl ?_
        refine q_get (.ref (B 4)) K ws_X4 0 rfl rfl 3 (by decide) fl_X4_19 rfl dX4_home_46 ?_
        refine q_perm (ws' := ([1, 4, 0, 2, 3, 5, 6, 7, 8, 9, 10] : List Nat).map (fun i9 => (w_M (k_Z M) B X D).getD i9 (0, .inr (0, [])))) (k_pick _ (show (List.range 11).Perm _ by decide) rfl) ?_
        refine q_csV (rest := []) K ks_X4_copyRow (c_X4_copyRow (k_l M) (k_Z M) (B 1) (B 4) (f_rw (a_F X)) (d_as D)) [] (([0, 2, 3, 5, 6, 7, 8, 9, 10] : List Nat).map (fun i9 => (w_M (k_Z M) B X D).getD i9 (0, .inr (0, [])))) rfl ml_X4_141 rfl rfl (Nat.le_of_ble_eq_true rfl) ⟨Nat.le_of_ble_eq_true rfl, Nat.le_of_ble_eq_true rfl⟩ dX4_home_49 (fun w2 h_11 => ?_)
        obtain rfl := h_11
        refine q_perm (ws' := w_M (k_Z M) B X (d_bf D, f_rw (a_F X), d_gn D, d_tk D, d_fr D, d_to D, d_vl D, d_fa D)) (k_pick [2, 0, 3, 4, 1, 5, 6, 7, 8, 9, 10] (show (List.range 11).Perm _ by decide) rfl) ?_
        refine q_iconst 0 K dX4_home_52 rfl ?_
        refine q_istore (lv' := [(5, .int 0), (4, .int (-1)), (0, .ref (B 0)), (1, .int (nI f)), (2, .int v), (3, .int (nI k))]) K dX4_home_53 (by decide) rfl ?_
        refine q_loop (α := Nat × (Nat → Int32)) (fun n9 x9 => x9.1 + n9 = z) 55 (fun x9 => [(5, .int (nI x9.1)), (4, .int (r_bv (r_home (w_home (a_F X) f v k) k_bc x9.1))), (0, .ref (B 0)), (1, .int (nI f)), (2, .int v), (3, .int (nI k))]) (fun x9 => w_M (k_Z M) B X (d_bf D, f_rw (a_F X), x9.2, d_tk D, d_fr D, d_to D, d_vl D, d_fa D)) (fun n_12 x9 hI_13 ih_14 => ?_) z (0, d_gn D) (by show 0 + z = z; omega)
        obtain ⟨i, T1⟩ := x9
        dsimp only at hI_13 ih_14 ⊢
        refine q_iload K 0 dX4_home_55 rfl ?_
        refine q_iconst 1 K dX4_home_57 rfl ?_
        refine q_aload_n K 2 dX4_home_58 rfl ?_
        refine q_get (.ref (B 1)) K ws_X4 0 rfl rfl 0 (by decide) fl_X4_7 rfl dX4_home_59 ?_
        refine q_iconst 0 K dX4_home_62 rfl ?_
        refine q_iald K 1 rfl (vp_in_nI (n := 0) (N := 71) (by omega) (by omega)) dX4_home_63 ?_
        refine q_eqi (f_wk (a_F X)) rfl ?_
        refine q_eqi (nI m) hm2 ?_
        refine q_ishl K dX4_home_64 ?_
        refine q_eqi (nI z) (by rw [ez]; exact kn_shl m (by omega)) ?_
        refine q_icmp_ge 145 K dX4_home_65 (by decide) (fun c_15 => ?_) (fun c_15 => ?_)
        · have c_15n : z ≤ i := (nI_leI (a := z) (b := i) (by omega) (by omega)).mp c_15
          rcases hb : r_home (w_home (a_F X) f v k) k_bc i with _ | b
          · show kJ M 7 145 [(5, .int (nI i)), (4, .int (-1)), (0, .ref (B 0)), (1, .int (nI f)), (2, .int v), (3, .int (nI k))] [] (w_M (k_Z M) B X (d_bf D, f_rw (a_F X), T1, d_tk D, d_fr D, d_to D, d_vl D, d_fa D))
            refine q_aload_n K 2 dX4_home_145 rfl ?_
            refine q_iload K 1 dX4_home_146 rfl ?_
            refine q_wI (q0 := 0) (As := [.int (-1)]) (rest := []) K kv_X4_orNone (c_X4_orNone (k_l M) (k_Z M) B X (d_bf D, f_rw (a_F X), T1, d_tk D, d_fr D, d_to D, d_vl D, d_fa D) (-1)) rfl rfl ml_X4_163 rfl rfl (Nat.le_of_ble_eq_true rfl) ⟨Nat.le_of_ble_eq_true rfl, Nat.le_of_ble_eq_true rfl⟩ dX4_home_148 (fun r_17 w2 h_16 => ?_)
            obtain ⟨-, e_r_17, rfl⟩ : _ ∧ _ ∧ _ := h_16.resolve_right (fun h9 => h9.1 (by decide))
            refine q_eqi (r_fin 3) e_r_17 ?_
            refine q_ws (ws' := w_M (k_Z M) B (a_F X, a_K X, a_kp X, fd_up (a_fd X) 3, a_tp X, a_S X) (d_bf D, f_rw (a_F X), T1, d_tk D, d_fr D, d_to D, d_vl D, d_fa D)) rfl ?_
            exact Rt _ _ (r_fin 3) (w_M (k_Z M) B (a_F X, a_K X, a_kp X, fd_up (a_fd X) 3, a_tp X, a_S X) (d_bf D, f_rw (a_F X), T1, d_tk D, d_fr D, d_to D, d_vl D, d_fa D)) dX4_home_151 rfl (⟨(d_bf D, f_rw (a_F X), T1, d_tk D, d_fr D, d_to D, d_vl D, d_fa D), by simp only [o_home, if_pos c_2, if_pos c_6, if_pos c_10, if_pos c_15, nI_clamp (n := f) (by omega), nI_clamp (n := k) (by omega), o_home_no hm hm2 (by rw [← ez, show z = i by omega]; exact hb)] <;> rfl, by simp only [o_home, if_pos c_2, if_pos c_6, if_pos c_10, if_pos c_15, nI_clamp (n := f) (by omega), nI_clamp (n := k) (by omega), o_home_no hm hm2 (by rw [← ez, show z = i by omega]; exact hb)] <;> rfl⟩)
          · show kJ M 7 145 [(5, .int (nI i)), (4, .int (nI b)), (0, .ref (B 0)), (1, .int (nI f)), (2, .int v), (3, .int (nI k))] [] (w_M (k_Z M) B X (d_bf D, f_rw (a_F X), T1, d_tk D, d_fr D, d_to D, d_vl D, d_fa D))
            have hbl := (r_home_is i b hb).1
            refine q_aload_n K 2 dX4_home_145 rfl ?_
            refine q_iload K 1 dX4_home_146 rfl ?_
            refine q_wI (q0 := 0) (As := [.int (nI b)]) (rest := []) K kv_X4_orNone (c_X4_orNone (k_l M) (k_Z M) B X (d_bf D, f_rw (a_F X), T1, d_tk D, d_fr D, d_to D, d_vl D, d_fa D) (nI b)) rfl rfl ml_X4_163 rfl rfl (Nat.le_of_ble_eq_true rfl) ⟨Nat.le_of_ble_eq_true rfl, Nat.le_of_ble_eq_true rfl⟩ dX4_home_148 (fun r_19 w2 h_18 => ?_)
            obtain ⟨-, e_r_19, rfl⟩ : _ ∧ _ ∧ _ := h_18.resolve_left (fun h9 => (nI_pos (by omega)) h9.1)
            refine q_eqi (nI b) e_r_19 ?_
            refine q_ws (ws' := w_M (k_Z M) B X (d_bf D, f_rw (a_F X), T1, d_tk D, d_fr D, d_to D, d_vl D, d_fa D)) rfl ?_
            exact Rt _ _ (nI b) (w_M (k_Z M) B X (d_bf D, f_rw (a_F X), T1, d_tk D, d_fr D, d_to D, d_vl D, d_fa D)) dX4_home_151 rfl (⟨(d_bf D, f_rw (a_F X), T1, d_tk D, d_fr D, d_to D, d_vl D, d_fa D), by simp only [o_home, if_pos c_2, if_pos c_6, if_pos c_10, if_pos c_15, nI_clamp (n := f) (by omega), nI_clamp (n := k) (by omega), o_home_is hm hm2 (by rw [← ez, show z = i by omega]; exact hb)] <;> rfl, by simp only [o_home, if_pos c_2, if_pos c_6, if_pos c_10, if_pos c_15, nI_clamp (n := f) (by omega), nI_clamp (n := k) (by omega), o_home_is hm hm2 (by rw [← ez, show z = i by omega]; exact hb)] <;> rfl⟩)
        · have c_15n : ¬ (z ≤ i) := fun h9 => c_15 ((nI_leI (a := z) (b := i) (by omega) (by omega)).mpr h9)
          rcases hb : r_home (w_home (a_F X) f v k) k_bc i with _ | b
          · show kJ M 7 68 [(5, .int (nI i)), (4, .int (-1)), (0, .ref (B 0)), (1, .int (nI f)), (2, .int v), (3, .int (nI k))] [] (w_M (k_Z M) B X (d_bf D, f_rw (a_F X), T1, d_tk D, d_fr D, d_to D, d_vl D, d_fa D))
            refine q_iload K 1 dX4_home_68 rfl ?_
            refine q_if_lt 86 K dX4_home_70 (by decide) (fun c_0 => ?_) (fun c_0 => absurd c_0 (by decide))
            refine q_iconst 0 K dX4_home_86 rfl ?_
            refine q_istore (lv' := [(6, .int 0), (5, .int (nI i)), (4, .int (-1)), (0, .ref (B 0)), (1, .int (nI f)), (2, .int v), (3, .int (nI k))]) K dX4_home_87 (by decide) rfl ?_
            refine q_loop (α := Nat × (Nat → Int32)) (fun n9 x9 => x9.1 + n9 = k) 89 (fun x9 => [(6, .int (nI x9.1)), (5, .int (nI i)), (4, .int (-1)), (0, .ref (B 0)), (1, .int (nI f)), (2, .int v), (3, .int (nI k))]) (fun x9 => w_M (k_Z M) B (f_hoursR (f_gn (nI i)) (a_F X) x9.1, a_K X, a_kp X, a_fd X, a_tp X, a_S X) (d_bf D, f_rw (a_F X), x9.2, d_tk D, d_fr D, d_to D, d_vl D, d_fa D)) (fun n_20 x9 hI_21 ih_22 => ?_) k (0, T1) (by show _ = _; omega)
            obtain ⟨j, T1⟩ := x9
            dsimp only at hI_21 ih_22 ⊢
            refine q_iload K 0 dX4_home_89 rfl ?_
            refine q_iload_n K 6 dX4_home_91 rfl ?_
            refine q_icmp_ge 107 K dX4_home_92 (by decide) (fun c_23 => ?_) (fun c_23 => ?_)
            · have c_23n : k ≤ j := (nI_leI (a := k) (b := j) (by omega) (by omega)).mp c_23
              refine q_ws (ws' := w_M (k_Z M) B (f_hoursR (f_gn (nI i)) (a_F X) k, a_K X, a_kp X, a_fd X, a_tp X, a_S X) (d_bf D, f_rw (a_F X), T1, d_tk D, d_fr D, d_to D, d_vl D, d_fa D)) (by rw [show j = k by omega]) ?_
              refine q_aload_n K 3 dX4_home_107 rfl ?_
              refine q_get (.ref (B 1)) K ws_X4 0 rfl rfl 0 (by decide) fl_X4_7 rfl dX4_home_108 ?_
              refine q_iconst 4 K dX4_home_111 rfl ?_
              refine q_iload_n K 4 dX4_home_112 rfl ?_
              refine q_iadd K dX4_home_113 ?_
              refine q_eqi (nI (4 + f)) (kn_add 4 f) ?_
              refine q_iald K 1 rfl (vp_in_nI (n := 4 + f) (N := 71) (by omega) (by omega)) dX4_home_114 ?_
              refine q_eqi (f_bs (f_hoursR (f_gn (nI i)) (a_F X) k) f) (by rw [nI_clamp (n := 4 + f) (by omega)]; exact rw_bs _ (by omega)) ?_
              refine q_eqi (f_bs (f_hoursC (goH i) (a_F X) k) f) (hH_bs (by omega) hm hm2 _ _) ?_
              refine q_iload_n K 5 dX4_home_115 rfl ?_
              refine q_icmp_gt 124 K dX4_home_116 (by decide) (fun c_24 => ?_) (fun c_24 => ?_)
              · refine q_iload K 2 dX4_home_124 rfl ?_
                refine q_istore (lv' := [(4, .int (-1)), (6, .int (nI j)), (5, .int (nI i)), (0, .ref (B 0)), (1, .int (nI f)), (2, .int v), (3, .int (nI k))]) K dX4_home_126 (by decide) rfl ?_
                refine q_aload_n K 3 dX4_home_128 rfl ?_
                refine q_get (.ref (B 4)) K ws_X4 0 rfl rfl 3 (by decide) fl_X4_19 rfl dX4_home_129 ?_
                refine q_aload_n K 3 dX4_home_132 rfl ?_
                refine q_get (.ref (B 1)) K ws_X4 0 rfl rfl 0 (by decide) fl_X4_7 rfl dX4_home_133 ?_
                refine q_perm (ws' := ([4, 1, 0, 2, 3, 5, 6, 7, 8, 9, 10] : List Nat).map (fun i9 => (w_M (k_Z M) B (f_hoursR (f_gn (nI i)) (a_F X) k, a_K X, a_kp X, a_fd X, a_tp X, a_S X) (d_bf D, f_rw (a_F X), T1, d_tk D, d_fr D, d_to D, d_vl D, d_fa D)).getD i9 (0, .inr (0, [])))) (k_pick _ (show (List.range 11).Perm _ by decide) rfl) ?_
                refine q_csV (rest := []) K ks_X4_copyRow (c_X4_copyRow (k_l M) (k_Z M) (B 4) (B 1) (f_rw (a_F X)) (f_rw (f_hoursR (f_gn (nI i)) (a_F X) k))) [] (([0, 2, 3, 5, 6, 7, 8, 9, 10] : List Nat).map (fun i9 => (w_M (k_Z M) B (f_hoursR (f_gn (nI i)) (a_F X) k, a_K X, a_kp X, a_fd X, a_tp X, a_S X) (d_bf D, f_rw (a_F X), T1, d_tk D, d_fr D, d_to D, d_vl D, d_fa D)).getD i9 (0, .inr (0, [])))) rfl ml_X4_141 rfl rfl (Nat.le_of_ble_eq_true rfl) ⟨Nat.le_of_ble_eq_true rfl, Nat.le_of_ble_eq_true rfl⟩ dX4_home_136 (fun w2 h_25 => ?_)
                obtain rfl := h_25
                refine q_perm (ws' := w_M (k_Z M) B X (d_bf D, f_rw (a_F X), T1, d_tk D, d_fr D, d_to D, d_vl D, d_fa D)) (k_pick [2, 1, 3, 4, 0, 5, 6, 7, 8, 9, 10] (show (List.range 11).Perm _ by decide) rfl) ?_
                refine q_iinc (nI (i + 1)) (lv' := [(5, .int (nI (i + 1))), (4, .int (-1)), (6, .int (nI j)), (0, .ref (B 0)), (1, .int (nI f)), (2, .int v), (3, .int (nI k))]) K 2 dX4_home_139 rfl (kn_inc i) (by decide) rfl ?_
                refine q_goto 55 K dX4_home_142 (by decide) ?_
                refine q_lv [0, 1, 3, 4, 5, 6] rfl ?_
                have e9 : r_bv (r_home (w_home (a_F X) f v k) k_bc (i + 1)) = (-1) := by rw [r_home_n0 hb  (by rw [w_home, decide_eq_true c_24]; decide)]; rfl
                have h9 := ih_14 (n_12 - 1) (i + 1, T1) (by omega) (by show i + 1 + (n_12 - 1) = z; omega)
                dsimp only at h9
                rw [e9] at h9
                exact h9
              · refine q_iload K 1 dX4_home_119 rfl ?_
                refine q_goto 126 K dX4_home_121 (by decide) ?_
                refine q_istore (lv' := [(4, .int (nI i)), (6, .int (nI j)), (5, .int (nI i)), (0, .ref (B 0)), (1, .int (nI f)), (2, .int v), (3, .int (nI k))]) K dX4_home_126 (by decide) rfl ?_
                refine q_aload_n K 3 dX4_home_128 rfl ?_
                refine q_get (.ref (B 4)) K ws_X4 0 rfl rfl 3 (by decide) fl_X4_19 rfl dX4_home_129 ?_
                refine q_aload_n K 3 dX4_home_132 rfl ?_
                refine q_get (.ref (B 1)) K ws_X4 0 rfl rfl 0 (by decide) fl_X4_7 rfl dX4_home_133 ?_
                refine q_perm (ws' := ([4, 1, 0, 2, 3, 5, 6, 7, 8, 9, 10] : List Nat).map (fun i9 => (w_M (k_Z M) B (f_hoursR (f_gn (nI i)) (a_F X) k, a_K X, a_kp X, a_fd X, a_tp X, a_S X) (d_bf D, f_rw (a_F X), T1, d_tk D, d_fr D, d_to D, d_vl D, d_fa D)).getD i9 (0, .inr (0, [])))) (k_pick _ (show (List.range 11).Perm _ by decide) rfl) ?_
                refine q_csV (rest := []) K ks_X4_copyRow (c_X4_copyRow (k_l M) (k_Z M) (B 4) (B 1) (f_rw (a_F X)) (f_rw (f_hoursR (f_gn (nI i)) (a_F X) k))) [] (([0, 2, 3, 5, 6, 7, 8, 9, 10] : List Nat).map (fun i9 => (w_M (k_Z M) B (f_hoursR (f_gn (nI i)) (a_F X) k, a_K X, a_kp X, a_fd X, a_tp X, a_S X) (d_bf D, f_rw (a_F X), T1, d_tk D, d_fr D, d_to D, d_vl D, d_fa D)).getD i9 (0, .inr (0, [])))) rfl ml_X4_141 rfl rfl (Nat.le_of_ble_eq_true rfl) ⟨Nat.le_of_ble_eq_true rfl, Nat.le_of_ble_eq_true rfl⟩ dX4_home_136 (fun w2 h_26 => ?_)
                obtain rfl := h_26
                refine q_perm (ws' := w_M (k_Z M) B X (d_bf D, f_rw (a_F X), T1, d_tk D, d_fr D, d_to D, d_vl D, d_fa D)) (k_pick [2, 1, 3, 4, 0, 5, 6, 7, 8, 9, 10] (show (List.range 11).Perm _ by decide) rfl) ?_
                refine q_iinc (nI (i + 1)) (lv' := [(5, .int (nI (i + 1))), (4, .int (nI i)), (6, .int (nI j)), (0, .ref (B 0)), (1, .int (nI f)), (2, .int v), (3, .int (nI k))]) K 2 dX4_home_139 rfl (kn_inc i) (by decide) rfl ?_
                refine q_goto 55 K dX4_home_142 (by decide) ?_
                refine q_lv [0, 1, 3, 4, 5, 6] rfl ?_
                have e9 : r_bv (r_home (w_home (a_F X) f v k) k_bc (i + 1)) = nI i := by rw [r_home_y0 hb  (by rw [w_home, decide_eq_false c_24]; rfl)]; rfl
                have h9 := ih_14 (n_12 - 1) (i + 1, T1) (by omega) (by show i + 1 + (n_12 - 1) = z; omega)
                dsimp only at h9
                rw [e9] at h9
                exact h9
            · have c_23n : ¬ (k ≤ j) := fun h9 => c_23 ((nI_leI (a := k) (b := j) (by omega) (by omega)).mpr h9)
              refine q_aload_n K 3 dX4_home_95 rfl ?_
              refine q_iload K 1 dX4_home_96 rfl ?_
              refine q_wV (q0 := 0) (As := [.int (nI i)]) (rest := []) K kv_X4_hourBut (c_X4_hourBut (k_l M) (k_Z M) B (f_hoursR (f_gn (nI i)) (a_F X) j, a_K X, a_kp X, a_fd X, a_tp X, a_S X) (d_bf D, f_rw (a_F X), T1, d_tk D, d_fr D, d_to D, d_vl D, d_fa D) m hm ((f_hoursR_wk _ _ _).trans hm2) (f_ok_hoursR _ hok (by rw [f_mm hm hm2]; exact hm) j) (nI i)) rfl rfl ml_X4_115 rfl rfl (Nat.le_of_ble_eq_true rfl) ⟨Nat.le_of_ble_eq_true rfl, Nat.le_of_ble_eq_true rfl⟩ dX4_home_98 (fun w2 h_27 => ?_)
              obtain ⟨x_29, rfl⟩ := h_27
              refine q_ws (ws' := w_M (k_Z M) B (f_hourR (f_gn (nI i)) (f_hoursR (f_gn (nI i)) (a_F X) j), a_K X, a_kp X, a_fd X, a_tp X, a_S X) (d_bf D, f_rw (a_F X), x_29, d_tk D, d_fr D, d_to D, d_vl D, d_fa D)) rfl ?_
              refine q_ws (ws' := w_M (k_Z M) B (f_hoursR (f_gn (nI i)) (a_F X) (j + 1), a_K X, a_kp X, a_fd X, a_tp X, a_S X) (d_bf D, f_rw (a_F X), x_29, d_tk D, d_fr D, d_to D, d_vl D, d_fa D)) rfl ?_
              refine q_iinc (nI (j + 1)) (lv' := [(6, .int (nI (j + 1))), (5, .int (nI i)), (4, .int (-1)), (0, .ref (B 0)), (1, .int (nI f)), (2, .int v), (3, .int (nI k))]) K 0 dX4_home_101 rfl (kn_inc j) (by decide) rfl ?_
              refine q_goto 89 K dX4_home_104 (by decide) ?_
              exact ih_22 (n_20 - 1) (j + 1, x_29) (by omega) (by show j + 1 + (n_20 - 1) = k; omega)
          · show kJ M 7 68 [(5, .int (nI i)), (4, .int (nI b)), (0, .ref (B 0)), (1, .int (nI f)), (2, .int v), (3, .int (nI k))] [] (w_M (k_Z M) B X (d_bf D, f_rw (a_F X), T1, d_tk D, d_fr D, d_to D, d_vl D, d_fa D))
            have hbl := (r_home_is i b hb).1
            refine q_iload K 1 dX4_home_68 rfl ?_
            refine q_if_lt 86 K dX4_home_70 (by decide) (fun c_30 => ?_) (fun c_30 => ?_)
            · have c_30n : b < 0 := (nI_ltI (a := b) (b := 0) (by omega) (by omega)).mp c_30
              exact absurd c_30n (Nat.not_lt_zero _)
            · have c_30n : ¬ (b < 0) := fun h9 => c_30 ((nI_ltI (a := b) (b := 0) (by omega) (by omega)).mpr h9)
              refine q_iload K 0 dX4_home_73 rfl ?_
              refine q_cp (rest := []) K ks_X4_many (c_X4_many (k_l M) (k_Z M) i (by omega)) ml_X4_168 rfl rfl (Nat.le_of_ble_eq_true rfl) ⟨Nat.le_of_ble_eq_true rfl, Nat.le_of_ble_eq_true rfl⟩ dX4_home_75 (fun r_31 e_r_31 => ?_)
              refine q_eqi (j_bc (nI i)) e_r_31 ?_
              refine q_iload K 1 dX4_home_78 rfl ?_
              refine q_cp (rest := [.int (j_bc (nI i))]) K ks_X4_many (c_X4_many (k_l M) (k_Z M) b (by omega)) ml_X4_168 rfl rfl (Nat.le_of_ble_eq_true rfl) ⟨Nat.le_of_ble_eq_true rfl, Nat.le_of_ble_eq_true rfl⟩ dX4_home_80 (fun r_32 e_r_32 => ?_)
              refine q_eqi (j_bc (nI b)) e_r_32 ?_
              refine q_icmp_ge 139 K dX4_home_83 (by decide) (fun c_33 => ?_) (fun c_33 => ?_)
              · refine q_iinc (nI (i + 1)) (lv' := [(5, .int (nI (i + 1))), (4, .int (nI b)), (0, .ref (B 0)), (1, .int (nI f)), (2, .int v), (3, .int (nI k))]) K 0 dX4_home_139 rfl (kn_inc i) (by decide) rfl ?_
                refine q_goto 55 K dX4_home_142 (by decide) ?_
                have e9 : r_bv (r_home (w_home (a_F X) f v k) k_bc (i + 1)) = nI b := by rw [r_home_m1 hb (by have := (bc_le (by omega) (by omega)).mp c_33; omega)]; rfl
                have h9 := ih_14 (n_12 - 1) (i + 1, T1) (by omega) (by show i + 1 + (n_12 - 1) = z; omega)
                dsimp only at h9
                rw [e9] at h9
                exact h9
              · refine q_iconst 0 K dX4_home_86 rfl ?_
                refine q_istore (lv' := [(6, .int 0), (5, .int (nI i)), (4, .int (nI b)), (0, .ref (B 0)), (1, .int (nI f)), (2, .int v), (3, .int (nI k))]) K dX4_home_87 (by decide) rfl ?_
                refine q_loop (α := Nat × (Nat → Int32)) (fun n9 x9 => x9.1 + n9 = k) 89 (fun x9 => [(6, .int (nI x9.1)), (5, .int (nI i)), (4, .int (nI b)), (0, .ref (B 0)), (1, .int (nI f)), (2, .int v), (3, .int (nI k))]) (fun x9 => w_M (k_Z M) B (f_hoursR (f_gn (nI i)) (a_F X) x9.1, a_K X, a_kp X, a_fd X, a_tp X, a_S X) (d_bf D, f_rw (a_F X), x9.2, d_tk D, d_fr D, d_to D, d_vl D, d_fa D)) (fun n_34 x9 hI_35 ih_36 => ?_) k (0, T1) (by show _ = _; omega)
                obtain ⟨j, T1⟩ := x9
                dsimp only at hI_35 ih_36 ⊢
                refine q_iload K 0 dX4_home_89 rfl ?_
                refine q_iload_n K 6 dX4_home_91 rfl ?_
                refine q_icmp_ge 107 K dX4_home_92 (by decide) (fun c_37 => ?_) (fun c_37 => ?_)
                · have c_37n : k ≤ j := (nI_leI (a := k) (b := j) (by omega) (by omega)).mp c_37
                  refine q_ws (ws' := w_M (k_Z M) B (f_hoursR (f_gn (nI i)) (a_F X) k, a_K X, a_kp X, a_fd X, a_tp X, a_S X) (d_bf D, f_rw (a_F X), T1, d_tk D, d_fr D, d_to D, d_vl D, d_fa D)) (by rw [show j = k by omega]) ?_
                  refine q_aload_n K 3 dX4_home_107 rfl ?_
                  refine q_get (.ref (B 1)) K ws_X4 0 rfl rfl 0 (by decide) fl_X4_7 rfl dX4_home_108 ?_
                  refine q_iconst 4 K dX4_home_111 rfl ?_
                  refine q_iload_n K 4 dX4_home_112 rfl ?_
                  refine q_iadd K dX4_home_113 ?_
                  refine q_eqi (nI (4 + f)) (kn_add 4 f) ?_
                  refine q_iald K 1 rfl (vp_in_nI (n := 4 + f) (N := 71) (by omega) (by omega)) dX4_home_114 ?_
                  refine q_eqi (f_bs (f_hoursR (f_gn (nI i)) (a_F X) k) f) (by rw [nI_clamp (n := 4 + f) (by omega)]; exact rw_bs _ (by omega)) ?_
                  refine q_eqi (f_bs (f_hoursC (goH i) (a_F X) k) f) (hH_bs (by omega) hm hm2 _ _) ?_
                  refine q_iload_n K 5 dX4_home_115 rfl ?_
                  refine q_icmp_gt 124 K dX4_home_116 (by decide) (fun c_38 => ?_) (fun c_38 => ?_)
                  · refine q_iload K 2 dX4_home_124 rfl ?_
                    refine q_istore (lv' := [(4, .int (nI b)), (6, .int (nI j)), (5, .int (nI i)), (0, .ref (B 0)), (1, .int (nI f)), (2, .int v), (3, .int (nI k))]) K dX4_home_126 (by decide) rfl ?_
                    refine q_aload_n K 3 dX4_home_128 rfl ?_
                    refine q_get (.ref (B 4)) K ws_X4 0 rfl rfl 3 (by decide) fl_X4_19 rfl dX4_home_129 ?_
                    refine q_aload_n K 3 dX4_home_132 rfl ?_
                    refine q_get (.ref (B 1)) K ws_X4 0 rfl rfl 0 (by decide) fl_X4_7 rfl dX4_home_133 ?_
                    refine q_perm (ws' := ([4, 1, 0, 2, 3, 5, 6, 7, 8, 9, 10] : List Nat).map (fun i9 => (w_M (k_Z M) B (f_hoursR (f_gn (nI i)) (a_F X) k, a_K X, a_kp X, a_fd X, a_tp X, a_S X) (d_bf D, f_rw (a_F X), T1, d_tk D, d_fr D, d_to D, d_vl D, d_fa D)).getD i9 (0, .inr (0, [])))) (k_pick _ (show (List.range 11).Perm _ by decide) rfl) ?_
                    refine q_csV (rest := []) K ks_X4_copyRow (c_X4_copyRow (k_l M) (k_Z M) (B 4) (B 1) (f_rw (a_F X)) (f_rw (f_hoursR (f_gn (nI i)) (a_F X) k))) [] (([0, 2, 3, 5, 6, 7, 8, 9, 10] : List Nat).map (fun i9 => (w_M (k_Z M) B (f_hoursR (f_gn (nI i)) (a_F X) k, a_K X, a_kp X, a_fd X, a_tp X, a_S X) (d_bf D, f_rw (a_F X), T1, d_tk D, d_fr D, d_to D, d_vl D, d_fa D)).getD i9 (0, .inr (0, [])))) rfl ml_X4_141 rfl rfl (Nat.le_of_ble_eq_true rfl) ⟨Nat.le_of_ble_eq_true rfl, Nat.le_of_ble_eq_true rfl⟩ dX4_home_136 (fun w2 h_39 => ?_)
                    obtain rfl := h_39
                    refine q_perm (ws' := w_M (k_Z M) B X (d_bf D, f_rw (a_F X), T1, d_tk D, d_fr D, d_to D, d_vl D, d_fa D)) (k_pick [2, 1, 3, 4, 0, 5, 6, 7, 8, 9, 10] (show (List.range 11).Perm _ by decide) rfl) ?_
                    refine q_iinc (nI (i + 1)) (lv' := [(5, .int (nI (i + 1))), (4, .int (nI b)), (6, .int (nI j)), (0, .ref (B 0)), (1, .int (nI f)), (2, .int v), (3, .int (nI k))]) K 2 dX4_home_139 rfl (kn_inc i) (by decide) rfl ?_
                    refine q_goto 55 K dX4_home_142 (by decide) ?_
                    refine q_lv [0, 1, 3, 4, 5, 6] rfl ?_
                    have e9 : r_bv (r_home (w_home (a_F X) f v k) k_bc (i + 1)) = nI b := by rw [r_home_n1 hb  (by rw [w_home, decide_eq_true c_38]; decide)]; rfl
                    have h9 := ih_14 (n_12 - 1) (i + 1, T1) (by omega) (by show i + 1 + (n_12 - 1) = z; omega)
                    dsimp only at h9
                    rw [e9] at h9
                    exact h9
                  · refine q_iload K 1 dX4_home_119 rfl ?_
                    refine q_goto 126 K dX4_home_121 (by decide) ?_
                    refine q_istore (lv' := [(4, .int (nI i)), (6, .int (nI j)), (5, .int (nI i)), (0, .ref (B 0)), (1, .int (nI f)), (2, .int v), (3, .int (nI k))]) K dX4_home_126 (by decide) rfl ?_
                    refine q_aload_n K 3 dX4_home_128 rfl ?_
                    refine q_get (.ref (B 4)) K ws_X4 0 rfl rfl 3 (by decide) fl_X4_19 rfl dX4_home_129 ?_
                    refine q_aload_n K 3 dX4_home_132 rfl ?_
                    refine q_get (.ref (B 1)) K ws_X4 0 rfl rfl 0 (by decide) fl_X4_7 rfl dX4_home_133 ?_
                    refine q_perm (ws' := ([4, 1, 0, 2, 3, 5, 6, 7, 8, 9, 10] : List Nat).map (fun i9 => (w_M (k_Z M) B (f_hoursR (f_gn (nI i)) (a_F X) k, a_K X, a_kp X, a_fd X, a_tp X, a_S X) (d_bf D, f_rw (a_F X), T1, d_tk D, d_fr D, d_to D, d_vl D, d_fa D)).getD i9 (0, .inr (0, [])))) (k_pick _ (show (List.range 11).Perm _ by decide) rfl) ?_
                    refine q_csV (rest := []) K ks_X4_copyRow (c_X4_copyRow (k_l M) (k_Z M) (B 4) (B 1) (f_rw (a_F X)) (f_rw (f_hoursR (f_gn (nI i)) (a_F X) k))) [] (([0, 2, 3, 5, 6, 7, 8, 9, 10] : List Nat).map (fun i9 => (w_M (k_Z M) B (f_hoursR (f_gn (nI i)) (a_F X) k, a_K X, a_kp X, a_fd X, a_tp X, a_S X) (d_bf D, f_rw (a_F X), T1, d_tk D, d_fr D, d_to D, d_vl D, d_fa D)).getD i9 (0, .inr (0, [])))) rfl ml_X4_141 rfl rfl (Nat.le_of_ble_eq_true rfl) ⟨Nat.le_of_ble_eq_true rfl, Nat.le_of_ble_eq_true rfl⟩ dX4_home_136 (fun w2 h_40 => ?_)
                    obtain rfl := h_40
                    refine q_perm (ws' := w_M (k_Z M) B X (d_bf D, f_rw (a_F X), T1, d_tk D, d_fr D, d_to D, d_vl D, d_fa D)) (k_pick [2, 1, 3, 4, 0, 5, 6, 7, 8, 9, 10] (show (List.range 11).Perm _ by decide) rfl) ?_
                    refine q_iinc (nI (i + 1)) (lv' := [(5, .int (nI (i + 1))), (4, .int (nI i)), (6, .int (nI j)), (0, .ref (B 0)), (1, .int (nI f)), (2, .int v), (3, .int (nI k))]) K 2 dX4_home_139 rfl (kn_inc i) (by decide) rfl ?_
                    refine q_goto 55 K dX4_home_142 (by decide) ?_
                    refine q_lv [0, 1, 3, 4, 5, 6] rfl ?_
                    have e9 : r_bv (r_home (w_home (a_F X) f v k) k_bc (i + 1)) = nI i := by rw [r_home_y1 hb (Nat.not_le.mp (fun h9 => c_33 ((bc_le (b := b) (i := i) (by omega) (by omega)).mpr h9))) (by rw [w_home, decide_eq_false c_38]; rfl)]; rfl
                    have h9 := ih_14 (n_12 - 1) (i + 1, T1) (by omega) (by show i + 1 + (n_12 - 1) = z; omega)
                    dsimp only at h9
                    rw [e9] at h9
                    exact h9
                · have c_37n : ¬ (k ≤ j) := fun h9 => c_37 ((nI_leI (a := k) (b := j) (by omega) (by omega)).mpr h9)
                  refine q_aload_n K 3 dX4_home_95 rfl ?_
                  refine q_iload K 1 dX4_home_96 rfl ?_
                  refine q_wV (q0 := 0) (As := [.int (nI i)]) (rest := []) K kv_X4_hourBut (c_X4_hourBut (k_l M) (k_Z M) B (f_hoursR (f_gn (nI i)) (a_F X) j, a_K X, a_kp X, a_fd X, a_tp X, a_S X) (d_bf D, f_rw (a_F X), T1, d_tk D, d_fr D, d_to D, d_vl D, d_fa D) m hm ((f_hoursR_wk _ _ _).trans hm2) (f_ok_hoursR _ hok (by rw [f_mm hm hm2]; exact hm) j) (nI i)) rfl rfl ml_X4_115 rfl rfl (Nat.le_of_ble_eq_true rfl) ⟨Nat.le_of_ble_eq_true rfl, Nat.le_of_ble_eq_true rfl⟩ dX4_home_98 (fun w2 h_41 => ?_)
                  obtain ⟨x_43, rfl⟩ := h_41
                  refine q_ws (ws' := w_M (k_Z M) B (f_hourR (f_gn (nI i)) (f_hoursR (f_gn (nI i)) (a_F X) j), a_K X, a_kp X, a_fd X, a_tp X, a_S X) (d_bf D, f_rw (a_F X), x_43, d_tk D, d_fr D, d_to D, d_vl D, d_fa D)) rfl ?_
                  refine q_ws (ws' := w_M (k_Z M) B (f_hoursR (f_gn (nI i)) (a_F X) (j + 1), a_K X, a_kp X, a_fd X, a_tp X, a_S X) (d_bf D, f_rw (a_F X), x_43, d_tk D, d_fr D, d_to D, d_vl D, d_fa D)) rfl ?_
                  refine q_iinc (nI (j + 1)) (lv' := [(6, .int (nI (j + 1))), (5, .int (nI i)), (4, .int (nI b)), (0, .ref (B 0)), (1, .int (nI f)), (2, .int v), (3, .int (nI k))]) K 0 dX4_home_101 rfl (kn_inc j) (by decide) rfl ?_
                  refine q_goto 89 K dX4_home_104 (by decide) ?_
                  exact ih_36 (n_34 - 1) (j + 1, x_43) (by omega) (by show j + 1 + (n_34 - 1) = k; omega)
      · have c_10 : ¬ (inR n 0 20) := (kn_eq e_r_9).mp c_10
        refine q_aload_n K 0 dX4_home_31 rfl ?_
        refine q_ldc K dX4_home_32 ct_X4_40 ?_
        refine q_eqi (r_fin 0) (by decide) ?_
        refine q_wI (q0 := 0) (As := [.int (r_fin 0)]) (rest := []) K kv_X4_finds (c_X4_finds (k_l M) (k_Z M) B X D 0 (by omega)) rfl rfl ml_X4_48 rfl rfl (Nat.le_of_ble_eq_true rfl) ⟨Nat.le_of_ble_eq_true rfl, Nat.le_of_ble_eq_true rfl⟩ dX4_home_34 (fun r_45 w2 h_44 => ?_)
        obtain ⟨e_r_45, rfl⟩ := h_44
        refine q_eqi (r_fin 0) e_r_45 ?_
        refine q_ws (ws' := w_M (k_Z M) B (a_F X, a_K X, a_kp X, fd_up (a_fd X) 0, a_tp X, a_S X) D) rfl ?_
        exact Rt _ _ (r_fin 0) (w_M (k_Z M) B (a_F X, a_K X, a_kp X, fd_up (a_fd X) 0, a_tp X, a_S X) D) dX4_home_37 rfl (⟨D, by simp only [o_home, a_fin, if_pos c_2, if_pos c_6, if_neg c_10, e_r_1, e_r_5, e_r_9, nI_clamp (n := f) (by omega)] <;> rfl, by simp only [o_home, a_fin, if_pos c_2, if_pos c_6, if_neg c_10, nI_clamp (n := f) (by omega)] <;> rfl⟩)
theorem kv_X4_home : k_iv yX4_home cX4_home 7 (some .int) 3 := ⟨⟨im_X4_home, se_X4_home⟩, in_X4, co_X4_home, by decide +kernel⟩
set_option maxHeartbeats 4000000 in
set_option maxRecDepth 100000 in
theorem c_X4_seed (l : Launch) (Z : kz_Z) (B : Nat → Nat) (X : AS) (D : DJ) (m : Nat) (hm : m ≤ 8) (hm2 : f_wk (a_F X) = nI m) (hok : f_ok (a_F X)) (v : Int32) : KI l Z yX4_seed cX4_seed 2 .int 1 23 [.ref (B 0), .int v] (w_M Z B X D) (fun r w2 => ∃ D2, r = (o_seed X v).1 ∧ w2 = w_M Z B (o_seed X v).2 D2) := by
  refine ki_of (by decide) [(0, .ref (B 0)), (1, .int v)] (Nat.le_of_ble_eq_true rfl) rfl ?_
  intro M e1 e2 K Rt
  subst e1 e2
  refine q_aload_n K 0 dX4_seed_0 rfl ?_
  refine q_iconst 2 K dX4_seed_1 rfl ?_
  refine q_iload_n K 1 dX4_seed_2 rfl ?_
  refine q_wI (q0 := 0) (As := [.int 2, .int v]) (rest := []) K kv_X4_becomes (c_X4_becomes (k_l M) (k_Z M) B X D 2 (by omega) v) rfl rfl ml_X4_58 rfl rfl (Nat.le_of_ble_eq_true rfl) ⟨Nat.le_of_ble_eq_true rfl, Nat.le_of_ble_eq_true rfl⟩ dX4_seed_3 (fun r_2 w2 h_1 => ?_)
  obtain ⟨e_r_2, rfl⟩ := h_1
  refine q_eqi (f_zz (a_F X)) (e_r_2.trans rfl) ?_
  refine q_ws (ws' := w_M (k_Z M) B (f_setz (a_F X) v, a_K X, a_kp X, a_fd X, a_tp X, a_S X) D) (by rw [up_2 _ _]; rfl) ?_
  exact Rt _ _ (f_zz (a_F X)) (w_M (k_Z M) B (f_setz (a_F X) v, a_K X, a_kp X, a_fd X, a_tp X, a_S X) D) dX4_seed_6 rfl (⟨D, rfl, rfl⟩)
theorem kv_X4_seed : k_iv yX4_seed cX4_seed 2 (some .int) 1 := ⟨⟨im_X4_seed, se_X4_seed⟩, in_X4, co_X4_seed, by decide +kernel⟩
set_option maxHeartbeats 4000000 in
set_option maxRecDepth 100000 in
theorem c_X4_wipe (l : Launch) (Z : kz_Z) (B : Nat → Nat) (X : AS) (D : DJ) (m : Nat) (hm : m ≤ 8) (hm2 : f_wk (a_F X) = nI m) (hok : f_ok (a_F X)) : KI l Z yX4_wipe cX4_wipe 2 .int 0 0 [.ref (B 0)] (w_M Z B X D) (fun r w2 => ∃ D2, r = (o_wipe X).1 ∧ w2 = w_M Z B (o_wipe X).2 D2) := by
  refine ki_of (by decide) [(0, .ref (B 0))] (Nat.le_of_ble_eq_true rfl) rfl ?_
  intro M e1 e2 K Rt
  subst e1 e2
  refine q_aload_n K 0 dX4_wipe_0 rfl ?_
  refine q_get (.int (nI ((a_tp X).2))) K ws_X4 0 rfl rfl 7 (by decide) fl_X4_193 rfl dX4_wipe_1 ?_
  refine q_istore_n (lv' := [(1, .int (nI ((a_tp X).2))), (0, .ref (B 0))]) K dX4_wipe_4 (by decide) rfl ?_
  refine q_aload_n K 1 dX4_wipe_5 rfl ?_
  refine q_iconst 0 K dX4_wipe_6 rfl ?_
  refine q_put (ty := .int) (ws' := w_M (k_Z M) B (a_F X, a_K X, a_kp X, a_fd X, ((a_tp X).1, 0), a_S X) D) K ws_X4 tyX4 tyX4_ok nmX4 0 rfl rfl 7 (by decide) fl_X4_193 rfl (by decide +kernel) rfl rfl (Nat.le_of_ble_eq_true rfl) rfl dX4_wipe_7 ?_
  refine q_iload_n K 0 dX4_wipe_10 rfl ?_
  exact Rt _ _ (nI ((a_tp X).2)) (w_M (k_Z M) B (a_F X, a_K X, a_kp X, a_fd X, ((a_tp X).1, 0), a_S X) D) dX4_wipe_11 rfl (⟨D, rfl, rfl⟩)
theorem kv_X4_wipe : k_iv yX4_wipe cX4_wipe 2 (some .int) 0 := ⟨⟨im_X4_wipe, se_X4_wipe⟩, in_X4, co_X4_wipe, by decide +kernel⟩
set_option maxHeartbeats 4000000 in
set_option maxRecDepth 100000 in
theorem c_X4_hold (l : Launch) (Z : kz_Z) (B : Nat → Nat) (X : AS) (D : DJ) (m : Nat) (hm : m ≤ 8) (hm2 : f_wk (a_F X) = nI m) (hok : f_ok (a_F X)) (spot w : Int32) : KI l Z yX4_hold cX4_hold 3 .int 1 25 [.ref (B 0), .int spot, .int w] (w_M Z B X D) (fun r w2 => ∃ D2, r = (o_hold X spot w).1 ∧ w2 = w_M Z B (o_hold X spot w).2 D2) := by
  refine ki_of (by decide) [(0, .ref (B 0)), (1, .int spot), (2, .int w)] (Nat.le_of_ble_eq_true rfl) rfl ?_
  intro M e1 e2 K Rt
  subst e1 e2
  refine q_iload_n K 1 dX4_hold_0 rfl ?_
  refine q_i2l K dX4_hold_1 ?_
  refine q_lconst 0 K dX4_hold_2 rfl ?_
  refine q_ldc2 K dX4_hold_3 ct_X4_74 ?_
  refine q_cp (rest := []) K ks_X4_isIn (c_X4_isIn (k_l M) (k_Z M) spot.toInt64 0 9) ml_X4_43 rfl rfl (Nat.le_of_ble_eq_true rfl) ⟨Nat.le_of_ble_eq_true rfl, Nat.le_of_ble_eq_true rfl⟩ dX4_hold_6 (fun r_1 e_r_1 => ?_)
  have e_r_1 : r_1 = if inR spot 0 9 then 1 else 0 := kn_if e_r_1 (kn_i64 (v := spot) (lo := 0) (hi := 9))
  refine q_if_eq 25 K dX4_hold_9 (by decide) (fun c_2 => ?_) (fun c_2 => ?_)
  · have c_2 : ¬ (inR spot 0 9) := (kn_eq e_r_1).mp c_2
    refine q_aload_n K 0 dX4_hold_25 rfl ?_
    refine q_ldc K dX4_hold_26 ct_X4_40 ?_
    refine q_eqi (r_fin 0) (by decide) ?_
    refine q_wI (q0 := 0) (As := [.int (r_fin 0)]) (rest := []) K kv_X4_finds (c_X4_finds (k_l M) (k_Z M) B X D 0 (by omega)) rfl rfl ml_X4_48 rfl rfl (Nat.le_of_ble_eq_true rfl) ⟨Nat.le_of_ble_eq_true rfl, Nat.le_of_ble_eq_true rfl⟩ dX4_hold_28 (fun r_4 w2 h_3 => ?_)
    obtain ⟨e_r_4, rfl⟩ := h_3
    refine q_eqi (r_fin 0) e_r_4 ?_
    refine q_ws (ws' := w_M (k_Z M) B (a_F X, a_K X, a_kp X, fd_up (a_fd X) 0, a_tp X, a_S X) D) rfl ?_
    exact Rt _ _ (r_fin 0) (w_M (k_Z M) B (a_F X, a_K X, a_kp X, fd_up (a_fd X) 0, a_tp X, a_S X) D) dX4_hold_31 rfl (⟨D, by simp only [o_hold, a_fin, if_neg c_2, e_r_1] <;> rfl, by simp only [o_hold, a_fin, if_neg c_2] <;> rfl⟩)
  · have c_2 : inR spot 0 9 := (kn_ne e_r_1).mp c_2
    obtain ⟨f, h_f, e_f⟩ := kn_rng (n := 9) c_2 rfl
    subst e_f
    refine q_iload_n K 2 dX4_hold_12 rfl ?_
    refine q_iconst (-1) K dX4_hold_13 rfl ?_
    refine q_icmp_eq 32 K dX4_hold_14 (by decide) (fun c_5 => ?_) (fun c_5 => ?_)
    · refine q_aload_n K 0 dX4_hold_32 rfl ?_
      refine q_get (.ref (B 1)) K ws_X4 0 rfl rfl 0 (by decide) fl_X4_7 rfl dX4_hold_33 ?_
      refine q_bipush 61 K dX4_hold_36 rfl ?_
      refine q_iload_n K 1 dX4_hold_38 rfl ?_
      refine q_iadd K dX4_hold_39 ?_
      refine q_eqi (nI (61 + f)) (kn_add 61 f) ?_
      refine q_iload_n K 2 dX4_hold_40 rfl ?_
      refine q_iast (ws' := w_M (k_Z M) B (f_sethd (a_F X) (upd (f_hd (a_F X)) f w), a_K X, a_kp X, a_fd X, a_tp X, a_S X) D) K 1 rfl (vp_in_nI (n := 61 + f) (N := 71) (by omega) (by omega)) (by rw [nI_clamp (n := 61 + f) (by omega), up_hd _ (by omega) _]; rfl) dX4_hold_41 ?_
      refine q_iconst 1 K dX4_hold_42 rfl ?_
      exact Rt _ _ 1 (w_M (k_Z M) B (f_sethd (a_F X) (upd (f_hd (a_F X)) f w), a_K X, a_kp X, a_fd X, a_tp X, a_S X) D) dX4_hold_43 rfl (⟨D, by simp only [o_hold, a_fin, if_pos c_2, if_pos c_5, e_r_1, nI_clamp (n := f) (by omega)] <;> rfl, by simp only [o_hold, a_fin, if_pos c_2, if_pos c_5, nI_clamp (n := f) (by omega)] <;> rfl⟩)
    · refine q_aload_n K 0 dX4_hold_17 rfl ?_
      refine q_iload_n K 2 dX4_hold_18 rfl ?_
      refine q_wI (q0 := 0) (As := [.int w]) (rest := []) K kv_X4_isWalker (c_X4_isWalker (k_l M) (k_Z M) B X D m hm hm2 w) rfl rfl ml_X4_89 rfl rfl (Nat.le_of_ble_eq_true rfl) ⟨Nat.le_of_ble_eq_true rfl, Nat.le_of_ble_eq_true rfl⟩ dX4_hold_19 (fun r_7 w2 h_6 => ?_)
      obtain ⟨e_r_7, rfl⟩ := h_6
      refine q_if_ne 32 K dX4_hold_22 (by decide) (fun c_8 => ?_) (fun c_8 => ?_)
      · have c_8 : isW X w := (kn_ne e_r_7).mp c_8
        refine q_aload_n K 0 dX4_hold_32 rfl ?_
        refine q_get (.ref (B 1)) K ws_X4 0 rfl rfl 0 (by decide) fl_X4_7 rfl dX4_hold_33 ?_
        refine q_bipush 61 K dX4_hold_36 rfl ?_
        refine q_iload_n K 1 dX4_hold_38 rfl ?_
        refine q_iadd K dX4_hold_39 ?_
        refine q_eqi (nI (61 + f)) (kn_add 61 f) ?_
        refine q_iload_n K 2 dX4_hold_40 rfl ?_
        refine q_iast (ws' := w_M (k_Z M) B (f_sethd (a_F X) (upd (f_hd (a_F X)) f w), a_K X, a_kp X, a_fd X, a_tp X, a_S X) D) K 1 rfl (vp_in_nI (n := 61 + f) (N := 71) (by omega) (by omega)) (by rw [nI_clamp (n := 61 + f) (by omega), up_hd _ (by omega) _]; rfl) dX4_hold_41 ?_
        refine q_iconst 1 K dX4_hold_42 rfl ?_
        exact Rt _ _ 1 (w_M (k_Z M) B (f_sethd (a_F X) (upd (f_hd (a_F X)) f w), a_K X, a_kp X, a_fd X, a_tp X, a_S X) D) dX4_hold_43 rfl (⟨D, by simp only [o_hold, a_fin, if_pos c_2, if_neg c_5, if_pos c_8, e_r_1, e_r_7, nI_clamp (n := f) (by omega)] <;> rfl, by simp only [o_hold, a_fin, if_pos c_2, if_neg c_5, if_pos c_8, nI_clamp (n := f) (by omega)] <;> rfl⟩)
      · have c_8 : ¬ (isW X w) := (kn_eq e_r_7).mp c_8
        refine q_aload_n K 0 dX4_hold_25 rfl ?_
        refine q_ldc K dX4_hold_26 ct_X4_40 ?_
        refine q_eqi (r_fin 0) (by decide) ?_
        refine q_wI (q0 := 0) (As := [.int (r_fin 0)]) (rest := []) K kv_X4_finds (c_X4_finds (k_l M) (k_Z M) B X D 0 (by omega)) rfl rfl ml_X4_48 rfl rfl (Nat.le_of_ble_eq_true rfl) ⟨Nat.le_of_ble_eq_true rfl, Nat.le_of_ble_eq_true rfl⟩ dX4_hold_28 (fun r_10 w2 h_9 => ?_)
        obtain ⟨e_r_10, rfl⟩ := h_9
        refine q_eqi (r_fin 0) e_r_10 ?_
        refine q_ws (ws' := w_M (k_Z M) B (a_F X, a_K X, a_kp X, fd_up (a_fd X) 0, a_tp X, a_S X) D) rfl ?_
        exact Rt _ _ (r_fin 0) (w_M (k_Z M) B (a_F X, a_K X, a_kp X, fd_up (a_fd X) 0, a_tp X, a_S X) D) dX4_hold_31 rfl (⟨D, by simp only [o_hold, a_fin, if_pos c_2, if_neg c_5, if_neg c_8, e_r_1, e_r_7, nI_clamp (n := f) (by omega)] <;> rfl, by simp only [o_hold, a_fin, if_pos c_2, if_neg c_5, if_neg c_8, nI_clamp (n := f) (by omega)] <;> rfl⟩)
theorem kv_X4_hold : k_iv yX4_hold cX4_hold 3 (some .int) 2 := ⟨⟨im_X4_hold, se_X4_hold⟩, in_X4, co_X4_hold, by decide +kernel⟩
set_option maxHeartbeats 4000000 in
set_option maxRecDepth 100000 in
theorem c_X4_image (l : Launch) (Z : kz_Z) (B : Nat → Nat) (X : AS) (D : DJ) (m : Nat) (hm : m ≤ 8) (hm2 : f_wk (a_F X) = nI m) (hok : f_ok (a_F X)) : KI l Z yX4_image cX4_image 1 .int 1 22 [.ref (B 0)] (w_M Z B X D) (fun r w2 => ∃ D2, r = (o_image X).1 ∧ w2 = w_M Z B (o_image X).2 D2) := by
  refine ki_of (by decide) [(0, .ref (B 0))] (Nat.le_of_ble_eq_true rfl) rfl ?_
  intro M e1 e2 K Rt
  subst e1 e2
  refine q_aload_n K 0 dX4_image_0 rfl ?_
  refine q_get (.ref (B 1)) K ws_X4 0 rfl rfl 0 (by decide) fl_X4_7 rfl dX4_image_1 ?_
  refine q_aload_n K 0 dX4_image_4 rfl ?_
  refine q_get (.ref (B 2)) K ws_X4 0 rfl rfl 1 (by decide) fl_X4_13 rfl dX4_image_5 ?_
  refine q_perm (ws' := ([1, 2, 0, 3, 4, 5, 6, 7, 8, 9, 10] : List Nat).map (fun i9 => (w_M (k_Z M) B X D).getD i9 (0, .inr (0, [])))) (k_pick _ (show (List.range 11).Perm _ by decide) rfl) ?_
  refine q_csV (rest := []) K ks_X4_copyRow (c_X4_copyRow (k_l M) (k_Z M) (B 1) (B 2) (f_rw (a_F X)) (f_rw (a_K X))) [] (([0, 3, 4, 5, 6, 7, 8, 9, 10] : List Nat).map (fun i9 => (w_M (k_Z M) B X D).getD i9 (0, .inr (0, [])))) rfl ml_X4_141 rfl rfl (Nat.le_of_ble_eq_true rfl) ⟨Nat.le_of_ble_eq_true rfl, Nat.le_of_ble_eq_true rfl⟩ dX4_image_8 (fun w2 h_1 => ?_)
  obtain rfl := h_1
  refine q_perm (ws' := w_M (k_Z M) B (a_F X, a_F X, a_kp X, a_fd X, a_tp X, a_S X) D) (k_pick [2, 0, 1, 3, 4, 5, 6, 7, 8, 9, 10] (show (List.range 11).Perm _ by decide) rfl) ?_
  refine q_aload_n K 0 dX4_image_11 rfl ?_
  refine q_iconst 1 K dX4_image_12 rfl ?_
  refine q_put (ty := .boolean) (ws' := w_M (k_Z M) B (a_F X, a_F X, 1, a_fd X, a_tp X, a_S X) D) K ws_X4 tyX4 tyX4_ok nmX4 0 rfl rfl 4 (by decide) fl_X4_278 rfl (by decide +kernel) rfl rfl (Nat.le_of_ble_eq_true rfl) rfl dX4_image_13 ?_
  refine q_iconst 1 K dX4_image_16 rfl ?_
  exact Rt _ _ 1 (w_M (k_Z M) B (a_F X, a_F X, 1, a_fd X, a_tp X, a_S X) D) dX4_image_17 rfl (⟨D, rfl, rfl⟩)
theorem kv_X4_image : k_iv yX4_image cX4_image 1 (some .int) 0 := ⟨⟨im_X4_image, se_X4_image⟩, in_X4, co_X4_image, by decide +kernel⟩
set_option maxHeartbeats 4000000 in
set_option maxRecDepth 100000 in
theorem c_X4_undo (l : Launch) (Z : kz_Z) (B : Nat → Nat) (X : AS) (D : DJ) (m : Nat) (hm : m ≤ 8) (hm2 : f_wk (a_F X) = nI m) (hok : f_ok (a_F X)) : KI l Z yX4_undo cX4_undo 1 .int 1 22 [.ref (B 0)] (w_M Z B X D) (fun r w2 => ∃ D2, r = (o_undo X).1 ∧ w2 = w_M Z B (o_undo X).2 D2) := by
  refine ki_of (by decide) [(0, .ref (B 0))] (Nat.le_of_ble_eq_true rfl) rfl ?_
  intro M e1 e2 K Rt
  subst e1 e2
  refine q_aload_n K 0 dX4_undo_0 rfl ?_
  refine q_get (.int (a_kp X)) K ws_X4 0 rfl rfl 4 (by decide) fl_X4_278 rfl dX4_undo_1 ?_
  refine q_if_ne 14 K dX4_undo_4 (by decide) (fun c_1 => ?_) (fun c_1 => ?_)
  · refine q_aload_n K 0 dX4_undo_14 rfl ?_
    refine q_get (.ref (B 2)) K ws_X4 0 rfl rfl 1 (by decide) fl_X4_13 rfl dX4_undo_15 ?_
    refine q_aload_n K 0 dX4_undo_18 rfl ?_
    refine q_get (.ref (B 1)) K ws_X4 0 rfl rfl 0 (by decide) fl_X4_7 rfl dX4_undo_19 ?_
    refine q_perm (ws' := ([2, 1, 0, 3, 4, 5, 6, 7, 8, 9, 10] : List Nat).map (fun i9 => (w_M (k_Z M) B X D).getD i9 (0, .inr (0, [])))) (k_pick _ (show (List.range 11).Perm _ by decide) rfl) ?_
    refine q_csV (rest := []) K ks_X4_copyRow (c_X4_copyRow (k_l M) (k_Z M) (B 2) (B 1) (f_rw (a_K X)) (f_rw (a_F X))) [] (([0, 3, 4, 5, 6, 7, 8, 9, 10] : List Nat).map (fun i9 => (w_M (k_Z M) B X D).getD i9 (0, .inr (0, [])))) rfl ml_X4_141 rfl rfl (Nat.le_of_ble_eq_true rfl) ⟨Nat.le_of_ble_eq_true rfl, Nat.le_of_ble_eq_true rfl⟩ dX4_undo_22 (fun w2 h_2 => ?_)
    obtain rfl := h_2
    refine q_perm (ws' := w_M (k_Z M) B (a_K X, a_K X, a_kp X, a_fd X, a_tp X, a_S X) D) (k_pick [2, 1, 0, 3, 4, 5, 6, 7, 8, 9, 10] (show (List.range 11).Perm _ by decide) rfl) ?_
    refine q_aload_n K 0 dX4_undo_25 rfl ?_
    refine q_get (.ref (B 1)) K ws_X4 0 rfl rfl 0 (by decide) fl_X4_7 rfl dX4_undo_26 ?_
    refine q_iconst 1 K dX4_undo_29 rfl ?_
    refine q_iald K 1 rfl (vp_in_nI (n := 1) (N := 71) (by omega) (by omega)) dX4_undo_30 ?_
    refine q_eqi (f_hr (a_K X)) rfl ?_
    exact Rt _ _ (f_hr (a_K X)) (w_M (k_Z M) B (a_K X, a_K X, a_kp X, a_fd X, a_tp X, a_S X) D) dX4_undo_31 rfl (⟨D, by simp only [o_undo, a_fin, if_neg c_1] <;> rfl, by simp only [o_undo, a_fin, if_neg c_1] <;> rfl⟩)
  · refine q_aload_n K 0 dX4_undo_7 rfl ?_
    refine q_ldc K dX4_undo_8 ct_X4_47 ?_
    refine q_eqi (r_fin 3) (by decide) ?_
    refine q_wI (q0 := 0) (As := [.int (r_fin 3)]) (rest := []) K kv_X4_finds (c_X4_finds (k_l M) (k_Z M) B X D 3 (by omega)) rfl rfl ml_X4_48 rfl rfl (Nat.le_of_ble_eq_true rfl) ⟨Nat.le_of_ble_eq_true rfl, Nat.le_of_ble_eq_true rfl⟩ dX4_undo_10 (fun r_4 w2 h_3 => ?_)
    obtain ⟨e_r_4, rfl⟩ := h_3
    refine q_eqi (r_fin 3) e_r_4 ?_
    refine q_ws (ws' := w_M (k_Z M) B (a_F X, a_K X, a_kp X, fd_up (a_fd X) 3, a_tp X, a_S X) D) rfl ?_
    exact Rt _ _ (r_fin 3) (w_M (k_Z M) B (a_F X, a_K X, a_kp X, fd_up (a_fd X) 3, a_tp X, a_S X) D) dX4_undo_13 rfl (⟨D, by simp only [o_undo, a_fin, if_pos c_1] <;> rfl, by simp only [o_undo, a_fin, if_pos c_1] <;> rfl⟩)
theorem kv_X4_undo : k_iv yX4_undo cX4_undo 1 (some .int) 0 := ⟨⟨im_X4_undo, se_X4_undo⟩, in_X4, co_X4_undo, by decide +kernel⟩
set_option maxHeartbeats 4000000 in
set_option maxRecDepth 100000 in
theorem c_X4_tear (l : Launch) (Z : kz_Z) (B : Nat → Nat) (X : AS) (D : DJ) (m : Nat) (hm : m ≤ 8) (hm2 : f_wk (a_F X) = nI m) (hok : f_ok (a_F X)) : KI l Z yX4_tear cX4_tear 2 .int 0 0 [.ref (B 0)] (w_M Z B X D) (fun r w2 => ∃ D2, r = (o_tear X).1 ∧ w2 = w_M Z B (o_tear X).2 D2) := by
  refine ki_of (by decide) [(0, .ref (B 0))] (Nat.le_of_ble_eq_true rfl) rfl ?_
  intro M e1 e2 K Rt
  subst e1 e2
  refine q_aload_n K 0 dX4_tear_0 rfl ?_
  refine q_get (.int (a_kp X)) K ws_X4 0 rfl rfl 4 (by decide) fl_X4_278 rfl dX4_tear_1 ?_
  refine q_istore_n (lv' := [(1, .int (a_kp X)), (0, .ref (B 0))]) K dX4_tear_4 (by decide) rfl ?_
  refine q_aload_n K 1 dX4_tear_5 rfl ?_
  refine q_iconst 0 K dX4_tear_6 rfl ?_
  refine q_put (ty := .boolean) (ws' := w_M (k_Z M) B (a_F X, a_K X, 0, a_fd X, a_tp X, a_S X) D) K ws_X4 tyX4 tyX4_ok nmX4 0 rfl rfl 4 (by decide) fl_X4_278 rfl (by decide +kernel) rfl rfl (Nat.le_of_ble_eq_true rfl) rfl dX4_tear_7 ?_
  refine q_iload_n K 0 dX4_tear_10 rfl ?_
  refine q_if_eq 18 K dX4_tear_11 (by decide) (fun c_1 => ?_) (fun c_1 => ?_)
  · refine q_iconst 0 K dX4_tear_18 rfl ?_
    exact Rt _ _ 0 (w_M (k_Z M) B (a_F X, a_K X, 0, a_fd X, a_tp X, a_S X) D) dX4_tear_19 rfl (⟨D, (if_neg (fun h9 => h9 c_1)).symm, rfl⟩)
  · refine q_iconst 1 K dX4_tear_14 rfl ?_
    refine q_goto 19 K dX4_tear_15 (by decide) ?_
    exact Rt _ _ 1 (w_M (k_Z M) B (a_F X, a_K X, 0, a_fd X, a_tp X, a_S X) D) dX4_tear_19 rfl (⟨D, (if_pos c_1).symm, rfl⟩)
theorem kv_X4_tear : k_iv yX4_tear cX4_tear 2 (some .int) 0 := ⟨⟨im_X4_tear, se_X4_tear⟩, in_X4, co_X4_tear, by decide +kernel⟩
set_option maxHeartbeats 4000000 in
set_option maxRecDepth 100000 in
theorem c_X4_isUnder (l : Launch) (Z : kz_Z) (a b : Nat) (ha : a ≤ 6) (hb : b ≤ 6) : KP l Z yX4_isUnder cX4_isUnder 2 .boolean 0 0 [.int (nI a), .int (nI b)] (fun r => r = if j_under 7 (nI a) (nI b) = true then 1 else 0) := by
  refine ki_of (by decide) [(0, .int (nI a)), (1, .int (nI b))] (Nat.le_of_ble_eq_true rfl) rfl ?_
  intro M e1 e2 K Rt
  subst e1 e2
  refine q_iload_n K 1 dX4_isUnder_0 rfl ?_
  refine q_if_eq 45 K dX4_isUnder_1 (by decide) (fun c_1 => ?_) (fun c_1 => ?_)
  · have c_1n : b = 0 := (nI_eq (a := b) (b := 0) (by omega) (by omega)).mp c_1
    refine q_iconst 1 K dX4_isUnder_45 rfl ?_
    refine q_goto 50 K dX4_isUnder_46 (by decide) ?_
    exact Rt _ _ 1 ([]) dX4_isUnder_50 rfl (⟨by rw [j_und a (by omega) b (by omega), if_pos (show r_und a b = true from decide_eq_true (by omega))], rfl⟩)
  · have c_1n : ¬ (b = 0) := fun h9 => c_1 ((nI_eq (a := b) (b := 0) (by omega) (by omega)).mpr h9)
    refine q_iload_n K 0 dX4_isUnder_4 rfl ?_
    refine q_iload_n K 1 dX4_isUnder_5 rfl ?_
    refine q_icmp_eq 45 K dX4_isUnder_6 (by decide) (fun c_2 => ?_) (fun c_2 => ?_)
    · have c_2n : a = b := (nI_eq (a := a) (b := b) (by omega) (by omega)).mp c_2
      refine q_iconst 1 K dX4_isUnder_45 rfl ?_
      refine q_goto 50 K dX4_isUnder_46 (by decide) ?_
      exact Rt _ _ 1 ([]) dX4_isUnder_50 rfl (⟨by rw [j_und a (by omega) b (by omega), if_pos (show r_und a b = true from decide_eq_true (by omega))], rfl⟩)
    · have c_2n : ¬ (a = b) := fun h9 => c_2 ((nI_eq (a := a) (b := b) (by omega) (by omega)).mpr h9)
      refine q_iload_n K 1 dX4_isUnder_9 rfl ?_
      refine q_iconst 2 K dX4_isUnder_10 rfl ?_
      refine q_icmp_ne 24 K dX4_isUnder_11 (by decide) (fun c_3 => ?_) (fun c_3 => ?_)
      · have c_3n : ¬ (b = 2) := fun h9 => c_3 ((nI_eq (a := b) (b := 2) (by omega) (by omega)).mpr h9)
        refine q_iload_n K 1 dX4_isUnder_24 rfl ?_
        refine q_iconst 3 K dX4_isUnder_25 rfl ?_
        refine q_icmp_ne 34 K dX4_isUnder_26 (by decide) (fun c_4 => ?_) (fun c_4 => ?_)
        · have c_4n : ¬ (b = 3) := fun h9 => c_4 ((nI_eq (a := b) (b := 3) (by omega) (by omega)).mpr h9)
          refine q_iload_n K 1 dX4_isUnder_34 rfl ?_
          refine q_iconst 1 K dX4_isUnder_35 rfl ?_
          refine q_icmp_ne 49 K dX4_isUnder_36 (by decide) (fun c_5 => ?_) (fun c_5 => ?_)
          · have c_5n : ¬ (b = 1) := fun h9 => c_5 ((nI_eq (a := b) (b := 1) (by omega) (by omega)).mpr h9)
            refine q_iconst 0 K dX4_isUnder_49 rfl ?_
            exact Rt _ _ 0 ([]) dX4_isUnder_50 rfl (⟨by rw [j_und a (by omega) b (by omega), if_neg (show ¬ r_und a b = true from fun h9 => absurd (of_decide_eq_true h9) (by omega))], rfl⟩)
          · have c_5n : b = 1 := (nI_eq (a := b) (b := 1) (by omega) (by omega)).mp c_5
            refine q_iload_n K 0 dX4_isUnder_39 rfl ?_
            refine q_bipush 6 K dX4_isUnder_40 rfl ?_
            refine q_icmp_ne 49 K dX4_isUnder_42 (by decide) (fun c_6 => ?_) (fun c_6 => ?_)
            · have c_6n : ¬ (a = 6) := fun h9 => c_6 ((nI_eq (a := a) (b := 6) (by omega) (by omega)).mpr h9)
              refine q_iconst 0 K dX4_isUnder_49 rfl ?_
              exact Rt _ _ 0 ([]) dX4_isUnder_50 rfl (⟨by rw [j_und a (by omega) b (by omega), if_neg (show ¬ r_und a b = true from fun h9 => absurd (of_decide_eq_true h9) (by omega))], rfl⟩)
            · have c_6n : a = 6 := (nI_eq (a := a) (b := 6) (by omega) (by omega)).mp c_6
              refine q_iconst 1 K dX4_isUnder_45 rfl ?_
              refine q_goto 50 K dX4_isUnder_46 (by decide) ?_
              exact Rt _ _ 1 ([]) dX4_isUnder_50 rfl (⟨by rw [j_und a (by omega) b (by omega), if_pos (show r_und a b = true from decide_eq_true (by omega))], rfl⟩)
        · have c_4n : b = 3 := (nI_eq (a := b) (b := 3) (by omega) (by omega)).mp c_4
          refine q_iload_n K 0 dX4_isUnder_29 rfl ?_
          refine q_iconst 4 K dX4_isUnder_30 rfl ?_
          refine q_icmp_eq 45 K dX4_isUnder_31 (by decide) (fun c_7 => ?_) (fun c_7 => ?_)
          · have c_7n : a = 4 := (nI_eq (a := a) (b := 4) (by omega) (by omega)).mp c_7
            refine q_iconst 1 K dX4_isUnder_45 rfl ?_
            refine q_goto 50 K dX4_isUnder_46 (by decide) ?_
            exact Rt _ _ 1 ([]) dX4_isUnder_50 rfl (⟨by rw [j_und a (by omega) b (by omega), if_pos (show r_und a b = true from decide_eq_true (by omega))], rfl⟩)
          · have c_7n : ¬ (a = 4) := fun h9 => c_7 ((nI_eq (a := a) (b := 4) (by omega) (by omega)).mpr h9)
            refine q_iload_n K 1 dX4_isUnder_34 rfl ?_
            refine q_iconst 1 K dX4_isUnder_35 rfl ?_
            refine q_icmp_ne 49 K dX4_isUnder_36 (by decide) (fun c_8 => ?_) (fun c_8 => ?_)
            · have c_8n : ¬ (b = 1) := fun h9 => c_8 ((nI_eq (a := b) (b := 1) (by omega) (by omega)).mpr h9)
              refine q_iconst 0 K dX4_isUnder_49 rfl ?_
              exact Rt _ _ 0 ([]) dX4_isUnder_50 rfl (⟨by rw [j_und a (by omega) b (by omega), if_neg (show ¬ r_und a b = true from fun h9 => absurd (of_decide_eq_true h9) (by omega))], rfl⟩)
            · have c_8n : b = 1 := (nI_eq (a := b) (b := 1) (by omega) (by omega)).mp c_8
              refine q_iload_n K 0 dX4_isUnder_39 rfl ?_
              refine q_bipush 6 K dX4_isUnder_40 rfl ?_
              refine q_icmp_ne 49 K dX4_isUnder_42 (by decide) (fun c_9 => ?_) (fun c_9 => ?_)
              · have c_9n : ¬ (a = 6) := fun h9 => c_9 ((nI_eq (a := a) (b := 6) (by omega) (by omega)).mpr h9)
                refine q_iconst 0 K dX4_isUnder_49 rfl ?_
                exact Rt _ _ 0 ([]) dX4_isUnder_50 rfl (⟨by rw [j_und a (by omega) b (by omega), if_neg (show ¬ r_und a b = true from fun h9 => absurd (of_decide_eq_true h9) (by omega))], rfl⟩)
              · have c_9n : a = 6 := (nI_eq (a := a) (b := 6) (by omega) (by omega)).mp c_9
                refine q_iconst 1 K dX4_isUnder_45 rfl ?_
                refine q_goto 50 K dX4_isUnder_46 (by decide) ?_
                exact Rt _ _ 1 ([]) dX4_isUnder_50 rfl (⟨by rw [j_und a (by omega) b (by omega), if_pos (show r_und a b = true from decide_eq_true (by omega))], rfl⟩)
      · have c_3n : b = 2 := (nI_eq (a := b) (b := 2) (by omega) (by omega)).mp c_3
        refine q_iload_n K 0 dX4_isUnder_14 rfl ?_
        refine q_iconst 3 K dX4_isUnder_15 rfl ?_
        refine q_icmp_eq 45 K dX4_isUnder_16 (by decide) (fun c_10 => ?_) (fun c_10 => ?_)
        · have c_10n : a = 3 := (nI_eq (a := a) (b := 3) (by omega) (by omega)).mp c_10
          refine q_iconst 1 K dX4_isUnder_45 rfl ?_
          refine q_goto 50 K dX4_isUnder_46 (by decide) ?_
          exact Rt _ _ 1 ([]) dX4_isUnder_50 rfl (⟨by rw [j_und a (by omega) b (by omega), if_pos (show r_und a b = true from decide_eq_true (by omega))], rfl⟩)
        · have c_10n : ¬ (a = 3) := fun h9 => c_10 ((nI_eq (a := a) (b := 3) (by omega) (by omega)).mpr h9)
          refine q_iload_n K 0 dX4_isUnder_19 rfl ?_
          refine q_iconst 4 K dX4_isUnder_20 rfl ?_
          refine q_icmp_eq 45 K dX4_isUnder_21 (by decide) (fun c_11 => ?_) (fun c_11 => ?_)
          · have c_11n : a = 4 := (nI_eq (a := a) (b := 4) (by omega) (by omega)).mp c_11
            refine q_iconst 1 K dX4_isUnder_45 rfl ?_
            refine q_goto 50 K dX4_isUnder_46 (by decide) ?_
            exact Rt _ _ 1 ([]) dX4_isUnder_50 rfl (⟨by rw [j_und a (by omega) b (by omega), if_pos (show r_und a b = true from decide_eq_true (by omega))], rfl⟩)
          · have c_11n : ¬ (a = 4) := fun h9 => c_11 ((nI_eq (a := a) (b := 4) (by omega) (by omega)).mpr h9)
            refine q_iload_n K 1 dX4_isUnder_24 rfl ?_
            refine q_iconst 3 K dX4_isUnder_25 rfl ?_
            refine q_icmp_ne 34 K dX4_isUnder_26 (by decide) (fun c_12 => ?_) (fun c_12 => ?_)
            · have c_12n : ¬ (b = 3) := fun h9 => c_12 ((nI_eq (a := b) (b := 3) (by omega) (by omega)).mpr h9)
              refine q_iload_n K 1 dX4_isUnder_34 rfl ?_
              refine q_iconst 1 K dX4_isUnder_35 rfl ?_
              refine q_icmp_ne 49 K dX4_isUnder_36 (by decide) (fun c_13 => ?_) (fun c_13 => ?_)
              · have c_13n : ¬ (b = 1) := fun h9 => c_13 ((nI_eq (a := b) (b := 1) (by omega) (by omega)).mpr h9)
                refine q_iconst 0 K dX4_isUnder_49 rfl ?_
                exact Rt _ _ 0 ([]) dX4_isUnder_50 rfl (⟨by rw [j_und a (by omega) b (by omega), if_neg (show ¬ r_und a b = true from fun h9 => absurd (of_decide_eq_true h9) (by omega))], rfl⟩)
              · have c_13n : b = 1 := (nI_eq (a := b) (b := 1) (by omega) (by omega)).mp c_13
                refine q_iload_n K 0 dX4_isUnder_39 rfl ?_
                refine q_bipush 6 K dX4_isUnder_40 rfl ?_
                refine q_icmp_ne 49 K dX4_isUnder_42 (by decide) (fun c_14 => ?_) (fun c_14 => ?_)
                · have c_14n : ¬ (a = 6) := fun h9 => c_14 ((nI_eq (a := a) (b := 6) (by omega) (by omega)).mpr h9)
                  refine q_iconst 0 K dX4_isUnder_49 rfl ?_
                  exact Rt _ _ 0 ([]) dX4_isUnder_50 rfl (⟨by rw [j_und a (by omega) b (by omega), if_neg (show ¬ r_und a b = true from fun h9 => absurd (of_decide_eq_true h9) (by omega))], rfl⟩)
                · have c_14n : a = 6 := (nI_eq (a := a) (b := 6) (by omega) (by omega)).mp c_14
                  refine q_iconst 1 K dX4_isUnder_45 rfl ?_
                  refine q_goto 50 K dX4_isUnder_46 (by decide) ?_
                  exact Rt _ _ 1 ([]) dX4_isUnder_50 rfl (⟨by rw [j_und a (by omega) b (by omega), if_pos (show r_und a b = true from decide_eq_true (by omega))], rfl⟩)
            · have c_12n : b = 3 := (nI_eq (a := b) (b := 3) (by omega) (by omega)).mp c_12
              refine q_iload_n K 0 dX4_isUnder_29 rfl ?_
              refine q_iconst 4 K dX4_isUnder_30 rfl ?_
              refine q_icmp_eq 45 K dX4_isUnder_31 (by decide) (fun c_15 => ?_) (fun c_15 => ?_)
              · have c_15n : a = 4 := (nI_eq (a := a) (b := 4) (by omega) (by omega)).mp c_15
                refine q_iconst 1 K dX4_isUnder_45 rfl ?_
                refine q_goto 50 K dX4_isUnder_46 (by decide) ?_
                exact Rt _ _ 1 ([]) dX4_isUnder_50 rfl (⟨by rw [j_und a (by omega) b (by omega), if_pos (show r_und a b = true from decide_eq_true (by omega))], rfl⟩)
              · have c_15n : ¬ (a = 4) := fun h9 => c_15 ((nI_eq (a := a) (b := 4) (by omega) (by omega)).mpr h9)
                refine q_iload_n K 1 dX4_isUnder_34 rfl ?_
                refine q_iconst 1 K dX4_isUnder_35 rfl ?_
                refine q_icmp_ne 49 K dX4_isUnder_36 (by decide) (fun c_16 => ?_) (fun c_16 => ?_)
                · have c_16n : ¬ (b = 1) := fun h9 => c_16 ((nI_eq (a := b) (b := 1) (by omega) (by omega)).mpr h9)
                  refine q_iconst 0 K dX4_isUnder_49 rfl ?_
                  exact Rt _ _ 0 ([]) dX4_isUnder_50 rfl (⟨by rw [j_und a (by omega) b (by omega), if_neg (show ¬ r_und a b = true from fun h9 => absurd (of_decide_eq_true h9) (by omega))], rfl⟩)
                · have c_16n : b = 1 := (nI_eq (a := b) (b := 1) (by omega) (by omega)).mp c_16
                  refine q_iload_n K 0 dX4_isUnder_39 rfl ?_
                  refine q_bipush 6 K dX4_isUnder_40 rfl ?_
                  refine q_icmp_ne 49 K dX4_isUnder_42 (by decide) (fun c_17 => ?_) (fun c_17 => ?_)
                  · have c_17n : ¬ (a = 6) := fun h9 => c_17 ((nI_eq (a := a) (b := 6) (by omega) (by omega)).mpr h9)
                    refine q_iconst 0 K dX4_isUnder_49 rfl ?_
                    exact Rt _ _ 0 ([]) dX4_isUnder_50 rfl (⟨by rw [j_und a (by omega) b (by omega), if_neg (show ¬ r_und a b = true from fun h9 => absurd (of_decide_eq_true h9) (by omega))], rfl⟩)
                  · have c_17n : a = 6 := (nI_eq (a := a) (b := 6) (by omega) (by omega)).mp c_17
                    refine q_iconst 1 K dX4_isUnder_45 rfl ?_
                    refine q_goto 50 K dX4_isUnder_46 (by decide) ?_
                    exact Rt _ _ 1 ([]) dX4_isUnder_50 rfl (⟨by rw [j_und a (by omega) b (by omega), if_pos (show r_und a b = true from decide_eq_true (by omega))], rfl⟩)
theorem ks_X4_isUnder : k_is yX4_isUnder cX4_isUnder 2 (some .boolean) 2 := ⟨sm_X4_isUnder, in_X4, co_X4_isUnder, by decide +kernel⟩
set_option maxHeartbeats 4000000 in
set_option maxRecDepth 100000 in
theorem c_X4_as (l : Launch) (Z : kz_Z) (B : Nat → Nat) (X : AS) (D : DJ) (m : Nat) (hm : m ≤ 8) (hm2 : f_wk (a_F X) = nI m) (hok : f_ok (a_F X)) (hkd : f_kok (a_F X)) (hhd : f_hok (a_F X) m) (spot kind : Int32) : KI l Z yX4_as cX4_as 4 .int 1 25 [.ref (B 0), .int spot, .int kind] (w_M Z B X D) (fun r w2 => ∃ D2, r = (o_as X spot kind).1 ∧ w2 = w_M Z B (o_as X spot kind).2 D2) := by
  refine ki_of (by decide) [(0, .ref (B 0)), (1, .int spot), (2, .int kind)] (Nat.le_of_ble_eq_true rfl) rfl ?_
  intro M e1 e2 K Rt
  subst e1 e2
  refine q_iload_n K 1 dX4_as_0 rfl ?_
  refine q_i2l K dX4_as_1 ?_
  refine q_lconst 0 K dX4_as_2 rfl ?_
  refine q_ldc2 K dX4_as_3 ct_X4_74 ?_
  refine q_cp (rest := []) K ks_X4_isIn (c_X4_isIn (k_l M) (k_Z M) spot.toInt64 0 9) ml_X4_43 rfl rfl (Nat.le_of_ble_eq_true rfl) ⟨Nat.le_of_ble_eq_true rfl, Nat.le_of_ble_eq_true rfl⟩ dX4_as_6 (fun r_1 e_r_1 => ?_)
  have e_r_1 : r_1 = if inR spot 0 9 then 1 else 0 := kn_if e_r_1 (kn_i64 (v := spot) (lo := 0) (hi := 9))
  refine q_if_eq 24 K dX4_as_9 (by decide) (fun c_2 => ?_) (fun c_2 => ?_)
  · have c_2 : ¬ (inR spot 0 9) := (kn_eq e_r_1).mp c_2
    refine q_aload_n K 0 dX4_as_24 rfl ?_
    refine q_ldc K dX4_as_25 ct_X4_40 ?_
    refine q_eqi (r_fin 0) (by decide) ?_
    refine q_wI (q0 := 0) (As := [.int (r_fin 0)]) (rest := []) K kv_X4_finds (c_X4_finds (k_l M) (k_Z M) B X D 0 (by omega)) rfl rfl ml_X4_48 rfl rfl (Nat.le_of_ble_eq_true rfl) ⟨Nat.le_of_ble_eq_true rfl, Nat.le_of_ble_eq_true rfl⟩ dX4_as_27 (fun r_4 w2 h_3 => ?_)
    obtain ⟨e_r_4, rfl⟩ := h_3
    refine q_eqi (r_fin 0) e_r_4 ?_
    refine q_ws (ws' := w_M (k_Z M) B (a_F X, a_K X, a_kp X, fd_up (a_fd X) 0, a_tp X, a_S X) D) rfl ?_
    exact Rt _ _ (r_fin 0) (w_M (k_Z M) B (a_F X, a_K X, a_kp X, fd_up (a_fd X) 0, a_tp X, a_S X) D) dX4_as_30 rfl (⟨D, by simp only [o_as, a_fin, if_neg c_2, e_r_1] <;> rfl, by simp only [o_as, a_fin, if_neg c_2] <;> rfl⟩)
  · have c_2 : inR spot 0 9 := (kn_ne e_r_1).mp c_2
    obtain ⟨f, h_f, e_f⟩ := kn_rng (n := 9) c_2 rfl
    subst e_f
    refine q_iload_n K 2 dX4_as_12 rfl ?_
    refine q_i2l K dX4_as_13 ?_
    refine q_lconst 0 K dX4_as_14 rfl ?_
    refine q_ldc2 K dX4_as_15 ct_X4_79 ?_
    refine q_cp (rest := []) K ks_X4_isIn (c_X4_isIn (k_l M) (k_Z M) kind.toInt64 0 6) ml_X4_43 rfl rfl (Nat.le_of_ble_eq_true rfl) ⟨Nat.le_of_ble_eq_true rfl, Nat.le_of_ble_eq_true rfl⟩ dX4_as_18 (fun r_5 e_r_5 => ?_)
    have e_r_5 : r_5 = if inR kind 0 6 then 1 else 0 := kn_if e_r_5 (kn_i64 (v := kind) (lo := 0) (hi := 6))
    refine q_if_ne 31 K dX4_as_21 (by decide) (fun c_6 => ?_) (fun c_6 => ?_)
    · have c_6 : inR kind 0 6 := (kn_ne e_r_5).mp c_6
      obtain ⟨b, h_b, e_b⟩ := kn_rng (n := 6) c_6 rfl
      subst e_b
      refine q_aload_n K 0 dX4_as_31 rfl ?_
      refine q_get (.ref (B 1)) K ws_X4 0 rfl rfl 0 (by decide) fl_X4_7 rfl dX4_as_32 ?_
      refine q_bipush 61 K dX4_as_35 rfl ?_
      refine q_iload_n K 1 dX4_as_37 rfl ?_
      refine q_iadd K dX4_as_38 ?_
      refine q_eqi (nI (61 + f)) (kn_add 61 f) ?_
      refine q_iald K 1 rfl (vp_in_nI (n := 61 + f) (N := 71) (by omega) (by omega)) dX4_as_39 ?_
      refine q_eqi (f_hd (a_F X) f) (by rw [nI_clamp (n := 61 + f) (by omega)]; exact rw_hd _ (by omega)) ?_
      rcases hhd f (by omega) with eh | ⟨u, hu, eh⟩
      · refine q_eqi (-1) eh ?_
        refine q_istore_n (lv' := [(3, .int (-1)), (0, .ref (B 0)), (1, .int (nI f)), (2, .int (nI b))]) K dX4_as_40 (by decide) rfl ?_
        refine q_iload_n K 0 dX4_as_41 rfl ?_
        refine q_if_ge 53 K dX4_as_42 (by decide) (fun c_0 => absurd c_0 (by decide)) (fun c_0 => ?_)
        refine q_aload_n K 1 dX4_as_45 rfl ?_
        refine q_ldcw K dX4_as_46 ct_X4_269 ?_
        refine q_eqi (r_fin 5) (by decide) ?_
        refine q_wI (q0 := 0) (As := [.int (r_fin 5)]) (rest := []) K kv_X4_finds (c_X4_finds (k_l M) (k_Z M) B X D 5 (by omega)) rfl rfl ml_X4_48 rfl rfl (Nat.le_of_ble_eq_true rfl) ⟨Nat.le_of_ble_eq_true rfl, Nat.le_of_ble_eq_true rfl⟩ dX4_as_49 (fun r_8 w2 h_7 => ?_)
        obtain ⟨e_r_8, rfl⟩ := h_7
        refine q_eqi (r_fin 5) e_r_8 ?_
        refine q_ws (ws' := w_M (k_Z M) B (a_F X, a_K X, a_kp X, fd_up (a_fd X) 5, a_tp X, a_S X) D) rfl ?_
        exact Rt _ _ (r_fin 5) (w_M (k_Z M) B (a_F X, a_K X, a_kp X, fd_up (a_fd X) 5, a_tp X, a_S X) D) dX4_as_52 rfl (⟨D, by simp only [o_as, if_pos c_2, if_pos c_6, nI_clamp (n := f) (by omega), nI_clamp (n := b) (by omega), o_asq]; rw [eh]; simp only [if_neg isW_m1] <;> rfl, by simp only [o_as, if_pos c_2, if_pos c_6, nI_clamp (n := f) (by omega), nI_clamp (n := b) (by omega), o_asq]; rw [eh]; simp only [if_neg isW_m1] <;> rfl⟩)
      · refine q_eqi (nI u) eh ?_
        refine q_istore_n (lv' := [(3, .int (nI u)), (0, .ref (B 0)), (1, .int (nI f)), (2, .int (nI b))]) K dX4_as_40 (by decide) rfl ?_
        refine q_iload_n K 0 dX4_as_41 rfl ?_
        refine q_if_ge 53 K dX4_as_42 (by decide) (fun c_9 => ?_) (fun c_9 => ?_)
        · have c_9n : 0 ≤ u := (nI_leI (a := 0) (b := u) (by omega) (by omega)).mp c_9
          refine q_aload_n K 1 dX4_as_53 rfl ?_
          refine q_iload_n K 0 dX4_as_54 rfl ?_
          refine q_iconst 0 K dX4_as_55 rfl ?_
          refine q_wI (q0 := 0) (As := [.int (nI u), .int 0]) (rest := []) K kv_X4_its (c_X4_its (k_l M) (k_Z M) B X D u 0 (by omega) (by omega)) rfl rfl ml_X4_62 rfl rfl (Nat.le_of_ble_eq_true rfl) ⟨Nat.le_of_ble_eq_true rfl, Nat.le_of_ble_eq_true rfl⟩ dX4_as_56 (fun r_11 w2 h_10 => ?_)
          obtain ⟨e_r_11, rfl⟩ := h_10
          refine q_eqi (f_kd (a_F X) u) e_r_11 ?_
          obtain ⟨a, ha, ea⟩ := hkd u (by omega)
          refine q_eqi (nI a) ea ?_
          refine q_iload_n K 3 dX4_as_59 rfl ?_
          refine q_cp (rest := []) K ks_X4_isUnder (c_X4_isUnder (k_l M) (k_Z M) a b (by omega) (by omega)) ml_X4_270 rfl rfl (Nat.le_of_ble_eq_true rfl) ⟨Nat.le_of_ble_eq_true rfl, Nat.le_of_ble_eq_true rfl⟩ dX4_as_60 (fun r_12 e_r_12 => ?_)
          refine q_if_eq 70 K dX4_as_63 (by decide) (fun c_13 => ?_) (fun c_13 => ?_)
          · have c_13 : ¬ (j_under 7 (nI a) (nI b) = true) := (kn_eq e_r_12).mp c_13
            refine q_aload_n K 1 dX4_as_70 rfl ?_
            refine q_ldcw K dX4_as_71 ct_X4_273 ?_
            refine q_eqi (r_fin 2) (by decide) ?_
            refine q_wI (q0 := 0) (As := [.int (r_fin 2)]) (rest := []) K kv_X4_finds (c_X4_finds (k_l M) (k_Z M) B X D 2 (by omega)) rfl rfl ml_X4_48 rfl rfl (Nat.le_of_ble_eq_true rfl) ⟨Nat.le_of_ble_eq_true rfl, Nat.le_of_ble_eq_true rfl⟩ dX4_as_74 (fun r_15 w2 h_14 => ?_)
            obtain ⟨e_r_15, rfl⟩ := h_14
            refine q_eqi (r_fin 2) e_r_15 ?_
            refine q_ws (ws' := w_M (k_Z M) B (a_F X, a_K X, a_kp X, fd_up (a_fd X) 2, a_tp X, a_S X) D) rfl ?_
            exact Rt _ _ (r_fin 2) (w_M (k_Z M) B (a_F X, a_K X, a_kp X, fd_up (a_fd X) 2, a_tp X, a_S X) D) dX4_as_77 rfl (⟨D, by simp only [o_as, if_pos c_2, if_pos c_6, nI_clamp (n := f) (by omega), nI_clamp (n := b) (by omega), o_asq]; rw [eh]; simp only [if_pos (isW_j hm hm2 hu), nI_clamp (n := u) (by omega)]; rw [show f_kd (a_F X) u = nI a from ea]; simp only [if_neg c_13] <;> rfl, by simp only [o_as, if_pos c_2, if_pos c_6, nI_clamp (n := f) (by omega), nI_clamp (n := b) (by omega), o_asq]; rw [eh]; simp only [if_pos (isW_j hm hm2 hu), nI_clamp (n := u) (by omega)]; rw [show f_kd (a_F X) u = nI a from ea]; simp only [if_neg c_13] <;> rfl⟩)
          · have c_13 : j_under 7 (nI a) (nI b) = true := (kn_ne e_r_12).mp c_13
            refine q_iload_n K 0 dX4_as_66 rfl ?_
            refine q_goto 77 K dX4_as_67 (by decide) ?_
            exact Rt _ _ (nI u) (w_M (k_Z M) B X D) dX4_as_77 rfl (⟨D, by simp only [o_as, if_pos c_2, if_pos c_6, nI_clamp (n := f) (by omega), nI_clamp (n := b) (by omega), o_asq]; rw [eh]; simp only [if_pos (isW_j hm hm2 hu), nI_clamp (n := u) (by omega)]; rw [show f_kd (a_F X) u = nI a from ea]; simp only [if_pos c_13] <;> rfl, by simp only [o_as, if_pos c_2, if_pos c_6, nI_clamp (n := f) (by omega), nI_clamp (n := b) (by omega), o_asq]; rw [eh]; simp only [if_pos (isW_j hm hm2 hu), nI_clamp (n := u) (by omega)]; rw [show f_kd (a_F X) u = nI a from ea]; simp only [if_pos c_13] <;> rfl⟩)
        · have c_9n : ¬ (0 ≤ u) := fun h9 => c_9 ((nI_leI (a := 0) (b := u) (by omega) (by omega)).mpr h9)
          exact absurd (show nI u < 0 from Int32.not_le.mp c_9) (nI_pos (by omega))
    · have c_6 : ¬ (inR kind 0 6) := (kn_eq e_r_5).mp c_6
      refine q_aload_n K 0 dX4_as_24 rfl ?_
      refine q_ldc K dX4_as_25 ct_X4_40 ?_
      refine q_eqi (r_fin 0) (by decide) ?_
      refine q_wI (q0 := 0) (As := [.int (r_fin 0)]) (rest := []) K kv_X4_finds (c_X4_finds (k_l M) (k_Z M) B X D 0 (by omega)) rfl rfl ml_X4_48 rfl rfl (Nat.le_of_ble_eq_true rfl) ⟨Nat.le_of_ble_eq_true rfl, Nat.le_of_ble_eq_true rfl⟩ dX4_as_27 (fun r_17 w2 h_16 => ?_)
      obtain ⟨e_r_17, rfl⟩ := h_16
      refine q_eqi (r_fin 0) e_r_17 ?_
      refine q_ws (ws' := w_M (k_Z M) B (a_F X, a_K X, a_kp X, fd_up (a_fd X) 0, a_tp X, a_S X) D) rfl ?_
      exact Rt _ _ (r_fin 0) (w_M (k_Z M) B (a_F X, a_K X, a_kp X, fd_up (a_fd X) 0, a_tp X, a_S X) D) dX4_as_30 rfl (⟨D, by simp only [o_as, a_fin, if_pos c_2, if_neg c_6, e_r_1, e_r_5, nI_clamp (n := f) (by omega)] <;> rfl, by simp only [o_as, a_fin, if_pos c_2, if_neg c_6, nI_clamp (n := f) (by omega)] <;> rfl⟩)
theorem kv_X4_as : k_iv yX4_as cX4_as 4 (some .int) 2 := ⟨⟨im_X4_as, se_X4_as⟩, in_X4, co_X4_as, by decide +kernel⟩
set_option maxHeartbeats 4000000 in
set_option maxRecDepth 100000 in
theorem c_X4_count (l : Launch) (Z : kz_Z) (B : Nat → Nat) (X : AS) (D : DJ) (m : Nat) (hm : m ≤ 8) (hm2 : f_wk (a_F X) = nI m) (hok : f_ok (a_F X)) (hhd : f_hok (a_F X) m) (what : Int32) : KI l Z yX4_count cX4_count 4 .int 2 44 [.ref (B 0), .int what] (w_M Z B X D) (fun r w2 => ∃ D2, r = (o_count X what).1 ∧ w2 = w_M Z B (o_count X what).2 D2) := by
  refine ki_of (by decide) [(0, .ref (B 0)), (1, .int what)] (Nat.le_of_ble_eq_true rfl) rfl ?_
  intro M e1 e2 K Rt
  subst e1 e2
  refine q_iconst 0 K dX4_count_0 rfl ?_
  refine q_istore_n (lv' := [(2, .int 0), (0, .ref (B 0)), (1, .int what)]) K dX4_count_1 (by decide) rfl ?_
  refine q_iload_n K 2 dX4_count_2 rfl ?_
  by_cases c_1 : what = 0
  · refine q_tableIn (off := 45) 48 K dX4_count_3 (by rw [c_1]; decide) (by rw [c_1]; decide) (by rw [c_1]; rfl) (by decide) ?_
    refine q_aload_n K 1 dX4_count_48 rfl ?_
    refine q_get (.ref (B 1)) K ws_X4 0 rfl rfl 0 (by decide) fl_X4_7 rfl dX4_count_49 ?_
    refine q_iconst 1 K dX4_count_52 rfl ?_
    refine q_iald K 1 rfl (vp_in_nI (n := 1) (N := 71) (by omega) (by omega)) dX4_count_53 ?_
    refine q_eqi (f_hr (a_F X)) rfl ?_
    exact Rt _ _ (f_hr (a_F X)) (w_M (k_Z M) B X D) dX4_count_54 rfl (⟨D, by simp only [o_count, a_fin, if_pos c_1, f_mm hm hm2] <;> rfl, by simp only [o_count, a_fin, if_pos c_1, f_mm hm hm2] <;> rfl⟩)
  by_cases c_2 : what = 1
  · refine q_tableIn (off := 52) 55 K dX4_count_3 (by rw [c_2]; decide) (by rw [c_2]; decide) (by rw [c_2]; rfl) (by decide) ?_
    refine q_aload_n K 1 dX4_count_55 rfl ?_
    refine q_get (.ref (B 1)) K ws_X4 0 rfl rfl 0 (by decide) fl_X4_7 rfl dX4_count_56 ?_
    refine q_iconst 0 K dX4_count_59 rfl ?_
    refine q_iald K 1 rfl (vp_in_nI (n := 0) (N := 71) (by omega) (by omega)) dX4_count_60 ?_
    refine q_eqi (f_wk (a_F X)) rfl ?_
    exact Rt _ _ (f_wk (a_F X)) (w_M (k_Z M) B X D) dX4_count_61 rfl (⟨D, by simp only [o_count, a_fin, if_neg c_1, if_pos c_2, f_mm hm hm2] <;> rfl, by simp only [o_count, a_fin, if_neg c_1, if_pos c_2, f_mm hm hm2] <;> rfl⟩)
  by_cases c_3 : what = 2
  · refine q_tableIn (off := 59) 62 K dX4_count_3 (by rw [c_3]; decide) (by rw [c_3]; decide) (by rw [c_3]; rfl) (by decide) ?_
    refine q_aload_n K 1 dX4_count_62 rfl ?_
    refine q_wI (q0 := 0) (As := []) (rest := []) K kv_X4_notShut (c_X4_notShut (k_l M) (k_Z M) B X D) rfl rfl ml_X4_132 rfl rfl (Nat.le_of_ble_eq_true rfl) ⟨Nat.le_of_ble_eq_true rfl, Nat.le_of_ble_eq_true rfl⟩ dX4_count_63 (fun r_5 w2 h_4 => ?_)
    obtain ⟨e_r_5, rfl⟩ := h_4
    refine q_eqi (f_ns (a_F X) 8) e_r_5 ?_
    obtain ⟨t, ht, et⟩ := f_ns_nat (a_F X) 8 (by omega)
    refine q_eqi (nI t) et ?_
    refine q_cp (rest := []) K ks_X4_many (c_X4_many (k_l M) (k_Z M) t (by omega)) ml_X4_168 rfl rfl (Nat.le_of_ble_eq_true rfl) ⟨Nat.le_of_ble_eq_true rfl, Nat.le_of_ble_eq_true rfl⟩ dX4_count_66 (fun r_6 e_r_6 => ?_)
    refine q_eqi (j_bc (nI t)) e_r_6 ?_
    refine q_eqi (j_bc (f_ns (a_F X) 8)) (by rw [et]) ?_
    exact Rt _ _ (j_bc (f_ns (a_F X) 8)) (w_M (k_Z M) B X D) dX4_count_69 rfl (⟨D, by simp only [o_count, a_fin, if_neg c_1, if_neg c_2, if_pos c_3, f_mm hm hm2] <;> rfl, by simp only [o_count, a_fin, if_neg c_1, if_neg c_2, if_pos c_3, f_mm hm hm2] <;> rfl⟩)
  by_cases c_7 : what = 3
  · refine q_tableIn (off := 67) 70 K dX4_count_3 (by rw [c_7]; decide) (by rw [c_7]; decide) (by rw [c_7]; rfl) (by decide) ?_
    refine q_aload_n K 1 dX4_count_70 rfl ?_
    refine q_wI (q0 := 0) (As := []) (rest := []) K kv_X4_beastsAll (c_X4_beastsAll (k_l M) (k_Z M) B X D) rfl rfl ml_X4_129 rfl rfl (Nat.le_of_ble_eq_true rfl) ⟨Nat.le_of_ble_eq_true rfl, Nat.le_of_ble_eq_true rfl⟩ dX4_count_71 (fun r_9 w2 h_8 => ?_)
    obtain ⟨e_r_9, rfl⟩ := h_8
    refine q_eqi (f_sumb (a_F X) 9) e_r_9 ?_
    exact Rt _ _ (f_sumb (a_F X) 9) (w_M (k_Z M) B X D) dX4_count_74 rfl (⟨D, by simp only [o_count, a_fin, if_neg c_1, if_neg c_2, if_neg c_3, if_pos c_7, f_mm hm hm2] <;> rfl, by simp only [o_count, a_fin, if_neg c_1, if_neg c_2, if_neg c_3, if_pos c_7, f_mm hm hm2] <;> rfl⟩)
  by_cases c_10 : what = 4
  · refine q_tableIn (off := 72) 75 K dX4_count_3 (by rw [c_10]; decide) (by rw [c_10]; decide) (by rw [c_10]; rfl) (by decide) ?_
    refine q_aload_n K 1 dX4_count_75 rfl ?_
    refine q_wI (q0 := 0) (As := []) (rest := []) K kv_X4_passedAll (c_X4_passedAll (k_l M) (k_Z M) B X D m hm hm2) rfl rfl ml_X4_135 rfl rfl (Nat.le_of_ble_eq_true rfl) ⟨Nat.le_of_ble_eq_true rfl, Nat.le_of_ble_eq_true rfl⟩ dX4_count_76 (fun r_12 w2 h_11 => ?_)
    obtain ⟨e_r_12, rfl⟩ := h_11
    refine q_eqi (f_sump (a_F X) m) e_r_12 ?_
    exact Rt _ _ (f_sump (a_F X) m) (w_M (k_Z M) B X D) dX4_count_79 rfl (⟨D, by simp only [o_count, a_fin, if_neg c_1, if_neg c_2, if_neg c_3, if_neg c_7, if_pos c_10, f_mm hm hm2] <;> rfl, by simp only [o_count, a_fin, if_neg c_1, if_neg c_2, if_neg c_3, if_neg c_7, if_pos c_10, f_mm hm hm2] <;> rfl⟩)
  by_cases c_13 : what = 5
  · refine q_tableIn (off := 77) 80 K dX4_count_3 (by rw [c_13]; decide) (by rw [c_13]; decide) (by rw [c_13]; rfl) (by decide) ?_
    refine q_aload_n K 1 dX4_count_80 rfl ?_
    refine q_get (.int (nI ((a_tp X).2))) K ws_X4 0 rfl rfl 7 (by decide) fl_X4_193 rfl dX4_count_81 ?_
    exact Rt _ _ (nI ((a_tp X).2)) (w_M (k_Z M) B X D) dX4_count_84 rfl (⟨D, by simp only [o_count, a_fin, if_neg c_1, if_neg c_2, if_neg c_3, if_neg c_7, if_neg c_10, if_pos c_13, f_mm hm hm2] <;> rfl, by simp only [o_count, a_fin, if_neg c_1, if_neg c_2, if_neg c_3, if_neg c_7, if_neg c_10, if_pos c_13, f_mm hm hm2] <;> rfl⟩)
  by_cases c_14 : what = 6
  · refine q_tableIn (off := 82) 85 K dX4_count_3 (by rw [c_14]; decide) (by rw [c_14]; decide) (by rw [c_14]; rfl) (by decide) ?_
    refine q_aload_n K 1 dX4_count_85 rfl ?_
    refine q_get (.ref (B 1)) K ws_X4 0 rfl rfl 0 (by decide) fl_X4_7 rfl dX4_count_86 ?_
    refine q_iconst 2 K dX4_count_89 rfl ?_
    refine q_iald K 1 rfl (vp_in_nI (n := 2) (N := 71) (by omega) (by omega)) dX4_count_90 ?_
    refine q_eqi (f_zz (a_F X)) rfl ?_
    exact Rt _ _ (f_zz (a_F X)) (w_M (k_Z M) B X D) dX4_count_91 rfl (⟨D, by simp only [o_count, a_fin, if_neg c_1, if_neg c_2, if_neg c_3, if_neg c_7, if_neg c_10, if_neg c_13, if_pos c_14, f_mm hm hm2] <;> rfl, by simp only [o_count, a_fin, if_neg c_1, if_neg c_2, if_neg c_3, if_neg c_7, if_neg c_10, if_neg c_13, if_pos c_14, f_mm hm hm2] <;> rfl⟩)
  by_cases c_15 : what = 7
  · refine q_tableIn (off := 89) 92 K dX4_count_3 (by rw [c_15]; decide) (by rw [c_15]; decide) (by rw [c_15]; rfl) (by decide) ?_
    refine q_iconst 0 K dX4_count_92 rfl ?_
    refine q_istore_n (lv' := [(3, .int 0), (2, .int 0), (0, .ref (B 0)), (1, .int what)]) K dX4_count_93 (by decide) rfl ?_
    refine q_loop (α := Nat) (fun n9 g => g + n9 = 10) 94 (fun g => [(3, .int (nI g)), (2, .int (f_spn (a_F X) g)), (0, .ref (B 0)), (1, .int what)]) (fun g => w_M (k_Z M) B X D) (fun n_16 g hI_17 ih_18 => ?_) 10 0 (by omega)
    refine q_iload_n K 0 dX4_count_94 rfl ?_
    refine q_bipush 10 K dX4_count_95 rfl ?_
    refine q_icmp_ge 126 K dX4_count_97 (by decide) (fun c_19 => ?_) (fun c_19 => ?_)
    · have c_19n : 10 ≤ g := (nI_leI (a := 10) (b := g) (by omega) (by omega)).mp c_19
      refine q_iload_n K 1 dX4_count_126 rfl ?_
      exact Rt _ _ (f_spn (a_F X) g) (w_M (k_Z M) B X D) dX4_count_127 rfl (⟨D, by simp only [o_count, if_neg c_1, if_neg c_2, if_neg c_3, if_neg c_7, if_neg c_10, if_neg c_13, if_neg c_14, if_pos c_15, if_pos c_19, show g = 10 by omega] <;> rfl, by simp only [o_count, if_neg c_1, if_neg c_2, if_neg c_3, if_neg c_7, if_neg c_10, if_neg c_13, if_neg c_14, if_pos c_15, if_pos c_19, show g = 10 by omega] <;> rfl⟩)
    · have c_19n : ¬ (10 ≤ g) := fun h9 => c_19 ((nI_leI (a := 10) (b := g) (by omega) (by omega)).mpr h9)
      refine q_iload_n K 1 dX4_count_100 rfl ?_
      refine q_aload_n K 2 dX4_count_101 rfl ?_
      refine q_get (.ref (B 1)) K ws_X4 0 rfl rfl 0 (by decide) fl_X4_7 rfl dX4_count_102 ?_
      refine q_bipush 61 K dX4_count_105 rfl ?_
      refine q_iload_n K 0 dX4_count_107 rfl ?_
      refine q_iadd K dX4_count_108 ?_
      refine q_eqi (nI (61 + g)) (kn_add 61 g) ?_
      refine q_iald K 1 rfl (vp_in_nI (n := 61 + g) (N := 71) (by omega) (by omega)) dX4_count_109 ?_
      refine q_eqi (f_hd (a_F X) g) (by rw [nI_clamp (n := 61 + g) (by omega)]; exact rw_hd _ (by omega)) ?_
      refine q_if_ge 117 K dX4_count_110 (by decide) (fun c_20 => ?_) (fun c_20 => ?_)
      · refine q_iconst 1 K dX4_count_117 rfl ?_
        refine q_iadd K dX4_count_118 ?_
        refine q_istore_n (lv' := [(2, .int ((f_spn (a_F X) g) + 1)), (3, .int (nI g)), (0, .ref (B 0)), (1, .int what)]) K dX4_count_119 (by decide) rfl ?_
        refine q_iinc (nI (g + 1)) (lv' := [(3, .int (nI (g + 1))), (2, .int ((f_spn (a_F X) g) + 1)), (0, .ref (B 0)), (1, .int what)]) K 1 dX4_count_120 rfl (kn_inc g) (by decide) rfl ?_
        refine q_goto 94 K dX4_count_123 (by decide) ?_
        rw [show (f_spn (a_F X) g) + 1 = f_spn (a_F X) (g + 1) from f_spn_pos c_20]
        exact ih_18 (n_16 - 1) (g + 1) (by omega) (by omega)
      · refine q_iconst 0 K dX4_count_113 rfl ?_
        refine q_goto 118 K dX4_count_114 (by decide) ?_
        refine q_iadd K dX4_count_118 ?_
        refine q_istore_n (lv' := [(2, .int ((f_spn (a_F X) g) + 0)), (3, .int (nI g)), (0, .ref (B 0)), (1, .int what)]) K dX4_count_119 (by decide) rfl ?_
        refine q_iinc (nI (g + 1)) (lv' := [(3, .int (nI (g + 1))), (2, .int ((f_spn (a_F X) g) + 0)), (0, .ref (B 0)), (1, .int what)]) K 1 dX4_count_120 rfl (kn_inc g) (by decide) rfl ?_
        refine q_goto 94 K dX4_count_123 (by decide) ?_
        rw [show (f_spn (a_F X) g) + 0 = f_spn (a_F X) (g + 1) from f_spn_neg c_20 ((hhd g (by omega)).imp_right (fun ⟨j, hj, e⟩ => ⟨j, by omega, e⟩))]
        exact ih_18 (n_16 - 1) (g + 1) (by omega) (by omega)
  refine q_tableOut 128 K dX4_count_3 (by have := lv_neT (a := 0) c_1 rfl; have := lv_neT (a := 1) c_2 rfl; have := lv_neT (a := 2) c_3 rfl; have := lv_neT (a := 3) c_7 rfl; have := lv_neT (a := 4) c_10 rfl; have := lv_neT (a := 5) c_13 rfl; have := lv_neT (a := 6) c_14 rfl; have := lv_neT (a := 7) c_15 rfl; omega) (by decide) ?_
  refine q_aload_n K 1 dX4_count_128 rfl ?_
  refine q_ldc K dX4_count_129 ct_X4_40 ?_
  refine q_eqi (r_fin 0) (by decide) ?_
  refine q_wI (q0 := 0) (As := [.int (r_fin 0)]) (rest := []) K kv_X4_finds (c_X4_finds (k_l M) (k_Z M) B X D 0 (by omega)) rfl rfl ml_X4_48 rfl rfl (Nat.le_of_ble_eq_true rfl) ⟨Nat.le_of_ble_eq_true rfl, Nat.le_of_ble_eq_true rfl⟩ dX4_count_131 (fun r_22 w2 h_21 => ?_)
  obtain ⟨e_r_22, rfl⟩ := h_21
  refine q_eqi (r_fin 0) e_r_22 ?_
  refine q_ws (ws' := w_M (k_Z M) B (a_F X, a_K X, a_kp X, fd_up (a_fd X) 0, a_tp X, a_S X) D) rfl ?_
  exact Rt _ _ (r_fin 0) (w_M (k_Z M) B (a_F X, a_K X, a_kp X, fd_up (a_fd X) 0, a_tp X, a_S X) D) dX4_count_134 rfl (⟨D, by simp only [o_count, a_fin, if_neg c_1, if_neg c_2, if_neg c_3, if_neg c_7, if_neg c_10, if_neg c_13, if_neg c_14, if_neg c_15, f_mm hm hm2] <;> rfl, by simp only [o_count, a_fin, if_neg c_1, if_neg c_2, if_neg c_3, if_neg c_7, if_neg c_10, if_neg c_13, if_neg c_14, if_neg c_15, f_mm hm hm2] <;> rfl⟩)
theorem kv_X4_count : k_iv yX4_count cX4_count 4 (some .int) 1 := ⟨⟨im_X4_count, se_X4_count⟩, in_X4, co_X4_count, by decide +kernel⟩
set_option maxHeartbeats 4000000 in
set_option maxRecDepth 100000 in
theorem c_X4_status (l : Launch) (Z : kz_Z) (B : Nat → Nat) (X : AS) (D : DJ) (m : Nat) (hm : m ≤ 8) (hm2 : f_wk (a_F X) = nI m) (hok : f_ok (a_F X)) (which : Int32) : KI l Z yX4_status cX4_status 2 .int 1 25 [.ref (B 0), .int which] (w_M Z B X D) (fun r w2 => ∃ D2, r = (o_status X which).1 ∧ w2 = w_M Z B (o_status X which).2 D2) := by
  refine ki_of (by decide) [(0, .ref (B 0)), (1, .int which)] (Nat.le_of_ble_eq_true rfl) rfl ?_
  intro M e1 e2 K Rt
  subst e1 e2
  refine q_iload_n K 1 dX4_status_0 rfl ?_
  refine q_i2l K dX4_status_1 ?_
  refine q_ldc2 K dX4_status_2 ct_X4_282 ?_
  refine q_ldc2 K dX4_status_5 ct_X4_79 ?_
  refine q_cp (rest := []) K ks_X4_isIn (c_X4_isIn (k_l M) (k_Z M) which.toInt64 (-1) 6) ml_X4_43 rfl rfl (Nat.le_of_ble_eq_true rfl) ⟨Nat.le_of_ble_eq_true rfl, Nat.le_of_ble_eq_true rfl⟩ dX4_status_8 (fun r_1 e_r_1 => ?_)
  have e_r_1 : r_1 = if inR which (-1) 6 then 1 else 0 := kn_if e_r_1 (kn_i64 (v := which) (lo := (-1)) (hi := 6))
  refine q_if_eq 25 K dX4_status_11 (by decide) (fun c_2 => ?_) (fun c_2 => ?_)
  · have c_2 : ¬ (inR which (-1) 6) := (kn_eq e_r_1).mp c_2
    refine q_aload_n K 0 dX4_status_25 rfl ?_
    refine q_ldc K dX4_status_26 ct_X4_40 ?_
    refine q_eqi (r_fin 0) (by decide) ?_
    refine q_wI (q0 := 0) (As := [.int (r_fin 0)]) (rest := []) K kv_X4_finds (c_X4_finds (k_l M) (k_Z M) B X D 0 (by omega)) rfl rfl ml_X4_48 rfl rfl (Nat.le_of_ble_eq_true rfl) ⟨Nat.le_of_ble_eq_true rfl, Nat.le_of_ble_eq_true rfl⟩ dX4_status_28 (fun r_4 w2 h_3 => ?_)
    obtain ⟨e_r_4, rfl⟩ := h_3
    refine q_eqi (r_fin 0) e_r_4 ?_
    refine q_ws (ws' := w_M (k_Z M) B (a_F X, a_K X, a_kp X, fd_up (a_fd X) 0, a_tp X, a_S X) D) rfl ?_
    exact Rt _ _ (r_fin 0) (w_M (k_Z M) B (a_F X, a_K X, a_kp X, fd_up (a_fd X) 0, a_tp X, a_S X) D) dX4_status_31 rfl (⟨D, by simp only [o_status, a_fin, if_neg c_2, e_r_1] <;> rfl, by simp only [o_status, a_fin, if_neg c_2] <;> rfl⟩)
  · have c_2 : inR which (-1) 6 := (kn_ne e_r_1).mp c_2
    refine q_aload_n K 0 dX4_status_14 rfl ?_
    refine q_get (.ref (B 5)) K ws_X4 0 rfl rfl 5 (by decide) fl_X4_22 rfl dX4_status_15 ?_
    refine q_iload_n K 1 dX4_status_18 rfl ?_
    refine q_iconst 1 K dX4_status_19 rfl ?_
    refine q_iadd K dX4_status_20 ?_
    obtain ⟨j, hj, ej, es⟩ := st_ix (a_fd X) c_2
    refine q_eqi (nI j) ej ?_
    refine q_iald K 5 rfl (vp_in_nI (n := j) (N := 8) (by omega) (by omega)) dX4_status_21 ?_
    refine q_eqi ((m_fd (a_fd X)) j) (by rw [nI_clamp (n := j) (by omega)]) ?_
    refine q_eqi (if 0 ≤ which then a_fd X which.toNatClampNeg else a_sum (a_fd X) 7) es ?_
    refine q_goto 31 K dX4_status_22 (by decide) ?_
    exact Rt _ _ (if 0 ≤ which then a_fd X which.toNatClampNeg else a_sum (a_fd X) 7) (w_M (k_Z M) B X D) dX4_status_31 rfl (⟨D, by simp only [o_status, a_fin, if_pos c_2, e_r_1] <;> rfl, by simp only [o_status, a_fin, if_pos c_2] <;> rfl⟩)
theorem kv_X4_status : k_iv yX4_status cX4_status 2 (some .int) 1 := ⟨⟨im_X4_status, se_X4_status⟩, in_X4, co_X4_status, by decide +kernel⟩
