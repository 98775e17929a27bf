def b_int (b : Bool) : Int32 := if b = true then 1 else 0
theorem b_int_i (b : Bool) : b_int b = if b = true then 1 else 0 := rfl
set_option maxHeartbeats 4000000 in
set_option maxRecDepth 100000 in
theorem c_X4_text (l : Launch) (Z : kz_Z) (B : Nat → Nat) (X : AS) (D : DJ) (hq : (a_tp X).2 ≤ 120) (m : Nat) (hm : m ≤ 8) (hm2 : f_wk (a_F X) = nI m) : KI l Z yX4_text cX4_text 3 .int 5 113 [.ref (B 0)] (w_M Z B X D) (fun r w2 => ∃ D2, r = (o_text X D).1 ∧ w2 = w_M Z B (o_text X D).2 D2) := by
  refine ki_of (by decide) [(0, .ref (B 0))] (Nat.le_of_ble_eq_true rfl) rfl ?_
  intro M e1 e2 K Rt
  subst e1 e2
  refine q_aload_n K 0 dX4_text_0 rfl ?_
  refine q_get (.ref (B 1)) K ws_X4 0 rfl rfl 0 (by decide) fl_X4_7 rfl dX4_text_1 ?_
  refine q_aload_n K 0 dX4_text_4 rfl ?_
  refine q_get (.ref (B 3)) K ws_X4 0 rfl rfl 2 (by decide) fl_X4_16 rfl dX4_text_5 ?_
  refine q_perm (ws' := ([1, 3, 0, 2, 4, 5, 6, 7, 8, 9, 10] : List Nat).map (fun i9 => (w_M (k_Z M) B X D).getD i9 (0, .inr (0, [])))) (k_pick _ (show (List.range 11).Perm _ by decide) rfl) ?_
  refine q_csV (rest := []) K ks_X4_copyRow (c_X4_copyRow (k_l M) (k_Z M) (B 1) (B 3) (f_rw (a_F X)) (d_bf D)) [] (([0, 2, 4, 5, 6, 7, 8, 9, 10] : List Nat).map (fun i9 => (w_M (k_Z M) B X D).getD i9 (0, .inr (0, [])))) rfl ml_X4_141 rfl rfl (Nat.le_of_ble_eq_true rfl) ⟨Nat.le_of_ble_eq_true rfl, Nat.le_of_ble_eq_true rfl⟩ dX4_text_8 (fun w2 h_1 => ?_)
  obtain rfl := h_1
  refine q_perm (ws' := w_M (k_Z M) B X (f_rw (a_F X), d_as D, d_gn D, d_tk D, d_fr D, d_to D, d_vl D, d_fa D)) (k_pick [2, 0, 3, 1, 4, 5, 6, 7, 8, 9, 10] (show (List.range 11).Perm _ by decide) rfl) ?_
  refine q_aload_n K 0 dX4_text_11 rfl ?_
  refine q_iconst 0 K dX4_text_12 rfl ?_
  refine q_put (ty := .int) (ws' := w_M (k_Z M) B X (f_rw (a_F X), d_as D, d_gn D, d_tk D, d_fr D, 0, d_vl D, d_fa D)) K ws_X4 tyX4 tyX4_ok nmX4 0 rfl rfl 14 (by decide) fl_X4_197 rfl (by decide +kernel) rfl rfl (Nat.le_of_ble_eq_true rfl) rfl dX4_text_13 ?_
  refine q_ws (ws' := w_M (k_Z M) B X (d_start (a_F X) D)) rfl ?_
  have hin0 : d_in (a_tp X) (d_start (a_F X) D) := ⟨0, Nat.zero_le _, rfl⟩
  refine q_aload_n K 0 dX4_text_16 rfl ?_
  obtain ⟨i_3, hi_3, ei_3⟩ := hin0
  refine q_wV (q0 := 0) (As := []) (rest := []) K kv_X4_nextToken (c_X4_nextToken (k_l M) (k_Z M) B X (d_start (a_F X) D) hq i_3 hi_3 ei_3) rfl rfl ml_X4_242 rfl rfl (Nat.le_of_ble_eq_true rfl) ⟨Nat.le_of_ble_eq_true rfl, Nat.le_of_ble_eq_true rfl⟩ dX4_text_17 (fun w2 h_2 => ?_)
  obtain rfl := h_2
  refine q_ws (ws' := w_M (k_Z M) B X (p_nx (a_tp X) (d_start (a_F X) D))) (congrArg (w_M (k_Z M) B X) (p_nx_eq (p := a_tp X) (by omega) ei_3)) ?_
  have hin_4 : d_in (a_tp X) (p_nx (a_tp X) (d_start (a_F X) D)) := p_nx_in hq ⟨i_3, hi_3, ei_3⟩
  have hfe_5 : d_fe (a_tp X) (p_nx (a_tp X) (d_start (a_F X) D)) := p_nx_fe hq ⟨i_3, hi_3, ei_3⟩
  refine q_iconst 1 K dX4_text_20 rfl ?_
  refine q_eqi (nI 1) rfl ?_
  refine q_istore_n (lv' := [(1, .int (nI 1)), (0, .ref (B 0))]) K dX4_text_21 (by decide) rfl ?_
  refine q_aload_n K 1 dX4_text_22 rfl ?_
  refine q_wI (q0 := 0) (As := []) (rest := []) K kv_X4_itemHere (c_X4_itemHere (k_l M) (k_Z M) B X (p_nx (a_tp X) (d_start (a_F X) D)) hq hfe_5 m hm hm2) rfl rfl ml_X4_266 rfl rfl (Nat.le_of_ble_eq_true rfl) ⟨Nat.le_of_ble_eq_true rfl, Nat.le_of_ble_eq_true rfl⟩ dX4_text_23 (fun r_7 w2 h_6 => ?_)
  obtain ⟨T_8, hT_8⟩ : ∃ T9, i_item (a_tp X) (a_F X) (p_nx (a_tp X) (d_start (a_F X) D)) = T9 := ⟨_, rfl⟩
  rw [hT_8] at h_6
  obtain ⟨e_r_7, rfl⟩ := h_6
  refine q_ws (ws' := w_M (k_Z M) B (T_8.2.1, a_K X, a_kp X, a_fd X, a_tp X, a_S X) T_8.2.2) rfl ?_
  refine q_eqi (b_int T_8.1) (e_r_7.trans (b_int_i _).symm) ?_
  have hN := i_item_nx (F := a_F X) hq (show t_at (a_tp X) 0 (d_start (a_F X) D) from ⟨0, Nat.zero_le _, Nat.zero_le _, rfl⟩)
  have hW : f_wok (i_item (a_tp X) (a_F X) (p_nx (a_tp X) (d_start (a_F X) D))).2.1 := i_item_P (P := f_wok) keeps_wok (by rw [f_mm hm hm2]; exact hm) ⟨m, hm, hm2⟩
  have hB : d_bf (i_item (a_tp X) (a_F X) (p_nx (a_tp X) (d_start (a_F X) D))).2.2 = f_rw (a_F X) := by rw [i_item_bf] <;> rfl
  rw [hT_8] at hN hW hB
  have hA0 : i_all X D = i_items (a_tp X) 121 1 T_8 := by rw [i_all, hT_8]
  refine q_istore_n (lv' := [(2, .int (b_int T_8.1)), (1, .int (nI 1)), (0, .ref (B 0))]) K dX4_text_26 (by decide) rfl ?_
  refine q_loop (α := Nat × (Bool × FS × DJ)) (fun n9 x9 => ((x9.1 + n9 = 122) ∧ 1 ≤ x9.1) ∧ i_all X D = i_items (a_tp X) n9 x9.1 x9.2 ∧ t_ok (a_tp X) 0 x9.2 ∧ (x9.2.1 = true → t_at (a_tp X) (121 - n9) x9.2.2.2) ∧ d_bf x9.2.2.2 = f_rw (a_F X) ∧ f_wok x9.2.2.1) 27 (fun x9 => [(2, .int (b_int x9.2.1)), (1, .int (nI x9.1)), (0, .ref (B 0))]) (fun x9 => w_M (k_Z M) B (x9.2.2.1, a_K X, a_kp X, a_fd X, a_tp X, a_S X) x9.2.2.2) (fun n_9 x9 hI_10 ih_11 => ?_) 121 (1, T_8) ⟨⟨rfl, Nat.le_refl 1⟩, hA0, hN.1, fun _ => by rw [Nat.sub_self]; exact hN.1.1, hB, hW⟩
  obtain ⟨k, T⟩ := x9
  dsimp only at hI_10 ih_11 ⊢
  have hn9 := hI_10
  obtain ⟨⟨hk, hk1⟩, hA, hT, hT1, hbf, m, hm, hm2⟩ := hI_10
  refine q_iload_n K 0 dX4_text_27 rfl ?_
  refine q_if_eq 54 K dX4_text_28 (by decide) (fun c_12 => ?_) (fun c_12 => ?_)
  · have c_12 : ¬ (T.1 = true) := (kn_eq (b_int_i T.1)).mp c_12
    have hE : i_all X D = (k, T) := hA.trans (i_items_end (fun h9 => c_12 h9.1))
    refine q_iload_n K 0 dX4_text_54 rfl ?_
    refine q_eqi 0 ((b_int_i _).trans (if_neg c_12)) ?_
    refine q_if_eq 76 K dX4_text_55 (by decide) (fun c_0 => ?_) (fun c_0 => absurd c_0 (by decide))
    refine q_iconst 0 K dX4_text_76 rfl ?_
    refine q_istore_n (lv' := [(2, .int 0), (1, .int (nI k)), (0, .ref (B 0))]) K dX4_text_77 (by decide) rfl ?_
    refine q_aload_n K 2 dX4_text_78 rfl ?_
    refine q_iconst 0 K dX4_text_79 rfl ?_
    refine q_put (ty := .int) (ws' := w_M (k_Z M) B (T.2.1, a_K X, a_kp X, a_fd X, ((a_tp X).1, 0), a_S X) T.2.2) K ws_X4 tyX4 tyX4_ok nmX4 0 rfl rfl 7 (by decide) fl_X4_193 rfl (by decide +kernel) rfl rfl (Nat.le_of_ble_eq_true rfl) rfl dX4_text_80 ?_
    refine q_iload_n K 0 dX4_text_83 rfl ?_
    refine q_if_ne 98 K dX4_text_84 (by decide) (fun c_0 => absurd c_0 (by decide)) (fun c_0 => ?_)
    refine q_ws (ws' := w_M (k_Z M) B (T.2.1, a_K X, a_kp X, a_fd X, ((a_tp X).1, 0), a_S X) (f_rw (a_F X), d_as T.2.2, d_gn T.2.2, d_tk T.2.2, d_fr T.2.2, d_to T.2.2, d_vl T.2.2, d_fa T.2.2)) (by rw [← hbf] <;> rfl) ?_
    refine q_aload_n K 2 dX4_text_87 rfl ?_
    refine q_get (.ref (B 3)) K ws_X4 0 rfl rfl 2 (by decide) fl_X4_16 rfl dX4_text_88 ?_
    refine q_aload_n K 2 dX4_text_91 rfl ?_
    refine q_get (.ref (B 1)) K ws_X4 0 rfl rfl 0 (by decide) fl_X4_7 rfl dX4_text_92 ?_
    refine q_perm (ws' := ([3, 1, 0, 2, 4, 5, 6, 7, 8, 9, 10] : List Nat).map (fun i9 => (w_M (k_Z M) B (T.2.1, a_K X, a_kp X, a_fd X, ((a_tp X).1, 0), a_S X) (f_rw (a_F X), d_as T.2.2, d_gn T.2.2, d_tk T.2.2, d_fr T.2.2, d_to T.2.2, d_vl T.2.2, d_fa T.2.2)).getD i9 (0, .inr (0, [])))) (k_pick _ (show (List.range 11).Perm _ by decide) rfl) ?_
    refine q_csV (rest := []) K ks_X4_copyRow (c_X4_copyRow (k_l M) (k_Z M) (B 3) (B 1) (f_rw (a_F X)) (f_rw T.2.1)) [] (([0, 2, 4, 5, 6, 7, 8, 9, 10] : List Nat).map (fun i9 => (w_M (k_Z M) B (T.2.1, a_K X, a_kp X, a_fd X, ((a_tp X).1, 0), a_S X) (f_rw (a_F X), d_as T.2.2, d_gn T.2.2, d_tk T.2.2, d_fr T.2.2, d_to T.2.2, d_vl T.2.2, d_fa T.2.2)).getD i9 (0, .inr (0, [])))) rfl ml_X4_141 rfl rfl (Nat.le_of_ble_eq_true rfl) ⟨Nat.le_of_ble_eq_true rfl, Nat.le_of_ble_eq_true rfl⟩ dX4_text_95 (fun w2 h_13 => ?_)
    obtain rfl := h_13
    refine q_perm (ws' := w_M (k_Z M) B (a_F X, a_K X, a_kp X, a_fd X, ((a_tp X).1, 0), a_S X) (f_rw (a_F X), d_as T.2.2, d_gn T.2.2, d_tk T.2.2, d_fr T.2.2, d_to T.2.2, d_vl T.2.2, d_fa T.2.2)) (k_pick [2, 1, 3, 0, 4, 5, 6, 7, 8, 9, 10] (show (List.range 11).Perm _ by decide) rfl) ?_
    refine q_iload_n K 0 dX4_text_98 rfl ?_
    refine q_if_eq 106 K dX4_text_99 (by decide) (fun c_0 => ?_) (fun c_0 => absurd c_0 (by decide))
    refine q_iconst (-1) K dX4_text_106 rfl ?_
    refine q_aload_n K 2 dX4_text_107 rfl ?_
    refine q_get (.int (d_fa T.2.2)) K ws_X4 0 rfl rfl 16 (by decide) fl_X4_218 rfl dX4_text_108 ?_
    refine q_isub K dX4_text_111 ?_
    exact Rt _ _ ((-1) - (d_fa T.2.2)) (w_M (k_Z M) B (a_F X, a_K X, a_kp X, a_fd X, ((a_tp X).1, 0), a_S X) (f_rw (a_F X), d_as T.2.2, d_gn T.2.2, d_tk T.2.2, d_fr T.2.2, d_to T.2.2, d_vl T.2.2, d_fa T.2.2)) dX4_text_112 rfl (⟨(f_rw (a_F X), d_as T.2.2, d_gn T.2.2, d_tk T.2.2, d_fr T.2.2, d_to T.2.2, d_vl T.2.2, d_fa T.2.2), by rw [o_text_n hE (fun h9 => c_12 h9.1), (hT.2 (Bool.eq_false_iff.mpr c_12))], by rw [o_text_n hE (fun h9 => c_12 h9.1)] <;> rfl⟩)
  · have c_12 : T.1 = true := (kn_ne (b_int_i T.1)).mp c_12
    refine q_aload_n K 2 dX4_text_31 rfl ?_
    refine q_get (.int (d_tk T.2.2)) K ws_X4 0 rfl rfl 12 (by decide) fl_X4_212 rfl dX4_text_32 ?_
    refine q_iconst 3 K dX4_text_35 rfl ?_
    refine q_icmp_ne 54 K dX4_text_36 (by decide) (fun c_14 => ?_) (fun c_14 => ?_)
    · have hE : i_all X D = (k, T) := hA.trans (i_items_end (fun h9 => c_14 h9.2))
      refine q_iload_n K 0 dX4_text_54 rfl ?_
      refine q_eqi 1 ((b_int_i _).trans (if_pos c_12)) ?_
      refine q_if_eq 76 K dX4_text_55 (by decide) (fun c_0 => absurd c_0 (by decide)) (fun c_0 => ?_)
      refine q_aload_n K 2 dX4_text_58 rfl ?_
      refine q_get (.int (d_tk T.2.2)) K ws_X4 0 rfl rfl 12 (by decide) fl_X4_212 rfl dX4_text_59 ?_
      refine q_if_eq 72 K dX4_text_62 (by decide) (fun c_15 => ?_) (fun c_15 => ?_)
      · refine q_iconst 1 K dX4_text_72 rfl ?_
        refine q_goto 77 K dX4_text_73 (by decide) ?_
        refine q_istore_n (lv' := [(2, .int 1), (1, .int (nI k)), (0, .ref (B 0))]) K dX4_text_77 (by decide) rfl ?_
        refine q_aload_n K 2 dX4_text_78 rfl ?_
        refine q_iconst 0 K dX4_text_79 rfl ?_
        refine q_put (ty := .int) (ws' := w_M (k_Z M) B (T.2.1, a_K X, a_kp X, a_fd X, ((a_tp X).1, 0), a_S X) T.2.2) K ws_X4 tyX4 tyX4_ok nmX4 0 rfl rfl 7 (by decide) fl_X4_193 rfl (by decide +kernel) rfl rfl (Nat.le_of_ble_eq_true rfl) rfl dX4_text_80 ?_
        refine q_iload_n K 0 dX4_text_83 rfl ?_
        refine q_if_ne 98 K dX4_text_84 (by decide) (fun c_0 => ?_) (fun c_0 => absurd c_0 (by decide))
        refine q_iload_n K 0 dX4_text_98 rfl ?_
        refine q_if_eq 106 K dX4_text_99 (by decide) (fun c_0 => absurd c_0 (by decide)) (fun c_0 => ?_)
        refine q_iload_n K 1 dX4_text_102 rfl ?_
        refine q_goto 112 K dX4_text_103 (by decide) ?_
        exact Rt _ _ (nI k) (w_M (k_Z M) B (T.2.1, a_K X, a_kp X, a_fd X, ((a_tp X).1, 0), a_S X) T.2.2) dX4_text_112 rfl (⟨T.2.2, by rw [o_text_y hE c_12 c_15], by rw [o_text_y hE c_12 c_15] <;> rfl⟩)
      · refine q_aload_n K 2 dX4_text_65 rfl ?_
        refine q_wI (q0 := 0) (As := []) (rest := []) K kv_X4_fails (c_X4_fails (k_l M) (k_Z M) B (T.2.1, a_K X, a_kp X, a_fd X, a_tp X, a_S X) T.2.2) rfl rfl ml_X4_227 rfl rfl (Nat.le_of_ble_eq_true rfl) ⟨Nat.le_of_ble_eq_true rfl, Nat.le_of_ble_eq_true rfl⟩ dX4_text_66 (fun r_17 w2 h_16 => ?_)
        obtain ⟨e_r_17, rfl⟩ := h_16
        refine q_eqi 0 e_r_17 ?_
        refine q_ws (ws' := w_M (k_Z M) B (T.2.1, a_K X, a_kp X, a_fd X, a_tp X, a_S X) (d_bf T.2.2, d_as T.2.2, d_gn T.2.2, d_tk T.2.2, d_fr T.2.2, d_to T.2.2, d_vl T.2.2, d_fr T.2.2)) rfl ?_
        refine q_if_eq 76 K dX4_text_69 (by decide) (fun c_0 => ?_) (fun c_0 => absurd c_0 (by decide))
        refine q_iconst 0 K dX4_text_76 rfl ?_
        refine q_istore_n (lv' := [(2, .int 0), (1, .int (nI k)), (0, .ref (B 0))]) K dX4_text_77 (by decide) rfl ?_
        refine q_aload_n K 2 dX4_text_78 rfl ?_
        refine q_iconst 0 K dX4_text_79 rfl ?_
        refine q_put (ty := .int) (ws' := w_M (k_Z M) B (T.2.1, a_K X, a_kp X, a_fd X, ((a_tp X).1, 0), a_S X) (d_bf T.2.2, d_as T.2.2, d_gn T.2.2, d_tk T.2.2, d_fr T.2.2, d_to T.2.2, d_vl T.2.2, d_fr T.2.2)) K ws_X4 tyX4 tyX4_ok nmX4 0 rfl rfl 7 (by decide) fl_X4_193 rfl (by decide +kernel) rfl rfl (Nat.le_of_ble_eq_true rfl) rfl dX4_text_80 ?_
        refine q_iload_n K 0 dX4_text_83 rfl ?_
        refine q_if_ne 98 K dX4_text_84 (by decide) (fun c_0 => absurd c_0 (by decide)) (fun c_0 => ?_)
        refine q_ws (ws' := w_M (k_Z M) B (T.2.1, a_K X, a_kp X, a_fd X, ((a_tp X).1, 0), a_S X) (f_rw (a_F X), d_as T.2.2, d_gn T.2.2, d_tk T.2.2, d_fr T.2.2, d_to T.2.2, d_vl T.2.2, d_fr T.2.2)) (by rw [← hbf] <;> rfl) ?_
        refine q_aload_n K 2 dX4_text_87 rfl ?_
        refine q_get (.ref (B 3)) K ws_X4 0 rfl rfl 2 (by decide) fl_X4_16 rfl dX4_text_88 ?_
        refine q_aload_n K 2 dX4_text_91 rfl ?_
        refine q_get (.ref (B 1)) K ws_X4 0 rfl rfl 0 (by decide) fl_X4_7 rfl dX4_text_92 ?_
        refine q_perm (ws' := ([3, 1, 0, 2, 4, 5, 6, 7, 8, 9, 10] : List Nat).map (fun i9 => (w_M (k_Z M) B (T.2.1, a_K X, a_kp X, a_fd X, ((a_tp X).1, 0), a_S X) (f_rw (a_F X), d_as T.2.2, d_gn T.2.2, d_tk T.2.2, d_fr T.2.2, d_to T.2.2, d_vl T.2.2, d_fr T.2.2)).getD i9 (0, .inr (0, [])))) (k_pick _ (show (List.range 11).Perm _ by decide) rfl) ?_
        refine q_csV (rest := []) K ks_X4_copyRow (c_X4_copyRow (k_l M) (k_Z M) (B 3) (B 1) (f_rw (a_F X)) (f_rw T.2.1)) [] (([0, 2, 4, 5, 6, 7, 8, 9, 10] : List Nat).map (fun i9 => (w_M (k_Z M) B (T.2.1, a_K X, a_kp X, a_fd X, ((a_tp X).1, 0), a_S X) (f_rw (a_F X), d_as T.2.2, d_gn T.2.2, d_tk T.2.2, d_fr T.2.2, d_to T.2.2, d_vl T.2.2, d_fr T.2.2)).getD i9 (0, .inr (0, [])))) rfl ml_X4_141 rfl rfl (Nat.le_of_ble_eq_true rfl) ⟨Nat.le_of_ble_eq_true rfl, Nat.le_of_ble_eq_true rfl⟩ dX4_text_95 (fun w2 h_18 => ?_)
        obtain rfl := h_18
        refine q_perm (ws' := w_M (k_Z M) B (a_F X, a_K X, a_kp X, a_fd X, ((a_tp X).1, 0), a_S X) (f_rw (a_F X), d_as T.2.2, d_gn T.2.2, d_tk T.2.2, d_fr T.2.2, d_to T.2.2, d_vl T.2.2, d_fr T.2.2)) (k_pick [2, 1, 3, 0, 4, 5, 6, 7, 8, 9, 10] (show (List.range 11).Perm _ by decide) rfl) ?_
        refine q_iload_n K 0 dX4_text_98 rfl ?_
        refine q_if_eq 106 K dX4_text_99 (by decide) (fun c_0 => ?_) (fun c_0 => absurd c_0 (by decide))
        refine q_iconst (-1) K dX4_text_106 rfl ?_
        refine q_aload_n K 2 dX4_text_107 rfl ?_
        refine q_get (.int (d_fr T.2.2)) K ws_X4 0 rfl rfl 16 (by decide) fl_X4_218 rfl dX4_text_108 ?_
        refine q_isub K dX4_text_111 ?_
        exact Rt _ _ ((-1) - (d_fr T.2.2)) (w_M (k_Z M) B (a_F X, a_K X, a_kp X, a_fd X, ((a_tp X).1, 0), a_S X) (f_rw (a_F X), d_as T.2.2, d_gn T.2.2, d_tk T.2.2, d_fr T.2.2, d_to T.2.2, d_vl T.2.2, d_fr T.2.2)) dX4_text_112 rfl (⟨(f_rw (a_F X), d_as T.2.2, d_gn T.2.2, d_tk T.2.2, d_fr T.2.2, d_to T.2.2, d_vl T.2.2, d_fr T.2.2), by rw [o_text_n hE (fun h9 => c_15 h9.2)], by rw [o_text_n hE (fun h9 => c_15 h9.2)] <;> rfl⟩)
    · have hj := hT1 c_12
      obtain ⟨j, hj1, hj2, hj3⟩ := id hj
      have hin1 : d_in (a_tp X) T.2.2 := ⟨j, hj2, hj3⟩
      have hA2 : i_all X D = i_items (a_tp X) (n_9 - 1) (k + 1) (i_item (a_tp X) T.2.1 (p_nx (a_tp X) T.2.2)) := by rw [hA, show n_9 = (n_9 - 1) + 1 by omega, i_items, if_pos ⟨c_12, c_14⟩] <;> rfl
      refine q_aload_n K 2 dX4_text_39 rfl ?_
      obtain ⟨i_20, hi_20, ei_20⟩ := hin1
      refine q_wV (q0 := 0) (As := []) (rest := []) K kv_X4_nextToken (c_X4_nextToken (k_l M) (k_Z M) B (T.2.1, a_K X, a_kp X, a_fd X, a_tp X, a_S X) T.2.2 hq i_20 hi_20 ei_20) rfl rfl ml_X4_242 rfl rfl (Nat.le_of_ble_eq_true rfl) ⟨Nat.le_of_ble_eq_true rfl, Nat.le_of_ble_eq_true rfl⟩ dX4_text_40 (fun w2 h_19 => ?_)
      obtain rfl := h_19
      refine q_ws (ws' := w_M (k_Z M) B (T.2.1, a_K X, a_kp X, a_fd X, a_tp X, a_S X) (p_nx (a_tp X) T.2.2)) (congrArg (w_M (k_Z M) B (T.2.1, a_K X, a_kp X, a_fd X, a_tp X, a_S X)) (p_nx_eq (p := a_tp X) (by omega) ei_20)) ?_
      have hin_21 : d_in (a_tp X) (p_nx (a_tp X) T.2.2) := p_nx_in hq ⟨i_20, hi_20, ei_20⟩
      have hfe_22 : d_fe (a_tp X) (p_nx (a_tp X) T.2.2) := p_nx_fe hq ⟨i_20, hi_20, ei_20⟩
      refine q_aload_n K 2 dX4_text_43 rfl ?_
      refine q_wI (q0 := 0) (As := []) (rest := []) K kv_X4_itemHere (c_X4_itemHere (k_l M) (k_Z M) B (T.2.1, a_K X, a_kp X, a_fd X, a_tp X, a_S X) (p_nx (a_tp X) T.2.2) hq hfe_22 m hm hm2) rfl rfl ml_X4_266 rfl rfl (Nat.le_of_ble_eq_true rfl) ⟨Nat.le_of_ble_eq_true rfl, Nat.le_of_ble_eq_true rfl⟩ dX4_text_44 (fun r_24 w2 h_23 => ?_)
      obtain ⟨T_25, hT_25⟩ : ∃ T9, i_item (a_tp X) T.2.1 (p_nx (a_tp X) T.2.2) = T9 := ⟨_, rfl⟩
      rw [hT_25] at h_23
      obtain ⟨e_r_24, rfl⟩ := h_23
      refine q_ws (ws' := w_M (k_Z M) B (T_25.2.1, a_K X, a_kp X, a_fd X, a_tp X, a_S X) T_25.2.2) rfl ?_
      refine q_eqi (b_int T_25.1) (e_r_24.trans (b_int_i _).symm) ?_
      have hN := i_item_nx (F := T.2.1) hq hj
      have hW : f_wok (i_item (a_tp X) T.2.1 (p_nx (a_tp X) T.2.2)).2.1 := i_item_P (P := f_wok) keeps_wok (by rw [f_mm hm hm2]; exact hm) ⟨m, hm, hm2⟩
      have hB : d_bf (i_item (a_tp X) T.2.1 (p_nx (a_tp X) T.2.2)).2.2 = f_rw (a_F X) := by rw [i_item_bf] <;> exact hbf
      rw [hT_25] at hN hW hB
      rw [hT_25] at hA2
      refine q_istore_n (lv' := [(2, .int (b_int T_25.1)), (1, .int (nI k)), (0, .ref (B 0))]) K dX4_text_47 (by decide) rfl ?_
      refine q_iinc (nI (k + 1)) (lv' := [(1, .int (nI (k + 1))), (2, .int (b_int T_25.1)), (0, .ref (B 0))]) K 1 dX4_text_48 rfl (kn_inc k) (by decide) rfl ?_
      refine q_goto 27 K dX4_text_51 (by decide) ?_
      refine q_lv [1, 0, 2] rfl ?_
      exact ih_11 (n_9 - 1) (k + 1, T_25) (by omega) ⟨⟨by show k + 1 + (n_9 - 1) = 122; omega, by show 1 ≤ k + 1; omega⟩, hA2, ⟨(by obtain ⟨j9, h1, h2, h3⟩ := hN.1.1; exact ⟨j9, Nat.zero_le _, h2, h3⟩), hN.1.2⟩, fun h9 => by rw [show 121 - (n_9 - 1) = (121 - n_9) + 1 by omega]; exact hN.2 h9, hB, hW⟩
theorem kv_X4_text : k_iv yX4_text cX4_text 3 (some .int) 0 := ⟨⟨im_X4_text, se_X4_text⟩, in_X4, co_X4_text, by decide +kernel⟩
