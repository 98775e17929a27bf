set_option maxHeartbeats 4000000 in
set_option maxRecDepth 100000 in
theorem c_X4_allBut (l : Launch) (Z : kz_Z) (B : Nat → Nat) (X : AS) (D : DJ) (m : Nat) (hm : m ≤ 8) (hm2 : f_wk (a_F X) = nI m) (w : Nat) (hw : w < 8) : KI l Z yX4_allBut cX4_allBut 2 .int 0 0 [.ref (B 0), .int (nI w)] (w_M Z B X D) (fun r w2 => r = k_ab m w ∧ w2 = w_M Z B X D) := by
  refine ki_of (by decide) [(0, .ref (B 0)), (1, .int (nI w))] (Nat.le_of_ble_eq_true rfl) rfl ?_
  intro M e1 e2 K Rt
  subst e1 e2
  refine q_iconst 1 K dX4_allBut_0 rfl ?_
  refine q_aload_n K 0 dX4_allBut_1 rfl ?_
  refine q_get (.ref (B 1)) K ws_X4 0 rfl rfl 0 (by decide) fl_X4_7 rfl dX4_allBut_2 ?_
  refine q_iconst 0 K dX4_allBut_5 rfl ?_
  refine q_iald K 1 rfl (vp_in_nI (n := 0) (N := 71) (by omega) (by omega)) dX4_allBut_6 ?_
  refine q_eqi (f_wk (a_F X)) rfl ?_
  refine q_eqi (nI m) hm2 ?_
  refine q_ishl K dX4_allBut_7 ?_
  refine q_iconst 1 K dX4_allBut_8 rfl ?_
  refine q_isub K dX4_allBut_9 ?_
  refine q_iconst 1 K dX4_allBut_10 rfl ?_
  refine q_iload_n K 1 dX4_allBut_11 rfl ?_
  refine q_ishl K dX4_allBut_12 ?_
  refine q_iconst (-1) K dX4_allBut_13 rfl ?_
  refine q_ixor K dX4_allBut_14 ?_
  refine q_iand K dX4_allBut_15 ?_
  refine q_eqi (k_ab m w) rfl ?_
  exact Rt _ _ (k_ab m w) (w_M (k_Z M) B X D) dX4_allBut_16 rfl (⟨rfl, rfl⟩)
theorem kv_X4_allBut : k_iv yX4_allBut cX4_allBut 2 (some .int) 1 := ⟨⟨im_X4_allBut, se_X4_allBut⟩, in_X4, co_X4_allBut, by decide +kernel⟩
set_option maxHeartbeats 4000000 in
set_option maxRecDepth 100000 in
theorem c_X4_isTold (l : Launch) (Z : kz_Z) (B : Nat → Nat) (X : AS) (D : DJ) (m : Nat) (hm : m ≤ 8) (hm2 : f_wk (a_F X) = nI m) (hok : f_ok (a_F X)) (t : Nat) (ht : t < 4) (z : Nat) (hz : z ≤ 40) (hz2 : s_sz (a_S X t) = nI z) (c : Int32) (n : Nat) (hn : n ≤ 20) : KI l Z yX4_isTold cX4_isTold 7 .boolean 4 97 [.ref (B 0), .int (nI t), .int c, .int (nI n)] (w_M Z B X D) (fun r w2 => ∃ D2, (r = if p_told X t (f_hoursR (f_gn c) (a_F X) n) = true then 1 else 0) ∧ w2 = w_M Z B X D2) := by
  refine ki_of (by decide) [(0, .ref (B 0)), (1, .int (nI t)), (2, .int c), (3, .int (nI n))] (Nat.le_of_ble_eq_true rfl) rfl ?_
  intro M e1 e2 K Rt
  subst e1 e2
  refine q_aload_n K 0 dX4_isTold_0 rfl ?_
  refine q_get (.ref (B 1)) K ws_X4 0 rfl rfl 0 (by decide) fl_X4_7 rfl dX4_isTold_1 ?_
  refine q_aload_n K 0 dX4_isTold_4 rfl ?_
  refine q_get (.ref (B 4)) K ws_X4 0 rfl rfl 3 (by decide) fl_X4_19 rfl dX4_isTold_5 ?_
  refine q_perm (ws' := ([1, 4, 0, 2, 3, 5, 6, 7, 8, 9, 10] : List Nat).map (fun i9 => (w_M (k_Z M) B X D).getD i9 (0, .inr (0, [])))) (k_pick _ (show (List.range 11).Perm _ by decide) rfl) ?_
  refine q_csV (rest := []) K ks_X4_copyRow (c_X4_copyRow (k_l M) (k_Z M) (B 1) (B 4) (f_rw (a_F X)) (d_as D)) [] (([0, 2, 3, 5, 6, 7, 8, 9, 10] : List Nat).map (fun i9 => (w_M (k_Z M) B X D).getD i9 (0, .inr (0, [])))) rfl ml_X4_141 rfl rfl (Nat.le_of_ble_eq_true rfl) ⟨Nat.le_of_ble_eq_true rfl, Nat.le_of_ble_eq_true rfl⟩ dX4_isTold_8 (fun w2 h_1 => ?_)
  obtain rfl := h_1
  refine q_perm (ws' := w_M (k_Z M) B X (d_bf D, f_rw (a_F X), d_gn D, d_tk D, d_fr D, d_to D, d_vl D, d_fa D)) (k_pick [2, 0, 3, 4, 1, 5, 6, 7, 8, 9, 10] (show (List.range 11).Perm _ by decide) rfl) ?_
  refine q_iconst 0 K dX4_isTold_11 rfl ?_
  refine q_istore (lv' := [(4, .int 0), (0, .ref (B 0)), (1, .int (nI t)), (2, .int c), (3, .int (nI n))]) K dX4_isTold_12 (by decide) rfl ?_
  refine q_loop (α := Nat × (Nat → Int32)) (fun n9 x9 => x9.1 + n9 = n) 14 (fun x9 => [(4, .int (nI x9.1)), (0, .ref (B 0)), (1, .int (nI t)), (2, .int c), (3, .int (nI n))]) (fun x9 => w_M (k_Z M) B (f_hoursR (f_gn c) (a_F X) x9.1, a_K X, a_kp X, a_fd X, a_tp X, a_S X) (d_bf D, f_rw (a_F X), x9.2, d_tk D, d_fr D, d_to D, d_vl D, d_fa D)) (fun n_2 x9 hI_3 ih_4 => ?_) n (0, d_gn D) (by show _ = _; omega)
  obtain ⟨i, T1⟩ := x9
  dsimp only at hI_3 ih_4 ⊢
  refine q_iload K 0 dX4_isTold_14 rfl ?_
  refine q_iload_n K 4 dX4_isTold_16 rfl ?_
  refine q_icmp_ge 31 K dX4_isTold_17 (by decide) (fun c_5 => ?_) (fun c_5 => ?_)
  · have c_5n : n ≤ i := (nI_leI (a := n) (b := i) (by omega) (by omega)).mp c_5
    refine q_ws (ws' := w_M (k_Z M) B (f_hoursR (f_gn c) (a_F X) n, a_K X, a_kp X, a_fd X, a_tp X, a_S X) (d_bf D, f_rw (a_F X), T1, d_tk D, d_fr D, d_to D, d_vl D, d_fa D)) (by rw [show i = n by omega]) ?_
    refine q_iconst 1 K dX4_isTold_31 rfl ?_
    refine q_istore (lv' := [(4, .int 1), (0, .ref (B 0)), (1, .int (nI t)), (2, .int c), (3, .int (nI n))]) K dX4_isTold_32 (by decide) rfl ?_
    refine q_iconst 0 K dX4_isTold_34 rfl ?_
    show kJ M 7 35 [(4, .int (if f_told (s_nm (a_S X t)) (f_gs (f_hoursR (f_gn c) (a_F X) n)) 0 = true then (1 : Int32) else 0)), (0, .ref (B 0)), (1, .int (nI t)), (2, .int c), (3, .int (nI n))] [.int 0] (w_M (k_Z M) B (f_hoursR (f_gn c) (a_F X) n, a_K X, a_kp X, a_fd X, a_tp X, a_S X) (d_bf D, f_rw (a_F X), T1, d_tk D, d_fr D, d_to D, d_vl D, d_fa D))
    refine q_istore (lv' := [(5, .int 0), (4, .int (if f_told (s_nm (a_S X t)) (f_gs (f_hoursR (f_gn c) (a_F X) n)) 0 = true then (1 : Int32) else 0)), (0, .ref (B 0)), (1, .int (nI t)), (2, .int c), (3, .int (nI n))]) K dX4_isTold_35 (by decide) rfl ?_
    refine q_lv [0, 1, 2, 3, 4, 5] rfl ?_
    refine q_loop (α := Nat) (fun n9 g => g + n9 = min z 8) 37 (fun g => [(5, .int (nI g)), (4, .int (if f_told (s_nm (a_S X t)) (f_gs (f_hoursR (f_gn c) (a_F X) n)) g = true then (1 : Int32) else 0)), (0, .ref (B 0)), (1, .int (nI t)), (2, .int c), (3, .int (nI n))]) (fun g => w_M (k_Z M) B (f_hoursR (f_gn c) (a_F X) n, a_K X, a_kp X, a_fd X, a_tp X, a_S X) (d_bf D, f_rw (a_F X), T1, d_tk D, d_fr D, d_to D, d_vl D, d_fa D)) (fun n_6 g hI_7 ih_8 => ?_) (min z 8) 0 (by omega)
    refine q_iload K 0 dX4_isTold_37 rfl ?_
    refine q_aload_n K 2 dX4_isTold_39 rfl ?_
    refine q_get (.ref (B 8)) K ws_X4 0 rfl rfl 9 (by decide) fl_X4_31 rfl dX4_isTold_40 ?_
    refine q_iload_n K 3 dX4_isTold_43 rfl ?_
    refine q_iald K 8 rfl (vp_in_nI (n := t) (N := 4) (by omega) (by omega)) dX4_isTold_44 ?_
    refine q_eqi ((m_sz (a_S X)) t) (by rw [nI_clamp (n := t) (by omega)]) ?_
    refine q_eqi (nI z) hz2 ?_
    refine q_icmp_ge 106 K dX4_isTold_45 (by decide) (fun c_9 => ?_) (fun c_9 => ?_)
    · have c_9n : z ≤ g := (nI_leI (a := z) (b := g) (by omega) (by omega)).mp c_9
      refine q_aload_n K 2 dX4_isTold_106 rfl ?_
      refine q_get (.ref (B 4)) K ws_X4 0 rfl rfl 3 (by decide) fl_X4_19 rfl dX4_isTold_107 ?_
      refine q_aload_n K 2 dX4_isTold_110 rfl ?_
      refine q_get (.ref (B 1)) K ws_X4 0 rfl rfl 0 (by decide) fl_X4_7 rfl dX4_isTold_111 ?_
      refine q_perm (ws' := ([4, 1, 0, 2, 3, 5, 6, 7, 8, 9, 10] : List Nat).map (fun i9 => (w_M (k_Z M) B (f_hoursR (f_gn c) (a_F X) n, a_K X, a_kp X, a_fd X, a_tp X, a_S X) (d_bf D, f_rw (a_F X), T1, d_tk D, d_fr D, d_to D, d_vl D, d_fa D)).getD i9 (0, .inr (0, [])))) (k_pick _ (show (List.range 11).Perm _ by decide) rfl) ?_
      refine q_csV (rest := []) K ks_X4_copyRow (c_X4_copyRow (k_l M) (k_Z M) (B 4) (B 1) (f_rw (a_F X)) (f_rw (f_hoursR (f_gn c) (a_F X) n))) [] (([0, 2, 3, 5, 6, 7, 8, 9, 10] : List Nat).map (fun i9 => (w_M (k_Z M) B (f_hoursR (f_gn c) (a_F X) n, a_K X, a_kp X, a_fd X, a_tp X, a_S X) (d_bf D, f_rw (a_F X), T1, d_tk D, d_fr D, d_to D, d_vl D, d_fa D)).getD i9 (0, .inr (0, [])))) rfl ml_X4_141 rfl rfl (Nat.le_of_ble_eq_true rfl) ⟨Nat.le_of_ble_eq_true rfl, Nat.le_of_ble_eq_true rfl⟩ dX4_isTold_114 (fun w2 h_10 => ?_)
      obtain rfl := h_10
      refine q_perm (ws' := w_M (k_Z M) B X (d_bf D, f_rw (a_F X), T1, d_tk D, d_fr D, d_to D, d_vl D, d_fa D)) (k_pick [2, 1, 3, 4, 0, 5, 6, 7, 8, 9, 10] (show (List.range 11).Perm _ by decide) rfl) ?_
      refine q_iload K 1 dX4_isTold_117 rfl ?_
      exact Rt _ _ (if f_told (s_nm (a_S X t)) (f_gs (f_hoursR (f_gn c) (a_F X) n)) g = true then (1 : Int32) else 0) (w_M (k_Z M) B X (d_bf D, f_rw (a_F X), T1, d_tk D, d_fr D, d_to D, d_vl D, d_fa D)) dX4_isTold_119 (kn_narZ rfl) (⟨(d_bf D, f_rw (a_F X), T1, d_tk D, d_fr D, d_to D, d_vl D, d_fa D), by rw [p_told, a_szz hz hz2, show min z 8 = g by omega], rfl⟩)
    · have c_9n : ¬ (z ≤ g) := fun h9 => c_9 ((nI_leI (a := z) (b := g) (by omega) (by omega)).mpr h9)
      refine q_iload K 0 dX4_isTold_48 rfl ?_
      refine q_bipush 8 K dX4_isTold_50 rfl ?_
      refine q_icmp_ge 106 K dX4_isTold_52 (by decide) (fun c_11 => ?_) (fun c_11 => ?_)
      · have c_11n : 8 ≤ g := (nI_leI (a := 8) (b := g) (by omega) (by omega)).mp c_11
        refine q_aload_n K 2 dX4_isTold_106 rfl ?_
        refine q_get (.ref (B 4)) K ws_X4 0 rfl rfl 3 (by decide) fl_X4_19 rfl dX4_isTold_107 ?_
        refine q_aload_n K 2 dX4_isTold_110 rfl ?_
        refine q_get (.ref (B 1)) K ws_X4 0 rfl rfl 0 (by decide) fl_X4_7 rfl dX4_isTold_111 ?_
        refine q_perm (ws' := ([4, 1, 0, 2, 3, 5, 6, 7, 8, 9, 10] : List Nat).map (fun i9 => (w_M (k_Z M) B (f_hoursR (f_gn c) (a_F X) n, a_K X, a_kp X, a_fd X, a_tp X, a_S X) (d_bf D, f_rw (a_F X), T1, d_tk D, d_fr D, d_to D, d_vl D, d_fa D)).getD i9 (0, .inr (0, [])))) (k_pick _ (show (List.range 11).Perm _ by decide) rfl) ?_
        refine q_csV (rest := []) K ks_X4_copyRow (c_X4_copyRow (k_l M) (k_Z M) (B 4) (B 1) (f_rw (a_F X)) (f_rw (f_hoursR (f_gn c) (a_F X) n))) [] (([0, 2, 3, 5, 6, 7, 8, 9, 10] : List Nat).map (fun i9 => (w_M (k_Z M) B (f_hoursR (f_gn c) (a_F X) n, a_K X, a_kp X, a_fd X, a_tp X, a_S X) (d_bf D, f_rw (a_F X), T1, d_tk D, d_fr D, d_to D, d_vl D, d_fa D)).getD i9 (0, .inr (0, [])))) rfl ml_X4_141 rfl rfl (Nat.le_of_ble_eq_true rfl) ⟨Nat.le_of_ble_eq_true rfl, Nat.le_of_ble_eq_true rfl⟩ dX4_isTold_114 (fun w2 h_12 => ?_)
        obtain rfl := h_12
        refine q_perm (ws' := w_M (k_Z M) B X (d_bf D, f_rw (a_F X), T1, d_tk D, d_fr D, d_to D, d_vl D, d_fa D)) (k_pick [2, 1, 3, 4, 0, 5, 6, 7, 8, 9, 10] (show (List.range 11).Perm _ by decide) rfl) ?_
        refine q_iload K 1 dX4_isTold_117 rfl ?_
        exact Rt _ _ (if f_told (s_nm (a_S X t)) (f_gs (f_hoursR (f_gn c) (a_F X) n)) g = true then (1 : Int32) else 0) (w_M (k_Z M) B X (d_bf D, f_rw (a_F X), T1, d_tk D, d_fr D, d_to D, d_vl D, d_fa D)) dX4_isTold_119 (kn_narZ rfl) (⟨(d_bf D, f_rw (a_F X), T1, d_tk D, d_fr D, d_to D, d_vl D, d_fa D), by rw [p_told, a_szz hz hz2, show min z 8 = g by omega], rfl⟩)
      · have c_11n : ¬ (8 ≤ g) := fun h9 => c_11 ((nI_leI (a := 8) (b := g) (by omega) (by omega)).mpr h9)
        refine q_aload_n K 2 dX4_isTold_55 rfl ?_
        refine q_get (.ref (B 9)) K ws_X4 0 rfl rfl 10 (by decide) fl_X4_34 rfl dX4_isTold_56 ?_
        refine q_bipush 40 K dX4_isTold_59 rfl ?_
        refine q_iload_n K 3 dX4_isTold_61 rfl ?_
        refine q_imul K dX4_isTold_62 ?_
        refine q_eqi (nI (40 * t)) (pk_mul 40 t) ?_
        refine q_iload K 0 dX4_isTold_63 rfl ?_
        refine q_iadd K dX4_isTold_65 ?_
        refine q_eqi (nI ((40 * t) + g)) (kn_add (40 * t) g) ?_
        refine q_iald K 9 rfl (vp_in_nI (n := (40 * t) + g) (N := 160) (by omega) (by omega)) dX4_isTold_66 ?_
        refine q_eqi (s_nm (a_S X t) g) (by rw [nI_clamp (n := (40 * t) + g) (by omega)]; exact m_nm_at _ (by omega)) ?_
        refine q_istore (lv' := [(6, .int (s_nm (a_S X t) g)), (5, .int (nI g)), (4, .int (if f_told (s_nm (a_S X t)) (f_gs (f_hoursR (f_gn c) (a_F X) n)) g = true then (1 : Int32) else 0)), (0, .ref (B 0)), (1, .int (nI t)), (2, .int c), (3, .int (nI n))]) K dX4_isTold_67 (by decide) rfl ?_
        refine q_iload K 2 dX4_isTold_69 rfl ?_
        refine q_iload K 0 dX4_isTold_71 rfl ?_
        refine q_iconst (-1) K dX4_isTold_73 rfl ?_
        refine q_icmp_eq 92 K dX4_isTold_74 (by decide) (fun c_13 => ?_) (fun c_13 => ?_)
        · refine q_iconst 1 K dX4_isTold_92 rfl ?_
          refine q_goto 97 K dX4_isTold_93 (by decide) ?_
          refine q_iand K dX4_isTold_97 ?_
          refine q_istore (lv' := [(4, .int ((if f_told (s_nm (a_S X t)) (f_gs (f_hoursR (f_gn c) (a_F X) n)) g = true then (1 : Int32) else 0) &&& 1)), (6, .int (s_nm (a_S X t) g)), (5, .int (nI g)), (0, .ref (B 0)), (1, .int (nI t)), (2, .int c), (3, .int (nI n))]) K dX4_isTold_98 (by decide) rfl ?_
          refine q_iinc (nI (g + 1)) (lv' := [(5, .int (nI (g + 1))), (4, .int ((if f_told (s_nm (a_S X t)) (f_gs (f_hoursR (f_gn c) (a_F X) n)) g = true then (1 : Int32) else 0) &&& 1)), (6, .int (s_nm (a_S X t) g)), (0, .ref (B 0)), (1, .int (nI t)), (2, .int c), (3, .int (nI n))]) K 2 dX4_isTold_100 rfl (kn_inc g) (by decide) rfl ?_
          refine q_goto 37 K dX4_isTold_103 (by decide) ?_
          refine q_lv [0, 1, 3, 4, 5, 6] rfl ?_
          rw [show (if f_told (s_nm (a_S X t)) (f_gs (f_hoursR (f_gn c) (a_F X) n)) g = true then (1 : Int32) else 0) &&& 1 = if f_told (s_nm (a_S X t)) (f_gs (f_hoursR (f_gn c) (a_F X) n)) (g + 1) = true then (1 : Int32) else 0 from told_1 (Or.inl c_13)]
          exact ih_8 (n_6 - 1) (g + 1) (by omega) (by omega)
        · refine q_iload K 0 dX4_isTold_77 rfl ?_
          refine q_aload_n K 3 dX4_isTold_79 rfl ?_
          refine q_get (.ref (B 1)) K ws_X4 0 rfl rfl 0 (by decide) fl_X4_7 rfl dX4_isTold_80 ?_
          refine q_bipush 13 K dX4_isTold_83 rfl ?_
          refine q_iload K 1 dX4_isTold_85 rfl ?_
          refine q_iadd K dX4_isTold_87 ?_
          refine q_eqi (nI (13 + g)) (kn_add 13 g) ?_
          refine q_iald K 1 rfl (vp_in_nI (n := 13 + g) (N := 71) (by omega) (by omega)) dX4_isTold_88 ?_
          refine q_eqi (f_gs (f_hoursR (f_gn c) (a_F X) n) g) (by rw [nI_clamp (n := 13 + g) (by omega)]; exact rw_gs _ (by omega)) ?_
          refine q_icmp_ne 96 K dX4_isTold_89 (by decide) (fun c_14 => ?_) (fun c_14 => ?_)
          · refine q_iconst 0 K dX4_isTold_96 rfl ?_
            refine q_iand K dX4_isTold_97 ?_
            refine q_istore (lv' := [(4, .int ((if f_told (s_nm (a_S X t)) (f_gs (f_hoursR (f_gn c) (a_F X) n)) g = true then (1 : Int32) else 0) &&& 0)), (6, .int (s_nm (a_S X t) g)), (5, .int (nI g)), (0, .ref (B 0)), (1, .int (nI t)), (2, .int c), (3, .int (nI n))]) K dX4_isTold_98 (by decide) rfl ?_
            refine q_iinc (nI (g + 1)) (lv' := [(5, .int (nI (g + 1))), (4, .int ((if f_told (s_nm (a_S X t)) (f_gs (f_hoursR (f_gn c) (a_F X) n)) g = true then (1 : Int32) else 0) &&& 0)), (6, .int (s_nm (a_S X t) g)), (0, .ref (B 0)), (1, .int (nI t)), (2, .int c), (3, .int (nI n))]) K 2 dX4_isTold_100 rfl (kn_inc g) (by decide) rfl ?_
            refine q_goto 37 K dX4_isTold_103 (by decide) ?_
            refine q_lv [0, 1, 3, 4, 5, 6] rfl ?_
            rw [show (if f_told (s_nm (a_S X t)) (f_gs (f_hoursR (f_gn c) (a_F X) n)) g = true then (1 : Int32) else 0) &&& 0 = if f_told (s_nm (a_S X t)) (f_gs (f_hoursR (f_gn c) (a_F X) n)) (g + 1) = true then (1 : Int32) else 0 from told_0 c_13 c_14]
            exact ih_8 (n_6 - 1) (g + 1) (by omega) (by omega)
          · refine q_iconst 1 K dX4_isTold_92 rfl ?_
            refine q_goto 97 K dX4_isTold_93 (by decide) ?_
            refine q_iand K dX4_isTold_97 ?_
            refine q_istore (lv' := [(4, .int ((if f_told (s_nm (a_S X t)) (f_gs (f_hoursR (f_gn c) (a_F X) n)) g = true then (1 : Int32) else 0) &&& 1)), (6, .int (s_nm (a_S X t) g)), (5, .int (nI g)), (0, .ref (B 0)), (1, .int (nI t)), (2, .int c), (3, .int (nI n))]) K dX4_isTold_98 (by decide) rfl ?_
            refine q_iinc (nI (g + 1)) (lv' := [(5, .int (nI (g + 1))), (4, .int ((if f_told (s_nm (a_S X t)) (f_gs (f_hoursR (f_gn c) (a_F X) n)) g = true then (1 : Int32) else 0) &&& 1)), (6, .int (s_nm (a_S X t) g)), (0, .ref (B 0)), (1, .int (nI t)), (2, .int c), (3, .int (nI n))]) K 2 dX4_isTold_100 rfl (kn_inc g) (by decide) rfl ?_
            refine q_goto 37 K dX4_isTold_103 (by decide) ?_
            refine q_lv [0, 1, 3, 4, 5, 6] rfl ?_
            rw [show (if f_told (s_nm (a_S X t)) (f_gs (f_hoursR (f_gn c) (a_F X) n)) g = true then (1 : Int32) else 0) &&& 1 = if f_told (s_nm (a_S X t)) (f_gs (f_hoursR (f_gn c) (a_F X) n)) (g + 1) = true then (1 : Int32) else 0 from told_1 (Or.inr c_14)]
            exact ih_8 (n_6 - 1) (g + 1) (by omega) (by omega)
  · have c_5n : ¬ (n ≤ i) := fun h9 => c_5 ((nI_leI (a := n) (b := i) (by omega) (by omega)).mpr h9)
    refine q_aload_n K 1 dX4_isTold_20 rfl ?_
    refine q_iload_n K 3 dX4_isTold_21 rfl ?_
    refine q_wV (q0 := 0) (As := [.int c]) (rest := []) K kv_X4_hourBut (c_X4_hourBut (k_l M) (k_Z M) B (f_hoursR (f_gn c) (a_F X) i, a_K X, a_kp X, a_fd X, a_tp X, a_S X) (d_bf D, f_rw (a_F X), T1, d_tk D, d_fr D, d_to D, d_vl D, d_fa D) m hm ((f_hoursR_wk _ _ _).trans hm2) (f_ok_hoursR _ hok (by rw [f_mm hm hm2]; exact hm) i) c) rfl rfl ml_X4_115 rfl rfl (Nat.le_of_ble_eq_true rfl) ⟨Nat.le_of_ble_eq_true rfl, Nat.le_of_ble_eq_true rfl⟩ dX4_isTold_22 (fun w2 h_15 => ?_)
    obtain ⟨x_17, rfl⟩ := h_15
    refine q_ws (ws' := w_M (k_Z M) B (f_hourR (f_gn c) (f_hoursR (f_gn c) (a_F X) i), a_K X, a_kp X, a_fd X, a_tp X, a_S X) (d_bf D, f_rw (a_F X), x_17, d_tk D, d_fr D, d_to D, d_vl D, d_fa D)) rfl ?_
    refine q_ws (ws' := w_M (k_Z M) B (f_hoursR (f_gn c) (a_F X) (i + 1), a_K X, a_kp X, a_fd X, a_tp X, a_S X) (d_bf D, f_rw (a_F X), x_17, d_tk D, d_fr D, d_to D, d_vl D, d_fa D)) rfl ?_
    refine q_iinc (nI (i + 1)) (lv' := [(4, .int (nI (i + 1))), (0, .ref (B 0)), (1, .int (nI t)), (2, .int c), (3, .int (nI n))]) K 0 dX4_isTold_25 rfl (kn_inc i) (by decide) rfl ?_
    refine q_goto 14 K dX4_isTold_28 (by decide) ?_
    exact ih_4 (n_2 - 1) (i + 1, x_17) (by omega) (by show i + 1 + (n_2 - 1) = n; omega)
theorem kv_X4_isTold : k_iv yX4_isTold cX4_isTold 7 (some .boolean) 3 := ⟨⟨im_X4_isTold, se_X4_isTold⟩, in_X4, co_X4_isTold, by decide +kernel⟩
set_option maxHeartbeats 4000000 in
set_option maxRecDepth 100000 in
theorem c_X4_who (l : Launch) (Z : kz_Z) (B : Nat → Nat) (X : AS) (D : DJ) (m : Nat) (hm : m ≤ 8) (hm2 : f_wk (a_F X) = nI m) (hok : f_ok (a_F X)) (hsh : a_shok X) (hbt : a_btok X) (s : Int32) : KI l Z yX4_who cX4_who 4 .int 5 123 [.ref (B 0), .int s] (w_M Z B X D) (fun r w2 => ∃ D2, r = (o_who X s).1 ∧ w2 = w_M Z B (o_who X s).2 D2) := by
  refine ki_of (by decide) [(0, .ref (B 0)), (1, .int s)] (Nat.le_of_ble_eq_true rfl) rfl ?_
  intro M e1 e2 K Rt
  subst e1 e2
  refine q_aload_n K 0 dX4_who_0 rfl ?_
  refine q_iload_n K 1 dX4_who_1 rfl ?_
  refine q_wI (q0 := 0) (As := [.int s]) (rest := []) K kv_X4_wants (c_X4_wants (k_l M) (k_Z M) B X D hbt s) rfl rfl ml_X4_171 rfl rfl (Nat.le_of_ble_eq_true rfl) ⟨Nat.le_of_ble_eq_true rfl, Nat.le_of_ble_eq_true rfl⟩ dX4_who_2 (fun r_2 w2 h_1 => ?_)
  obtain ⟨h_1, rfl⟩ := h_1
  rcases h_1 with ⟨i_r_2, m_r_2, e_r_2⟩ | ⟨i_r_2, m_r_2, e_r_2⟩ | ⟨i_r_2, e_r_2⟩
  · refine q_eqi 0 e_r_2 ?_
    obtain ⟨t, h_t, e_t⟩ := kn_rng (n := 3) i_r_2 rfl
    subst e_t
    obtain ⟨z, hz, hz2⟩ := hsh t (by omega)
    have hzz := a_szz hz hz2
    refine q_if_eq 18 K dX4_who_5 (by decide) (fun c_0 => ?_) (fun c_0 => absurd c_0 (by decide))
    refine q_iconst 0 K dX4_who_18 rfl ?_
    refine q_istore_n (lv' := [(2, .int 0), (0, .ref (B 0)), (1, .int (nI t))]) K dX4_who_19 (by decide) rfl ?_
    refine q_iconst 0 K dX4_who_20 rfl ?_
    refine q_istore_n (lv' := [(3, .int 0), (2, .int 0), (0, .ref (B 0)), (1, .int (nI t))]) K dX4_who_21 (by decide) rfl ?_
    refine q_loop (α := Nat × DJ) (fun n9 x9 => x9.1 + n9 = m) 22 (fun x9 => [(3, .int (nI x9.1)), (2, .int (f_who X t x9.1)), (0, .ref (B 0)), (1, .int (nI t))]) (fun x9 => w_M (k_Z M) B X x9.2) (fun n_3 x9 hI_4 ih_5 => ?_) m (0, D) (by show 0 + m = m; omega)
    obtain ⟨w, D1⟩ := x9
    dsimp only at hI_4 ih_5 ⊢
    refine q_iload_n K 0 dX4_who_22 rfl ?_
    refine q_aload_n K 2 dX4_who_23 rfl ?_
    refine q_get (.ref (B 1)) K ws_X4 0 rfl rfl 0 (by decide) fl_X4_7 rfl dX4_who_24 ?_
    refine q_iconst 0 K dX4_who_27 rfl ?_
    refine q_iald K 1 rfl (vp_in_nI (n := 0) (N := 71) (by omega) (by omega)) dX4_who_28 ?_
    refine q_eqi (f_wk (a_F X)) rfl ?_
    refine q_eqi (nI m) hm2 ?_
    refine q_icmp_ge 62 K dX4_who_29 (by decide) (fun c_6 => ?_) (fun c_6 => ?_)
    · have c_6n : m ≤ w := (nI_leI (a := m) (b := w) (by omega) (by omega)).mp c_6
      refine q_iload_n K 1 dX4_who_62 rfl ?_
      exact Rt _ _ (f_who X t w) (w_M (k_Z M) B X D1) dX4_who_63 rfl (⟨D1, by simp only [o_who, o_with, if_pos i_r_2, if_neg m_r_2, if_pos c_6, nI_clamp (n := t) (by omega), f_mm hm hm2, show w = m by omega] <;> rfl, by simp only [o_who, o_with, if_pos i_r_2, if_neg m_r_2, if_pos c_6, nI_clamp (n := t) (by omega), f_mm hm hm2, show w = m by omega] <;> rfl⟩)
    · have c_6n : ¬ (m ≤ w) := fun h9 => c_6 ((nI_leI (a := m) (b := w) (by omega) (by omega)).mpr h9)
      refine q_iload_n K 1 dX4_who_32 rfl ?_
      refine q_aload_n K 2 dX4_who_33 rfl ?_
      refine q_iload_n K 3 dX4_who_34 rfl ?_
      refine q_aload_n K 2 dX4_who_35 rfl ?_
      refine q_iload_n K 0 dX4_who_36 rfl ?_
      refine q_wI (q0 := 0) (As := [.int (nI w)]) (rest := [.int (nI t), .ref (B 0), .int (f_who X t w)]) K kv_X4_allBut (c_X4_allBut (k_l M) (k_Z M) B X D1 m hm hm2 w (by omega)) rfl rfl ml_X4_174 rfl rfl (Nat.le_of_ble_eq_true rfl) ⟨Nat.le_of_ble_eq_true rfl, Nat.le_of_ble_eq_true rfl⟩ dX4_who_37 (fun r_8 w2 h_7 => ?_)
      obtain ⟨e_r_8, rfl⟩ := h_7
      refine q_eqi (k_ab m w) e_r_8 ?_
      refine q_iconst 1 K dX4_who_40 rfl ?_
      refine q_wI (q0 := 0) (As := [.int (nI t), .int (k_ab m w), .int 1]) (rest := [.int (f_who X t w)]) K kv_X4_isTold (c_X4_isTold (k_l M) (k_Z M) B X D1 m hm hm2 hok t (by omega) z hz hz2 (k_ab m w) 1 (by omega)) rfl rfl ml_X4_177 rfl rfl (Nat.le_of_ble_eq_true rfl) ⟨Nat.le_of_ble_eq_true rfl, Nat.le_of_ble_eq_true rfl⟩ dX4_who_41 (fun r_10 w2 h_9 => ?_)
      obtain ⟨D_11, e_r_10, rfl⟩ := h_9
      have e_r_10 : r_10 = if p_told X t (f_hoursC (f_gm ((1 : Int32) <<< (nI w &&& 31))) (a_F X) 1) = true then 1 else 0 := e_r_10.trans (by rw [told_C (F := a_F X) hm hm2 _ (by omega)] <;> rfl)
      refine q_ws (ws' := w_M (k_Z M) B X D_11) rfl ?_
      refine q_if_eq 53 K dX4_who_44 (by decide) (fun c_12 => ?_) (fun c_12 => ?_)
      · have c_12 : ¬ (p_told X t (f_hoursC (f_gm ((1 : Int32) <<< (nI w &&& 31))) (a_F X) 1) = true) := (kn_eq e_r_10).mp c_12
        refine q_iconst 0 K dX4_who_53 rfl ?_
        refine q_ior K dX4_who_54 ?_
        refine q_istore_n (lv' := [(2, .int ((f_who X t w) ||| 0)), (3, .int (nI w)), (0, .ref (B 0)), (1, .int (nI t))]) K dX4_who_55 (by decide) rfl ?_
        refine q_iinc (nI (w + 1)) (lv' := [(3, .int (nI (w + 1))), (2, .int ((f_who X t w) ||| 0)), (0, .ref (B 0)), (1, .int (nI t))]) K 1 dX4_who_56 rfl (kn_inc w) (by decide) rfl ?_
        refine q_goto 22 K dX4_who_59 (by decide) ?_
        rw [show (f_who X t w) ||| 0 = f_who X t (w + 1) by simp only [f_who, if_neg c_12, Int32.or_zero]]
        exact ih_5 (n_3 - 1) (w + 1, D_11) (by omega) (by show w + 1 + (n_3 - 1) = m; omega)
      · have c_12 : p_told X t (f_hoursC (f_gm ((1 : Int32) <<< (nI w &&& 31))) (a_F X) 1) = true := (kn_ne e_r_10).mp c_12
        refine q_iconst 1 K dX4_who_47 rfl ?_
        refine q_iload_n K 0 dX4_who_48 rfl ?_
        refine q_ishl K dX4_who_49 ?_
        refine q_goto 54 K dX4_who_50 (by decide) ?_
        refine q_ior K dX4_who_54 ?_
        refine q_istore_n (lv' := [(2, .int ((f_who X t w) ||| (1 <<< ((nI w) &&& 31)))), (3, .int (nI w)), (0, .ref (B 0)), (1, .int (nI t))]) K dX4_who_55 (by decide) rfl ?_
        refine q_iinc (nI (w + 1)) (lv' := [(3, .int (nI (w + 1))), (2, .int ((f_who X t w) ||| (1 <<< ((nI w) &&& 31)))), (0, .ref (B 0)), (1, .int (nI t))]) K 1 dX4_who_56 rfl (kn_inc w) (by decide) rfl ?_
        refine q_goto 22 K dX4_who_59 (by decide) ?_
        rw [show (f_who X t w) ||| (1 <<< ((nI w) &&& 31)) = f_who X t (w + 1) by simp only [f_who, if_pos c_12, Int32.or_zero]]
        exact ih_5 (n_3 - 1) (w + 1, D_11) (by omega) (by show w + 1 + (n_3 - 1) = m; omega)
  · refine q_eqi (-1000006) e_r_2 ?_
    refine q_if_eq 18 K dX4_who_5 (by decide) (fun c_0 => absurd c_0 (by decide)) (fun c_0 => ?_)
    refine q_aload_n K 0 dX4_who_8 rfl ?_
    refine q_aload_n K 0 dX4_who_9 rfl ?_
    refine q_iload_n K 1 dX4_who_10 rfl ?_
    refine q_wI (q0 := 0) (As := [.int s]) (rest := [.ref (B 0)]) K kv_X4_wants (c_X4_wants (k_l M) (k_Z M) B X D hbt s) rfl rfl ml_X4_171 rfl rfl (Nat.le_of_ble_eq_true rfl) ⟨Nat.le_of_ble_eq_true rfl, Nat.le_of_ble_eq_true rfl⟩ dX4_who_11 (fun r_14 w2 h_13 => ?_)
    obtain ⟨h_13, rfl⟩ := h_13
    rcases h_13 with ⟨i_r_14, m_r_14, e_r_14⟩ | ⟨i_r_14, m_r_14, e_r_14⟩ | ⟨i_r_14, e_r_14⟩
    · exact absurd m_r_2 m_r_14
    · refine q_eqi (-1000006) e_r_14 ?_
      refine q_eqi (r_fin 5) (by decide) ?_
      refine q_wI (q0 := 0) (As := [.int (r_fin 5)]) (rest := []) K kv_X4_finds (c_X4_finds (k_l M) (k_Z M) B X D 5 (by omega)) rfl rfl ml_X4_48 rfl rfl (Nat.le_of_ble_eq_true rfl) ⟨Nat.le_of_ble_eq_true rfl, Nat.le_of_ble_eq_true rfl⟩ dX4_who_14 (fun r_16 w2 h_15 => ?_)
      obtain ⟨e_r_16, rfl⟩ := h_15
      refine q_eqi (r_fin 5) e_r_16 ?_
      refine q_ws (ws' := w_M (k_Z M) B (a_F X, a_K X, a_kp X, fd_up (a_fd X) 5, a_tp X, a_S X) D) rfl ?_
      exact Rt _ _ (r_fin 5) (w_M (k_Z M) B (a_F X, a_K X, a_kp X, fd_up (a_fd X) 5, a_tp X, a_S X) D) dX4_who_17 rfl (⟨D, by simp only [o_who, o_with, a_fin, if_pos i_r_2, if_pos m_r_2] <;> rfl, by simp only [o_who, o_with, a_fin, if_pos i_r_2, if_pos m_r_2] <;> rfl⟩)
    · exact absurd i_r_2 i_r_14
  · refine q_eqi (-1000001) e_r_2 ?_
    refine q_if_eq 18 K dX4_who_5 (by decide) (fun c_0 => absurd c_0 (by decide)) (fun c_0 => ?_)
    refine q_aload_n K 0 dX4_who_8 rfl ?_
    refine q_aload_n K 0 dX4_who_9 rfl ?_
    refine q_iload_n K 1 dX4_who_10 rfl ?_
    refine q_wI (q0 := 0) (As := [.int s]) (rest := [.ref (B 0)]) K kv_X4_wants (c_X4_wants (k_l M) (k_Z M) B X D hbt s) rfl rfl ml_X4_171 rfl rfl (Nat.le_of_ble_eq_true rfl) ⟨Nat.le_of_ble_eq_true rfl, Nat.le_of_ble_eq_true rfl⟩ dX4_who_11 (fun r_18 w2 h_17 => ?_)
    obtain ⟨h_17, rfl⟩ := h_17
    rcases h_17 with ⟨i_r_18, m_r_18, e_r_18⟩ | ⟨i_r_18, m_r_18, e_r_18⟩ | ⟨i_r_18, e_r_18⟩
    · exact absurd i_r_18 i_r_2
    · exact absurd i_r_18 i_r_2
    · refine q_eqi (-1000001) e_r_18 ?_
      refine q_eqi (r_fin 0) (by decide) ?_
      refine q_wI (q0 := 0) (As := [.int (r_fin 0)]) (rest := []) K kv_X4_finds (c_X4_finds (k_l M) (k_Z M) B X D 0 (by omega)) rfl rfl ml_X4_48 rfl rfl (Nat.le_of_ble_eq_true rfl) ⟨Nat.le_of_ble_eq_true rfl, Nat.le_of_ble_eq_true rfl⟩ dX4_who_14 (fun r_20 w2 h_19 => ?_)
      obtain ⟨e_r_20, rfl⟩ := h_19
      refine q_eqi (r_fin 0) e_r_20 ?_
      refine q_ws (ws' := w_M (k_Z M) B (a_F X, a_K X, a_kp X, fd_up (a_fd X) 0, a_tp X, a_S X) D) rfl ?_
      exact Rt _ _ (r_fin 0) (w_M (k_Z M) B (a_F X, a_K X, a_kp X, fd_up (a_fd X) 0, a_tp X, a_S X) D) dX4_who_17 rfl (⟨D, by simp only [o_who, o_with, a_fin, if_neg i_r_2] <;> rfl, by simp only [o_who, o_with, a_fin, if_neg i_r_2] <;> rfl⟩)
theorem kv_X4_who : k_iv yX4_who cX4_who 4 (some .int) 1 := ⟨⟨im_X4_who, se_X4_who⟩, in_X4, co_X4_who, by decide +kernel⟩
set_option maxHeartbeats 4000000 in
set_option maxRecDepth 100000 in
theorem c_X4_fits (l : Launch) (Z : kz_Z) (B : Nat → Nat) (X : AS) (D : DJ) (m : Nat) (hm : m ≤ 8) (hm2 : f_wk (a_F X) = nI m) (hok : f_ok (a_F X)) (hsh : a_shok X) (hbt : a_btok X) (s w n : Int32) : KI l Z yX4_fits cX4_fits 8 .int 5 123 [.ref (B 0), .int s, .int w, .int n] (w_M Z B X D) (fun r w2 => ∃ D2, r = (o_fits X s w n).1 ∧ w2 = w_M Z B (o_fits X s w n).2 D2) := by
  refine ki_of (by decide) [(0, .ref (B 0)), (1, .int s), (2, .int w), (3, .int n)] (Nat.le_of_ble_eq_true rfl) rfl ?_
  intro M e1 e2 K Rt
  subst e1 e2
  refine q_aload_n K 0 dX4_fits_0 rfl ?_
  refine q_iload_n K 1 dX4_fits_1 rfl ?_
  refine q_wI (q0 := 0) (As := [.int s]) (rest := []) K kv_X4_wants (c_X4_wants (k_l M) (k_Z M) B X D hbt s) rfl rfl ml_X4_171 rfl rfl (Nat.le_of_ble_eq_true rfl) ⟨Nat.le_of_ble_eq_true rfl, Nat.le_of_ble_eq_true rfl⟩ dX4_fits_2 (fun r_2 w2 h_1 => ?_)
  obtain ⟨h_1, rfl⟩ := h_1
  rcases h_1 with ⟨i_r_2, m_r_2, e_r_2⟩ | ⟨i_r_2, m_r_2, e_r_2⟩ | ⟨i_r_2, e_r_2⟩
  · refine q_eqi 0 e_r_2 ?_
    obtain ⟨t, h_t, e_t⟩ := kn_rng (n := 3) i_r_2 rfl
    subst e_t
    obtain ⟨z, hz, hz2⟩ := hsh t (by omega)
    have hzz := a_szz hz hz2
    refine q_if_eq 16 K dX4_fits_5 (by decide) (fun c_0 => ?_) (fun c_0 => absurd c_0 (by decide))
    refine q_aload_n K 0 dX4_fits_16 rfl ?_
    refine q_iload_n K 2 dX4_fits_17 rfl ?_
    refine q_wI (q0 := 0) (As := [.int w]) (rest := []) K kv_X4_isWalker (c_X4_isWalker (k_l M) (k_Z M) B X D m hm hm2 w) rfl rfl ml_X4_89 rfl rfl (Nat.le_of_ble_eq_true rfl) ⟨Nat.le_of_ble_eq_true rfl, Nat.le_of_ble_eq_true rfl⟩ dX4_fits_18 (fun r_4 w2 h_3 => ?_)
    obtain ⟨e_r_4, rfl⟩ := h_3
    refine q_if_eq 40 K dX4_fits_21 (by decide) (fun c_5 => ?_) (fun c_5 => ?_)
    · have c_5 : ¬ (isW X w) := (kn_eq e_r_4).mp c_5
      refine q_ldc K dX4_fits_40 ct_X4_40 ?_
      refine q_istore (lv' := [(4, .int (-1000001)), (0, .ref (B 0)), (1, .int (nI t)), (2, .int w), (3, .int n)]) K dX4_fits_42 (by decide) rfl ?_
      refine q_iload K 0 dX4_fits_44 rfl ?_
      refine q_if_eq 56 K dX4_fits_46 (by decide) (fun c_0 => absurd c_0 (by decide)) (fun c_0 => ?_)
      refine q_aload_n K 1 dX4_fits_49 rfl ?_
      refine q_iload K 0 dX4_fits_50 rfl ?_
      refine q_eqi (r_fin 0) (by decide) ?_
      refine q_wI (q0 := 0) (As := [.int (r_fin 0)]) (rest := []) K kv_X4_finds (c_X4_finds (k_l M) (k_Z M) B X D 0 (by omega)) rfl rfl ml_X4_48 rfl rfl (Nat.le_of_ble_eq_true rfl) ⟨Nat.le_of_ble_eq_true rfl, Nat.le_of_ble_eq_true rfl⟩ dX4_fits_52 (fun r_7 w2 h_6 => ?_)
      obtain ⟨e_r_7, rfl⟩ := h_6
      refine q_eqi (r_fin 0) e_r_7 ?_
      refine q_ws (ws' := w_M (k_Z M) B (a_F X, a_K X, a_kp X, fd_up (a_fd X) 0, a_tp X, a_S X) D) rfl ?_
      exact Rt _ _ (r_fin 0) (w_M (k_Z M) B (a_F X, a_K X, a_kp X, fd_up (a_fd X) 0, a_tp X, a_S X) D) dX4_fits_55 rfl (⟨D, by simp only [o_fits, o_with, a_fin, if_pos i_r_2, if_neg m_r_2, if_neg c_5, e_r_4, nI_clamp (n := t) (by omega)] <;> rfl, by simp only [o_fits, o_with, a_fin, if_pos i_r_2, if_neg m_r_2, if_neg c_5, nI_clamp (n := t) (by omega)] <;> rfl⟩)
    · have c_5 : isW X w := (kn_ne e_r_4).mp c_5
      obtain ⟨u, h_u, e_u⟩ := isW_nat hm hm2 c_5
      subst e_u
      refine q_iload_n K 3 dX4_fits_24 rfl ?_
      refine q_i2l K dX4_fits_25 ?_
      refine q_lconst 0 K dX4_fits_26 rfl ?_
      refine q_ldc2 K dX4_fits_27 ct_X4_166 ?_
      refine q_cp (rest := []) K ks_X4_isIn (c_X4_isIn (k_l M) (k_Z M) n.toInt64 0 20) ml_X4_43 rfl rfl (Nat.le_of_ble_eq_true rfl) ⟨Nat.le_of_ble_eq_true rfl, Nat.le_of_ble_eq_true rfl⟩ dX4_fits_30 (fun r_8 e_r_8 => ?_)
      have e_r_8 : r_8 = if inR n 0 20 then 1 else 0 := kn_if e_r_8 (kn_i64 (v := n) (lo := 0) (hi := 20))
      refine q_if_eq 40 K dX4_fits_33 (by decide) (fun c_9 => ?_) (fun c_9 => ?_)
      · have c_9 : ¬ (inR n 0 20) := (kn_eq e_r_8).mp c_9
        refine q_ldc K dX4_fits_40 ct_X4_40 ?_
        refine q_istore (lv' := [(4, .int (-1000001)), (0, .ref (B 0)), (1, .int (nI t)), (2, .int (nI u)), (3, .int n)]) K dX4_fits_42 (by decide) rfl ?_
        refine q_iload K 0 dX4_fits_44 rfl ?_
        refine q_if_eq 56 K dX4_fits_46 (by decide) (fun c_0 => absurd c_0 (by decide)) (fun c_0 => ?_)
        refine q_aload_n K 1 dX4_fits_49 rfl ?_
        refine q_iload K 0 dX4_fits_50 rfl ?_
        refine q_eqi (r_fin 0) (by decide) ?_
        refine q_wI (q0 := 0) (As := [.int (r_fin 0)]) (rest := []) K kv_X4_finds (c_X4_finds (k_l M) (k_Z M) B X D 0 (by omega)) rfl rfl ml_X4_48 rfl rfl (Nat.le_of_ble_eq_true rfl) ⟨Nat.le_of_ble_eq_true rfl, Nat.le_of_ble_eq_true rfl⟩ dX4_fits_52 (fun r_11 w2 h_10 => ?_)
        obtain ⟨e_r_11, rfl⟩ := h_10
        refine q_eqi (r_fin 0) e_r_11 ?_
        refine q_ws (ws' := w_M (k_Z M) B (a_F X, a_K X, a_kp X, fd_up (a_fd X) 0, a_tp X, a_S X) D) rfl ?_
        exact Rt _ _ (r_fin 0) (w_M (k_Z M) B (a_F X, a_K X, a_kp X, fd_up (a_fd X) 0, a_tp X, a_S X) D) dX4_fits_55 rfl (⟨D, by simp only [o_fits, o_with, a_fin, if_pos i_r_2, if_neg m_r_2, if_pos c_5, if_neg c_9, e_r_4, e_r_8, nI_clamp (n := t) (by omega), nI_clamp (n := u) (by omega)] <;> rfl, by simp only [o_fits, o_with, a_fin, if_pos i_r_2, if_neg m_r_2, if_pos c_5, if_neg c_9, nI_clamp (n := t) (by omega), nI_clamp (n := u) (by omega)] <;> rfl⟩)
      · have c_9 : inR n 0 20 := (kn_ne e_r_8).mp c_9
        obtain ⟨k, h_k, e_k⟩ := kn_rng (n := 20) c_9 rfl
        subst e_k
        refine q_iconst 0 K dX4_fits_36 rfl ?_
        refine q_goto 42 K dX4_fits_37 (by decide) ?_
        refine q_istore (lv' := [(4, .int 0), (0, .ref (B 0)), (1, .int (nI t)), (2, .int (nI u)), (3, .int (nI k))]) K dX4_fits_42 (by decide) rfl ?_
        refine q_iload K 0 dX4_fits_44 rfl ?_
        refine q_if_eq 56 K dX4_fits_46 (by decide) (fun c_0 => ?_) (fun c_0 => absurd c_0 (by decide))
        refine q_aload_n K 1 dX4_fits_56 rfl ?_
        refine q_iload_n K 3 dX4_fits_57 rfl ?_
        refine q_iconst 1 K dX4_fits_58 rfl ?_
        refine q_wI (q0 := 0) (As := [.int (nI u), .int 1]) (rest := []) K kv_X4_its (c_X4_its (k_l M) (k_Z M) B X D u 1 (by omega) (by omega)) rfl rfl ml_X4_62 rfl rfl (Nat.le_of_ble_eq_true rfl) ⟨Nat.le_of_ble_eq_true rfl, Nat.le_of_ble_eq_true rfl⟩ dX4_fits_59 (fun r_13 w2 h_12 => ?_)
        obtain ⟨e_r_13, rfl⟩ := h_12
        refine q_eqi (f_fd (a_F X) u) e_r_13 ?_
        refine q_istore (lv' := [(5, .int (f_fd (a_F X) u)), (4, .int 0), (0, .ref (B 0)), (1, .int (nI t)), (2, .int (nI u)), (3, .int (nI k))]) K dX4_fits_62 (by decide) rfl ?_
        refine q_iconst 0 K dX4_fits_64 rfl ?_
        refine q_istore (lv' := [(6, .int 0), (5, .int (f_fd (a_F X) u)), (4, .int 0), (0, .ref (B 0)), (1, .int (nI t)), (2, .int (nI u)), (3, .int (nI k))]) K dX4_fits_65 (by decide) rfl ?_
        refine q_iconst 0 K dX4_fits_67 rfl ?_
        refine q_ws (ws' := w_M (k_Z M) B (f_setrow (a_F X) 1 (upd (f_row (a_F X) 1) u (f_row (a_F X) 1 u)), a_K X, a_kp X, a_fd X, a_tp X, a_S X) D) (congrArg (fun F9 => w_M (k_Z M) B (a_setF X F9) D) (f_rself (a_F X) (k := 1) (by omega) u).symm) ?_
        refine q_istore (lv' := [(7, .int 0), (6, .int 0), (5, .int (f_fd (a_F X) u)), (4, .int 0), (0, .ref (B 0)), (1, .int (nI t)), (2, .int (nI u)), (3, .int (nI k))]) K dX4_fits_68 (by decide) rfl ?_
        refine q_loop (α := Nat × (Int32 × DJ)) (fun n9 x9 => x9.1 + n9 = 9) 70 (fun x9 => [(7, .int (nI x9.1)), (6, .int (f_fits X t u k x9.1)), (5, .int (f_fd (a_F X) u)), (4, .int 0), (0, .ref (B 0)), (1, .int (nI t)), (2, .int (nI u)), (3, .int (nI k))]) (fun x9 => w_M (k_Z M) B (f_setrow (a_F X) 1 (upd (f_row (a_F X) 1) u x9.2.1), a_K X, a_kp X, a_fd X, a_tp X, a_S X) x9.2.2) (fun n_14 x9 hI_15 ih_16 => ?_) 9 (0, (f_row (a_F X) 1 u, D)) rfl
        obtain ⟨v, ⟨x1, D1⟩⟩ := x9
        dsimp only at hI_15 ih_16 ⊢
        refine q_iload K 0 dX4_fits_70 rfl ?_
        refine q_bipush 9 K dX4_fits_72 rfl ?_
        refine q_icmp_ge 122 K dX4_fits_74 (by decide) (fun c_17 => ?_) (fun c_17 => ?_)
        · have c_17n : 9 ≤ v := (nI_leI (a := 9) (b := v) (by omega) (by omega)).mp c_17
          refine q_aload_n K 4 dX4_fits_122 rfl ?_
          refine q_get (.ref (B 1)) K ws_X4 0 rfl rfl 0 (by decide) fl_X4_7 rfl dX4_fits_123 ?_
          refine q_iload_n K 6 dX4_fits_126 rfl ?_
          refine q_iconst 1 K dX4_fits_127 rfl ?_
          refine q_cp (rest := [.ref (B 1)]) K ks_X4_at (c_X4_at (k_l M) (k_Z M) u 1) ml_X4_76 rfl rfl (Nat.le_of_ble_eq_true rfl) ⟨Nat.le_of_ble_eq_true rfl, Nat.le_of_ble_eq_true rfl⟩ dX4_fits_128 (fun r_18 e_r_18 => ?_)
          refine q_eqi (nI ((21 + (5 * u)) + 1)) e_r_18 ?_
          refine q_iload K 2 dX4_fits_131 rfl ?_
          refine q_iast (ws' := w_M (k_Z M) B (f_setrow (f_setrow (a_F X) 1 (upd (f_row (a_F X) 1) u x1)) 1 (upd (f_row (f_setrow (a_F X) 1 (upd (f_row (a_F X) 1) u x1)) 1) u (f_fd (a_F X) u)), a_K X, a_kp X, a_fd X, a_tp X, a_S X) D1) K 1 rfl (vp_in_nI (n := (21 + (5 * u)) + 1) (N := 71) (by omega) (by omega)) (by rw [nI_clamp (n := (21 + (5 * u)) + 1) (by omega), up_at _ (by omega) (by omega) _]; rfl) dX4_fits_133 ?_
          refine q_ws (ws' := w_M (k_Z M) B X D1) (congrArg (fun F9 => w_M (k_Z M) B (a_setF X F9) D1) (f_rback (a_F X) (k := 1) (by omega) u _)) ?_
          refine q_iload K 1 dX4_fits_134 rfl ?_
          exact Rt _ _ (f_fits X t u k v) (w_M (k_Z M) B X D1) dX4_fits_136 rfl (⟨D1, by simp only [o_fits, o_with, if_pos i_r_2, if_neg m_r_2, if_pos c_5, if_pos c_9, if_pos c_17, nI_clamp (n := t) (by omega), nI_clamp (n := u) (by omega), nI_clamp (n := k) (by omega), f_mm hm hm2, show v = 9 by omega] <;> rfl, by simp only [o_fits, o_with, if_pos i_r_2, if_neg m_r_2, if_pos c_5, if_pos c_9, if_pos c_17, nI_clamp (n := t) (by omega), nI_clamp (n := u) (by omega), nI_clamp (n := k) (by omega), f_mm hm hm2, show v = 9 by omega] <;> rfl⟩)
        · have c_17n : ¬ (9 ≤ v) := fun h9 => c_17 ((nI_leI (a := 9) (b := v) (by omega) (by omega)).mpr h9)
          refine q_aload_n K 4 dX4_fits_77 rfl ?_
          refine q_get (.ref (B 1)) K ws_X4 0 rfl rfl 0 (by decide) fl_X4_7 rfl dX4_fits_78 ?_
          refine q_iload_n K 6 dX4_fits_81 rfl ?_
          refine q_iconst 1 K dX4_fits_82 rfl ?_
          refine q_cp (rest := [.ref (B 1)]) K ks_X4_at (c_X4_at (k_l M) (k_Z M) u 1) ml_X4_76 rfl rfl (Nat.le_of_ble_eq_true rfl) ⟨Nat.le_of_ble_eq_true rfl, Nat.le_of_ble_eq_true rfl⟩ dX4_fits_83 (fun r_19 e_r_19 => ?_)
          refine q_eqi (nI ((21 + (5 * u)) + 1)) e_r_19 ?_
          refine q_iload K 0 dX4_fits_86 rfl ?_
          refine q_iast (ws' := w_M (k_Z M) B (f_setrow (f_setrow (a_F X) 1 (upd (f_row (a_F X) 1) u x1)) 1 (upd (f_row (f_setrow (a_F X) 1 (upd (f_row (a_F X) 1) u x1)) 1) u (nI v)), a_K X, a_kp X, a_fd X, a_tp X, a_S X) D1) K 1 rfl (vp_in_nI (n := (21 + (5 * u)) + 1) (N := 71) (by omega) (by omega)) (by rw [nI_clamp (n := (21 + (5 * u)) + 1) (by omega), up_at _ (by omega) (by omega) _]; rfl) dX4_fits_88 ?_
          refine q_ws (ws' := w_M (k_Z M) B (f_setrow (a_F X) 1 (upd (f_row (a_F X) 1) u (nI v)), a_K X, a_kp X, a_fd X, a_tp X, a_S X) D1) (congrArg (fun F9 => w_M (k_Z M) B (a_setF X F9) D1) (f_rr (a_F X) (k := 1) (by omega) u _ _)) ?_
          refine q_iload K 1 dX4_fits_89 rfl ?_
          refine q_aload_n K 4 dX4_fits_91 rfl ?_
          refine q_iload_n K 5 dX4_fits_92 rfl ?_
          refine q_aload_n K 4 dX4_fits_93 rfl ?_
          refine q_iload_n K 6 dX4_fits_94 rfl ?_
          refine q_wI (q0 := 0) (As := [.int (nI u)]) (rest := [.int (nI t), .ref (B 0), .int (f_fits X t u k v)]) K kv_X4_allBut (c_X4_allBut (k_l M) (k_Z M) B (f_setrow (a_F X) 1 (upd (f_row (a_F X) 1) u (nI v)), a_K X, a_kp X, a_fd X, a_tp X, a_S X) D1 m hm hm2 u (by omega)) rfl rfl ml_X4_174 rfl rfl (Nat.le_of_ble_eq_true rfl) ⟨Nat.le_of_ble_eq_true rfl, Nat.le_of_ble_eq_true rfl⟩ dX4_fits_95 (fun r_21 w2 h_20 => ?_)
          obtain ⟨e_r_21, rfl⟩ := h_20
          refine q_eqi (k_ab m u) e_r_21 ?_
          refine q_iload_n K 7 dX4_fits_98 rfl ?_
          refine q_wI (q0 := 0) (As := [.int (nI t), .int (k_ab m u), .int (nI k)]) (rest := [.int (f_fits X t u k v)]) K kv_X4_isTold (c_X4_isTold (k_l M) (k_Z M) B (f_setrow (a_F X) 1 (upd (f_row (a_F X) 1) u (nI v)), a_K X, a_kp X, a_fd X, a_tp X, a_S X) D1 m hm hm2 hok t (by omega) z hz hz2 (k_ab m u) k (by omega)) rfl rfl ml_X4_177 rfl rfl (Nat.le_of_ble_eq_true rfl) ⟨Nat.le_of_ble_eq_true rfl, Nat.le_of_ble_eq_true rfl⟩ dX4_fits_99 (fun r_23 w2 h_22 => ?_)
          obtain ⟨D_24, e_r_23, rfl⟩ := h_22
          have e_r_23 : r_23 = if p_told X t (f_hoursC (f_gm ((1 : Int32) <<< (nI u &&& 31))) (f_setrow (a_F X) 1 (upd (f_row (a_F X) 1) u (nI v))) k) = true then 1 else 0 := e_r_23.trans (by rw [told_C (F := f_setrow (a_F X) 1 (upd (f_row (a_F X) 1) u (nI v))) hm hm2 _ (by omega)] <;> rfl)
          refine q_ws (ws' := w_M (k_Z M) B (f_setrow (a_F X) 1 (upd (f_row (a_F X) 1) u (nI v)), a_K X, a_kp X, a_fd X, a_tp X, a_S X) D_24) rfl ?_
          refine q_if_eq 112 K dX4_fits_102 (by decide) (fun c_25 => ?_) (fun c_25 => ?_)
          · have c_25 : ¬ (p_told X t (f_hoursC (f_gm ((1 : Int32) <<< (nI u &&& 31))) (f_setrow (a_F X) 1 (upd (f_row (a_F X) 1) u (nI v))) k) = true) := (kn_eq e_r_23).mp c_25
            refine q_iconst 0 K dX4_fits_112 rfl ?_
            refine q_ior K dX4_fits_113 ?_
            refine q_istore (lv' := [(6, .int ((f_fits X t u k v) ||| 0)), (7, .int (nI v)), (5, .int (f_fd (a_F X) u)), (4, .int 0), (0, .ref (B 0)), (1, .int (nI t)), (2, .int (nI u)), (3, .int (nI k))]) K dX4_fits_114 (by decide) rfl ?_
            refine q_iinc (nI (v + 1)) (lv' := [(7, .int (nI (v + 1))), (6, .int ((f_fits X t u k v) ||| 0)), (5, .int (f_fd (a_F X) u)), (4, .int 0), (0, .ref (B 0)), (1, .int (nI t)), (2, .int (nI u)), (3, .int (nI k))]) K 1 dX4_fits_116 rfl (kn_inc v) (by decide) rfl ?_
            refine q_goto 70 K dX4_fits_119 (by decide) ?_
            rw [show (f_fits X t u k v) ||| 0 = f_fits X t u k (v + 1) by simp only [f_fits, if_neg c_25, Int32.or_zero]]
            exact ih_16 (n_14 - 1) (v + 1, nI v, D_24) (by omega) (by show v + 1 + (n_14 - 1) = 9; omega)
          · have c_25 : p_told X t (f_hoursC (f_gm ((1 : Int32) <<< (nI u &&& 31))) (f_setrow (a_F X) 1 (upd (f_row (a_F X) 1) u (nI v))) k) = true := (kn_ne e_r_23).mp c_25
            refine q_iconst 1 K dX4_fits_105 rfl ?_
            refine q_iload K 0 dX4_fits_106 rfl ?_
            refine q_ishl K dX4_fits_108 ?_
            refine q_goto 113 K dX4_fits_109 (by decide) ?_
            refine q_ior K dX4_fits_113 ?_
            refine q_istore (lv' := [(6, .int ((f_fits X t u k v) ||| (1 <<< ((nI v) &&& 31)))), (7, .int (nI v)), (5, .int (f_fd (a_F X) u)), (4, .int 0), (0, .ref (B 0)), (1, .int (nI t)), (2, .int (nI u)), (3, .int (nI k))]) K dX4_fits_114 (by decide) rfl ?_
            refine q_iinc (nI (v + 1)) (lv' := [(7, .int (nI (v + 1))), (6, .int ((f_fits X t u k v) ||| (1 <<< ((nI v) &&& 31)))), (5, .int (f_fd (a_F X) u)), (4, .int 0), (0, .ref (B 0)), (1, .int (nI t)), (2, .int (nI u)), (3, .int (nI k))]) K 1 dX4_fits_116 rfl (kn_inc v) (by decide) rfl ?_
            refine q_goto 70 K dX4_fits_119 (by decide) ?_
            rw [show (f_fits X t u k v) ||| (1 <<< ((nI v) &&& 31)) = f_fits X t u k (v + 1) by simp only [f_fits, if_pos c_25, Int32.or_zero]]
            exact ih_16 (n_14 - 1) (v + 1, nI v, D_24) (by omega) (by show v + 1 + (n_14 - 1) = 9; omega)
  · refine q_eqi (-1000006) e_r_2 ?_
    refine q_if_eq 16 K dX4_fits_5 (by decide) (fun c_0 => absurd c_0 (by decide)) (fun c_0 => ?_)
    refine q_aload_n K 0 dX4_fits_8 rfl ?_
    refine q_iload_n K 1 dX4_fits_9 rfl ?_
    refine q_wI (q0 := 0) (As := [.int s]) (rest := []) K kv_X4_wants (c_X4_wants (k_l M) (k_Z M) B X D hbt s) rfl rfl ml_X4_171 rfl rfl (Nat.le_of_ble_eq_true rfl) ⟨Nat.le_of_ble_eq_true rfl, Nat.le_of_ble_eq_true rfl⟩ dX4_fits_10 (fun r_27 w2 h_26 => ?_)
    obtain ⟨h_26, rfl⟩ := h_26
    rcases h_26 with ⟨i_r_27, m_r_27, e_r_27⟩ | ⟨i_r_27, m_r_27, e_r_27⟩ | ⟨i_r_27, e_r_27⟩
    · exact absurd m_r_2 m_r_27
    · refine q_eqi (-1000006) e_r_27 ?_
      refine q_goto 42 K dX4_fits_13 (by decide) ?_
      refine q_istore (lv' := [(4, .int (-1000006)), (0, .ref (B 0)), (1, .int s), (2, .int w), (3, .int n)]) K dX4_fits_42 (by decide) rfl ?_
      refine q_iload K 0 dX4_fits_44 rfl ?_
      refine q_if_eq 56 K dX4_fits_46 (by decide) (fun c_0 => absurd c_0 (by decide)) (fun c_0 => ?_)
      refine q_aload_n K 1 dX4_fits_49 rfl ?_
      refine q_iload K 0 dX4_fits_50 rfl ?_
      refine q_eqi (r_fin 5) (by decide) ?_
      refine q_wI (q0 := 0) (As := [.int (r_fin 5)]) (rest := []) K kv_X4_finds (c_X4_finds (k_l M) (k_Z M) B X D 5 (by omega)) rfl rfl ml_X4_48 rfl rfl (Nat.le_of_ble_eq_true rfl) ⟨Nat.le_of_ble_eq_true rfl, Nat.le_of_ble_eq_true rfl⟩ dX4_fits_52 (fun r_29 w2 h_28 => ?_)
      obtain ⟨e_r_29, rfl⟩ := h_28
      refine q_eqi (r_fin 5) e_r_29 ?_
      refine q_ws (ws' := w_M (k_Z M) B (a_F X, a_K X, a_kp X, fd_up (a_fd X) 5, a_tp X, a_S X) D) rfl ?_
      exact Rt _ _ (r_fin 5) (w_M (k_Z M) B (a_F X, a_K X, a_kp X, fd_up (a_fd X) 5, a_tp X, a_S X) D) dX4_fits_55 rfl (⟨D, by simp only [o_fits, o_with, a_fin, if_pos i_r_2, if_pos m_r_2] <;> rfl, by simp only [o_fits, o_with, a_fin, if_pos i_r_2, if_pos m_r_2] <;> rfl⟩)
    · exact absurd i_r_2 i_r_27
  · refine q_eqi (-1000001) e_r_2 ?_
    refine q_if_eq 16 K dX4_fits_5 (by decide) (fun c_0 => absurd c_0 (by decide)) (fun c_0 => ?_)
    refine q_aload_n K 0 dX4_fits_8 rfl ?_
    refine q_iload_n K 1 dX4_fits_9 rfl ?_
    refine q_wI (q0 := 0) (As := [.int s]) (rest := []) K kv_X4_wants (c_X4_wants (k_l M) (k_Z M) B X D hbt s) rfl rfl ml_X4_171 rfl rfl (Nat.le_of_ble_eq_true rfl) ⟨Nat.le_of_ble_eq_true rfl, Nat.le_of_ble_eq_true rfl⟩ dX4_fits_10 (fun r_31 w2 h_30 => ?_)
    obtain ⟨h_30, rfl⟩ := h_30
    rcases h_30 with ⟨i_r_31, m_r_31, e_r_31⟩ | ⟨i_r_31, m_r_31, e_r_31⟩ | ⟨i_r_31, e_r_31⟩
    · exact absurd i_r_31 i_r_2
    · exact absurd i_r_31 i_r_2
    · refine q_eqi (-1000001) e_r_31 ?_
      refine q_goto 42 K dX4_fits_13 (by decide) ?_
      refine q_istore (lv' := [(4, .int (-1000001)), (0, .ref (B 0)), (1, .int s), (2, .int w), (3, .int n)]) K dX4_fits_42 (by decide) rfl ?_
      refine q_iload K 0 dX4_fits_44 rfl ?_
      refine q_if_eq 56 K dX4_fits_46 (by decide) (fun c_0 => absurd c_0 (by decide)) (fun c_0 => ?_)
      refine q_aload_n K 1 dX4_fits_49 rfl ?_
      refine q_iload K 0 dX4_fits_50 rfl ?_
      refine q_eqi (r_fin 0) (by decide) ?_
      refine q_wI (q0 := 0) (As := [.int (r_fin 0)]) (rest := []) K kv_X4_finds (c_X4_finds (k_l M) (k_Z M) B X D 0 (by omega)) rfl rfl ml_X4_48 rfl rfl (Nat.le_of_ble_eq_true rfl) ⟨Nat.le_of_ble_eq_true rfl, Nat.le_of_ble_eq_true rfl⟩ dX4_fits_52 (fun r_33 w2 h_32 => ?_)
      obtain ⟨e_r_33, rfl⟩ := h_32
      refine q_eqi (r_fin 0) e_r_33 ?_
      refine q_ws (ws' := w_M (k_Z M) B (a_F X, a_K X, a_kp X, fd_up (a_fd X) 0, a_tp X, a_S X) D) rfl ?_
      exact Rt _ _ (r_fin 0) (w_M (k_Z M) B (a_F X, a_K X, a_kp X, fd_up (a_fd X) 0, a_tp X, a_S X) D) dX4_fits_55 rfl (⟨D, by simp only [o_fits, o_with, a_fin, if_neg i_r_2] <;> rfl, by simp only [o_fits, o_with, a_fin, if_neg i_r_2] <;> rfl⟩)
theorem kv_X4_fits : k_iv yX4_fits cX4_fits 8 (some .int) 3 := ⟨⟨im_X4_fits, se_X4_fits⟩, in_X4, co_X4_fits, by decide +kernel⟩
set_option maxHeartbeats 4000000 in
set_option maxRecDepth 100000 in
theorem c_X4_isInMood (l : Launch) (Z : kz_Z) (B : Nat → Nat) (X : AS) (D : DJ) (m : Nat) (hm : m ≤ 8) (hm2 : f_wk (a_F X) = nI m) (hok : f_ok (a_F X)) (t : Nat) (ht : t < 4) (z : Nat) (hz : z ≤ 40) (hz2 : s_sz (a_S X t) = nI z) (w : Nat) (hw : w < 8) : KI l Z yX4_isInMood cX4_isInMood 6 .boolean 4 97 [.ref (B 0), .int (nI t), .int (nI w)] (w_M Z B X D) (fun r w2 => ∃ D2, (r = if o_find (p_mood (s_nm (a_S X t)) (a_F X) w) z 0 = z then 1 else 0) ∧ w2 = w_M Z B X D2) := by
  refine ki_of (by decide) [(0, .ref (B 0)), (1, .int (nI t)), (2, .int (nI w))] (Nat.le_of_ble_eq_true rfl) rfl ?_
  intro M e1 e2 K Rt
  subst e1 e2
  refine q_aload_n K 0 dX4_isInMood_0 rfl ?_
  refine q_get (.ref (B 1)) K ws_X4 0 rfl rfl 0 (by decide) fl_X4_7 rfl dX4_isInMood_1 ?_
  refine q_aload_n K 0 dX4_isInMood_4 rfl ?_
  refine q_get (.ref (B 4)) K ws_X4 0 rfl rfl 3 (by decide) fl_X4_19 rfl dX4_isInMood_5 ?_
  refine q_perm (ws' := ([1, 4, 0, 2, 3, 5, 6, 7, 8, 9, 10] : List Nat).map (fun i9 => (w_M (k_Z M) B X D).getD i9 (0, .inr (0, [])))) (k_pick _ (show (List.range 11).Perm _ by decide) rfl) ?_
  refine q_csV (rest := []) K ks_X4_copyRow (c_X4_copyRow (k_l M) (k_Z M) (B 1) (B 4) (f_rw (a_F X)) (d_as D)) [] (([0, 2, 3, 5, 6, 7, 8, 9, 10] : List Nat).map (fun i9 => (w_M (k_Z M) B X D).getD i9 (0, .inr (0, [])))) rfl ml_X4_141 rfl rfl (Nat.le_of_ble_eq_true rfl) ⟨Nat.le_of_ble_eq_true rfl, Nat.le_of_ble_eq_true rfl⟩ dX4_isInMood_8 (fun w2 h_1 => ?_)
  obtain rfl := h_1
  refine q_perm (ws' := w_M (k_Z M) B X (d_bf D, f_rw (a_F X), d_gn D, d_tk D, d_fr D, d_to D, d_vl D, d_fa D)) (k_pick [2, 0, 3, 4, 1, 5, 6, 7, 8, 9, 10] (show (List.range 11).Perm _ by decide) rfl) ?_
  refine q_iconst 1 K dX4_isInMood_11 rfl ?_
  refine q_istore_n (lv' := [(3, .int 1), (0, .ref (B 0)), (1, .int (nI t)), (2, .int (nI w))]) K dX4_isInMood_12 (by decide) rfl ?_
  refine q_iconst 0 K dX4_isInMood_13 rfl ?_
  refine q_istore (lv' := [(4, .int 0), (3, .int 1), (0, .ref (B 0)), (1, .int (nI t)), (2, .int (nI w))]) K dX4_isInMood_14 (by decide) rfl ?_
  refine q_loop (α := Nat × (Int32 × (Nat → Int32))) (fun n9 x9 => (x9.1 + n9 = z) ∧ ((x9.2.1 = 1 ∧ o_find (p_mood (s_nm (a_S X t)) (a_F X) w) z 0 = o_find (p_mood (s_nm (a_S X t)) (a_F X) w) n9 x9.1) ∨ (x9.2.1 = 0 ∧ o_find (p_mood (s_nm (a_S X t)) (a_F X) w) z 0 < z))) 16 (fun x9 => [(4, .int (nI x9.1)), (3, .int x9.2.1), (0, .ref (B 0)), (1, .int (nI t)), (2, .int (nI w))]) (fun x9 => w_M (k_Z M) B (f_hoursR (f_gn 0) (a_F X) x9.1, a_K X, a_kp X, a_fd X, a_tp X, a_S X) (d_bf D, f_rw (a_F X), x9.2.2, d_tk D, d_fr D, d_to D, d_vl D, d_fa D)) (fun n_2 x9 hI_3 ih_4 => ?_) z (0, (1, d_gn D)) ⟨by show 0 + z = z; omega, Or.inl ⟨rfl, rfl⟩⟩
  obtain ⟨i, ⟨b1, g1⟩⟩ := x9
  dsimp only at hI_3 ih_4 ⊢
  obtain ⟨hI, hB⟩ := hI_3
  refine q_iload K 0 dX4_isInMood_16 rfl ?_
  refine q_aload_n K 2 dX4_isInMood_18 rfl ?_
  refine q_get (.ref (B 8)) K ws_X4 0 rfl rfl 9 (by decide) fl_X4_31 rfl dX4_isInMood_19 ?_
  refine q_iload_n K 3 dX4_isInMood_22 rfl ?_
  refine q_iald K 8 rfl (vp_in_nI (n := t) (N := 4) (by omega) (by omega)) dX4_isInMood_23 ?_
  refine q_eqi ((m_sz (a_S X)) t) (by rw [nI_clamp (n := t) (by omega)]) ?_
  refine q_eqi (nI z) hz2 ?_
  refine q_icmp_ge 79 K dX4_isInMood_24 (by decide) (fun c_5 => ?_) (fun c_5 => ?_)
  · have c_5n : z ≤ i := (nI_leI (a := z) (b := i) (by omega) (by omega)).mp c_5
    rcases hB with ⟨rfl, hF⟩ | ⟨rfl, hF⟩
    · rw [show n_2 = 0 by omega] at hF
      have hF : o_find (p_mood (s_nm (a_S X t)) (a_F X) w) z 0 = z := hF.trans (show i = z by omega)
      refine q_aload_n K 2 dX4_isInMood_79 rfl ?_
      refine q_get (.ref (B 4)) K ws_X4 0 rfl rfl 3 (by decide) fl_X4_19 rfl dX4_isInMood_80 ?_
      refine q_aload_n K 2 dX4_isInMood_83 rfl ?_
      refine q_get (.ref (B 1)) K ws_X4 0 rfl rfl 0 (by decide) fl_X4_7 rfl dX4_isInMood_84 ?_
      refine q_perm (ws' := ([4, 1, 0, 2, 3, 5, 6, 7, 8, 9, 10] : List Nat).map (fun i9 => (w_M (k_Z M) B (f_hoursR (f_gn 0) (a_F X) i, a_K X, a_kp X, a_fd X, a_tp X, a_S X) (d_bf D, f_rw (a_F X), g1, d_tk D, d_fr D, d_to D, d_vl D, d_fa D)).getD i9 (0, .inr (0, [])))) (k_pick _ (show (List.range 11).Perm _ by decide) rfl) ?_
      refine q_csV (rest := []) K ks_X4_copyRow (c_X4_copyRow (k_l M) (k_Z M) (B 4) (B 1) (f_rw (a_F X)) (f_rw (f_hoursR (f_gn 0) (a_F X) i))) [] (([0, 2, 3, 5, 6, 7, 8, 9, 10] : List Nat).map (fun i9 => (w_M (k_Z M) B (f_hoursR (f_gn 0) (a_F X) i, a_K X, a_kp X, a_fd X, a_tp X, a_S X) (d_bf D, f_rw (a_F X), g1, d_tk D, d_fr D, d_to D, d_vl D, d_fa D)).getD i9 (0, .inr (0, [])))) rfl ml_X4_141 rfl rfl (Nat.le_of_ble_eq_true rfl) ⟨Nat.le_of_ble_eq_true rfl, Nat.le_of_ble_eq_true rfl⟩ dX4_isInMood_87 (fun w2 h_6 => ?_)
      obtain rfl := h_6
      refine q_perm (ws' := w_M (k_Z M) B X (d_bf D, f_rw (a_F X), g1, d_tk D, d_fr D, d_to D, d_vl D, d_fa D)) (k_pick [2, 1, 3, 4, 0, 5, 6, 7, 8, 9, 10] (show (List.range 11).Perm _ by decide) rfl) ?_
      refine q_iload_n K 1 dX4_isInMood_90 rfl ?_
      exact Rt _ _ 1 (w_M (k_Z M) B X (d_bf D, f_rw (a_F X), g1, d_tk D, d_fr D, d_to D, d_vl D, d_fa D)) dX4_isInMood_91 rfl (⟨(d_bf D, f_rw (a_F X), g1, d_tk D, d_fr D, d_to D, d_vl D, d_fa D), (if_pos hF).symm, rfl⟩)
    · refine q_aload_n K 2 dX4_isInMood_79 rfl ?_
      refine q_get (.ref (B 4)) K ws_X4 0 rfl rfl 3 (by decide) fl_X4_19 rfl dX4_isInMood_80 ?_
      refine q_aload_n K 2 dX4_isInMood_83 rfl ?_
      refine q_get (.ref (B 1)) K ws_X4 0 rfl rfl 0 (by decide) fl_X4_7 rfl dX4_isInMood_84 ?_
      refine q_perm (ws' := ([4, 1, 0, 2, 3, 5, 6, 7, 8, 9, 10] : List Nat).map (fun i9 => (w_M (k_Z M) B (f_hoursR (f_gn 0) (a_F X) i, a_K X, a_kp X, a_fd X, a_tp X, a_S X) (d_bf D, f_rw (a_F X), g1, d_tk D, d_fr D, d_to D, d_vl D, d_fa D)).getD i9 (0, .inr (0, [])))) (k_pick _ (show (List.range 11).Perm _ by decide) rfl) ?_
      refine q_csV (rest := []) K ks_X4_copyRow (c_X4_copyRow (k_l M) (k_Z M) (B 4) (B 1) (f_rw (a_F X)) (f_rw (f_hoursR (f_gn 0) (a_F X) i))) [] (([0, 2, 3, 5, 6, 7, 8, 9, 10] : List Nat).map (fun i9 => (w_M (k_Z M) B (f_hoursR (f_gn 0) (a_F X) i, a_K X, a_kp X, a_fd X, a_tp X, a_S X) (d_bf D, f_rw (a_F X), g1, d_tk D, d_fr D, d_to D, d_vl D, d_fa D)).getD i9 (0, .inr (0, [])))) rfl ml_X4_141 rfl rfl (Nat.le_of_ble_eq_true rfl) ⟨Nat.le_of_ble_eq_true rfl, Nat.le_of_ble_eq_true rfl⟩ dX4_isInMood_87 (fun w2 h_7 => ?_)
      obtain rfl := h_7
      refine q_perm (ws' := w_M (k_Z M) B X (d_bf D, f_rw (a_F X), g1, d_tk D, d_fr D, d_to D, d_vl D, d_fa D)) (k_pick [2, 1, 3, 4, 0, 5, 6, 7, 8, 9, 10] (show (List.range 11).Perm _ by decide) rfl) ?_
      refine q_iload_n K 1 dX4_isInMood_90 rfl ?_
      exact Rt _ _ 0 (w_M (k_Z M) B X (d_bf D, f_rw (a_F X), g1, d_tk D, d_fr D, d_to D, d_vl D, d_fa D)) dX4_isInMood_91 rfl (⟨(d_bf D, f_rw (a_F X), g1, d_tk D, d_fr D, d_to D, d_vl D, d_fa D), (if_neg (show ¬ o_find (p_mood (s_nm (a_S X t)) (a_F X) w) z 0 = z by omega)).symm, rfl⟩)
  · have c_5n : ¬ (z ≤ i) := fun h9 => c_5 ((nI_leI (a := z) (b := i) (by omega) (by omega)).mpr h9)
    refine q_iload_n K 1 dX4_isInMood_27 rfl ?_
    refine q_if_eq 79 K dX4_isInMood_28 (by decide) (fun c_8 => ?_) (fun c_8 => ?_)
    · rcases hB with ⟨rfl, hF⟩ | ⟨rfl, hF⟩
      · exact absurd c_8 (by decide)
      · refine q_aload_n K 2 dX4_isInMood_79 rfl ?_
        refine q_get (.ref (B 4)) K ws_X4 0 rfl rfl 3 (by decide) fl_X4_19 rfl dX4_isInMood_80 ?_
        refine q_aload_n K 2 dX4_isInMood_83 rfl ?_
        refine q_get (.ref (B 1)) K ws_X4 0 rfl rfl 0 (by decide) fl_X4_7 rfl dX4_isInMood_84 ?_
        refine q_perm (ws' := ([4, 1, 0, 2, 3, 5, 6, 7, 8, 9, 10] : List Nat).map (fun i9 => (w_M (k_Z M) B (f_hoursR (f_gn 0) (a_F X) i, a_K X, a_kp X, a_fd X, a_tp X, a_S X) (d_bf D, f_rw (a_F X), g1, d_tk D, d_fr D, d_to D, d_vl D, d_fa D)).getD i9 (0, .inr (0, [])))) (k_pick _ (show (List.range 11).Perm _ by decide) rfl) ?_
        refine q_csV (rest := []) K ks_X4_copyRow (c_X4_copyRow (k_l M) (k_Z M) (B 4) (B 1) (f_rw (a_F X)) (f_rw (f_hoursR (f_gn 0) (a_F X) i))) [] (([0, 2, 3, 5, 6, 7, 8, 9, 10] : List Nat).map (fun i9 => (w_M (k_Z M) B (f_hoursR (f_gn 0) (a_F X) i, a_K X, a_kp X, a_fd X, a_tp X, a_S X) (d_bf D, f_rw (a_F X), g1, d_tk D, d_fr D, d_to D, d_vl D, d_fa D)).getD i9 (0, .inr (0, [])))) rfl ml_X4_141 rfl rfl (Nat.le_of_ble_eq_true rfl) ⟨Nat.le_of_ble_eq_true rfl, Nat.le_of_ble_eq_true rfl⟩ dX4_isInMood_87 (fun w2 h_9 => ?_)
        obtain rfl := h_9
        refine q_perm (ws' := w_M (k_Z M) B X (d_bf D, f_rw (a_F X), g1, d_tk D, d_fr D, d_to D, d_vl D, d_fa D)) (k_pick [2, 1, 3, 4, 0, 5, 6, 7, 8, 9, 10] (show (List.range 11).Perm _ by decide) rfl) ?_
        refine q_iload_n K 1 dX4_isInMood_90 rfl ?_
        exact Rt _ _ 0 (w_M (k_Z M) B X (d_bf D, f_rw (a_F X), g1, d_tk D, d_fr D, d_to D, d_vl D, d_fa D)) dX4_isInMood_91 rfl (⟨(d_bf D, f_rw (a_F X), g1, d_tk D, d_fr D, d_to D, d_vl D, d_fa D), (if_neg (show ¬ o_find (p_mood (s_nm (a_S X t)) (a_F X) w) z 0 = z by omega)).symm, rfl⟩)
    · obtain ⟨-, hF⟩ := hB.resolve_right (fun h9 => c_8 h9.1)
      refine q_aload_n K 2 dX4_isInMood_31 rfl ?_
      refine q_get (.ref (B 9)) K ws_X4 0 rfl rfl 10 (by decide) fl_X4_34 rfl dX4_isInMood_32 ?_
      refine q_bipush 40 K dX4_isInMood_35 rfl ?_
      refine q_iload_n K 3 dX4_isInMood_37 rfl ?_
      refine q_imul K dX4_isInMood_38 ?_
      refine q_eqi (nI (40 * t)) (pk_mul 40 t) ?_
      refine q_iload K 0 dX4_isInMood_39 rfl ?_
      refine q_iadd K dX4_isInMood_41 ?_
      refine q_eqi (nI ((40 * t) + i)) (kn_add (40 * t) i) ?_
      refine q_iald K 9 rfl (vp_in_nI (n := (40 * t) + i) (N := 160) (by omega) (by omega)) dX4_isInMood_42 ?_
      refine q_eqi (s_nm (a_S X t) i) (by rw [nI_clamp (n := (40 * t) + i) (by omega)]; exact m_nm_at _ (by omega)) ?_
      refine q_istore (lv' := [(5, .int (s_nm (a_S X t) i)), (4, .int (nI i)), (3, .int b1), (0, .ref (B 0)), (1, .int (nI t)), (2, .int (nI w))]) K dX4_isInMood_43 (by decide) rfl ?_
      refine q_iload K 0 dX4_isInMood_45 rfl ?_
      refine q_iconst (-1) K dX4_isInMood_47 rfl ?_
      refine q_icmp_eq 62 K dX4_isInMood_48 (by decide) (fun c_10 => ?_) (fun c_10 => ?_)
      · refine q_iconst 1 K dX4_isInMood_62 rfl ?_
        refine q_goto 67 K dX4_isInMood_63 (by decide) ?_
        refine q_istore_n (lv' := [(3, .int 1), (5, .int (s_nm (a_S X t) i)), (4, .int (nI i)), (0, .ref (B 0)), (1, .int (nI t)), (2, .int (nI w))]) K dX4_isInMood_67 (by decide) rfl ?_
        refine q_aload_n K 3 dX4_isInMood_68 rfl ?_
        refine q_iconst 0 K dX4_isInMood_69 rfl ?_
        refine q_wV (q0 := 0) (As := [.int 0]) (rest := []) K kv_X4_hourBut (c_X4_hourBut (k_l M) (k_Z M) B (f_hoursR (f_gn 0) (a_F X) i, a_K X, a_kp X, a_fd X, a_tp X, a_S X) (d_bf D, f_rw (a_F X), g1, d_tk D, d_fr D, d_to D, d_vl D, d_fa D) m hm ((f_hoursR_wk _ _ _).trans hm2) (f_ok_hoursR _ hok (by rw [f_mm hm hm2]; exact hm) i) 0) rfl rfl ml_X4_115 rfl rfl (Nat.le_of_ble_eq_true rfl) ⟨Nat.le_of_ble_eq_true rfl, Nat.le_of_ble_eq_true rfl⟩ dX4_isInMood_70 (fun w2 h_11 => ?_)
        obtain ⟨x_13, rfl⟩ := h_11
        refine q_ws (ws' := w_M (k_Z M) B (f_hourR (f_gn 0) (f_hoursR (f_gn 0) (a_F X) i), a_K X, a_kp X, a_fd X, a_tp X, a_S X) (d_bf D, f_rw (a_F X), x_13, d_tk D, d_fr D, d_to D, d_vl D, d_fa D)) rfl ?_
        refine q_ws (ws' := w_M (k_Z M) B (f_hoursR (f_gn 0) (a_F X) (i + 1), a_K X, a_kp X, a_fd X, a_tp X, a_S X) (d_bf D, f_rw (a_F X), x_13, d_tk D, d_fr D, d_to D, d_vl D, d_fa D)) rfl ?_
        refine q_iinc (nI (i + 1)) (lv' := [(4, .int (nI (i + 1))), (3, .int 1), (5, .int (s_nm (a_S X t) i)), (0, .ref (B 0)), (1, .int (nI t)), (2, .int (nI w))]) K 2 dX4_isInMood_73 rfl (kn_inc i) (by decide) rfl ?_
        refine q_goto 16 K dX4_isInMood_76 (by decide) ?_
        refine q_lv [0, 1, 3, 4, 5] rfl ?_
        exact ih_4 (n_2 - 1) (i + 1, 1, x_13) (by omega) ⟨by show i + 1 + (n_2 - 1) = z; omega, Or.inl ⟨rfl, by rw [hF, show n_2 = (n_2 - 1) + 1 by omega, o_find, if_neg (by rw [p_mood, decide_eq_true c_10, Bool.not_true, Bool.false_and]; decide)] <;> rfl⟩⟩
      · refine q_iload K 0 dX4_isInMood_51 rfl ?_
        refine q_aload_n K 3 dX4_isInMood_53 rfl ?_
        refine q_iload_n K 5 dX4_isInMood_54 rfl ?_
        refine q_iconst 3 K dX4_isInMood_55 rfl ?_
        refine q_wI (q0 := 0) (As := [.int (nI w), .int 3]) (rest := [.int (s_nm (a_S X t) i)]) K kv_X4_its (c_X4_its (k_l M) (k_Z M) B (f_hoursR (f_gn 0) (a_F X) i, a_K X, a_kp X, a_fd X, a_tp X, a_S X) (d_bf D, f_rw (a_F X), g1, d_tk D, d_fr D, d_to D, d_vl D, d_fa D) w 3 (by omega) (by omega)) rfl rfl ml_X4_62 rfl rfl (Nat.le_of_ble_eq_true rfl) ⟨Nat.le_of_ble_eq_true rfl, Nat.le_of_ble_eq_true rfl⟩ dX4_isInMood_56 (fun r_15 w2 h_14 => ?_)
        obtain ⟨e_r_15, rfl⟩ := h_14
        refine q_eqi (f_md (f_hoursR (f_gn 0) (a_F X) i) w) e_r_15 ?_
        refine q_eqi (f_md (f_hoursC goA (a_F X) i) w) (hC_md hm hm2 _ _) ?_
        refine q_icmp_ne 66 K dX4_isInMood_59 (by decide) (fun c_16 => ?_) (fun c_16 => ?_)
        · refine q_iconst 0 K dX4_isInMood_66 rfl ?_
          refine q_istore_n (lv' := [(3, .int 0), (5, .int (s_nm (a_S X t) i)), (4, .int (nI i)), (0, .ref (B 0)), (1, .int (nI t)), (2, .int (nI w))]) K dX4_isInMood_67 (by decide) rfl ?_
          refine q_aload_n K 3 dX4_isInMood_68 rfl ?_
          refine q_iconst 0 K dX4_isInMood_69 rfl ?_
          refine q_wV (q0 := 0) (As := [.int 0]) (rest := []) K kv_X4_hourBut (c_X4_hourBut (k_l M) (k_Z M) B (f_hoursR (f_gn 0) (a_F X) i, a_K X, a_kp X, a_fd X, a_tp X, a_S X) (d_bf D, f_rw (a_F X), g1, d_tk D, d_fr D, d_to D, d_vl D, d_fa D) m hm ((f_hoursR_wk _ _ _).trans hm2) (f_ok_hoursR _ hok (by rw [f_mm hm hm2]; exact hm) i) 0) rfl rfl ml_X4_115 rfl rfl (Nat.le_of_ble_eq_true rfl) ⟨Nat.le_of_ble_eq_true rfl, Nat.le_of_ble_eq_true rfl⟩ dX4_isInMood_70 (fun w2 h_17 => ?_)
          obtain ⟨x_19, rfl⟩ := h_17
          refine q_ws (ws' := w_M (k_Z M) B (f_hourR (f_gn 0) (f_hoursR (f_gn 0) (a_F X) i), a_K X, a_kp X, a_fd X, a_tp X, a_S X) (d_bf D, f_rw (a_F X), x_19, d_tk D, d_fr D, d_to D, d_vl D, d_fa D)) rfl ?_
          refine q_ws (ws' := w_M (k_Z M) B (f_hoursR (f_gn 0) (a_F X) (i + 1), a_K X, a_kp X, a_fd X, a_tp X, a_S X) (d_bf D, f_rw (a_F X), x_19, d_tk D, d_fr D, d_to D, d_vl D, d_fa D)) rfl ?_
          refine q_iinc (nI (i + 1)) (lv' := [(4, .int (nI (i + 1))), (3, .int 0), (5, .int (s_nm (a_S X t) i)), (0, .ref (B 0)), (1, .int (nI t)), (2, .int (nI w))]) K 2 dX4_isInMood_73 rfl (kn_inc i) (by decide) rfl ?_
          refine q_goto 16 K dX4_isInMood_76 (by decide) ?_
          refine q_lv [0, 1, 3, 4, 5] rfl ?_
          exact ih_4 (n_2 - 1) (i + 1, 0, x_19) (by omega) ⟨by show i + 1 + (n_2 - 1) = z; omega, Or.inr ⟨rfl, by rw [hF, show n_2 = (n_2 - 1) + 1 by omega, o_find, if_pos (by rw [p_mood, decide_eq_false c_10, decide_eq_false c_16]; rfl)]; omega⟩⟩
        · refine q_iconst 1 K dX4_isInMood_62 rfl ?_
          refine q_goto 67 K dX4_isInMood_63 (by decide) ?_
          refine q_istore_n (lv' := [(3, .int 1), (5, .int (s_nm (a_S X t) i)), (4, .int (nI i)), (0, .ref (B 0)), (1, .int (nI t)), (2, .int (nI w))]) K dX4_isInMood_67 (by decide) rfl ?_
          refine q_aload_n K 3 dX4_isInMood_68 rfl ?_
          refine q_iconst 0 K dX4_isInMood_69 rfl ?_
          refine q_wV (q0 := 0) (As := [.int 0]) (rest := []) K kv_X4_hourBut (c_X4_hourBut (k_l M) (k_Z M) B (f_hoursR (f_gn 0) (a_F X) i, a_K X, a_kp X, a_fd X, a_tp X, a_S X) (d_bf D, f_rw (a_F X), g1, d_tk D, d_fr D, d_to D, d_vl D, d_fa D) m hm ((f_hoursR_wk _ _ _).trans hm2) (f_ok_hoursR _ hok (by rw [f_mm hm hm2]; exact hm) i) 0) rfl rfl ml_X4_115 rfl rfl (Nat.le_of_ble_eq_true rfl) ⟨Nat.le_of_ble_eq_true rfl, Nat.le_of_ble_eq_true rfl⟩ dX4_isInMood_70 (fun w2 h_20 => ?_)
          obtain ⟨x_22, rfl⟩ := h_20
          refine q_ws (ws' := w_M (k_Z M) B (f_hourR (f_gn 0) (f_hoursR (f_gn 0) (a_F X) i), a_K X, a_kp X, a_fd X, a_tp X, a_S X) (d_bf D, f_rw (a_F X), x_22, d_tk D, d_fr D, d_to D, d_vl D, d_fa D)) rfl ?_
          refine q_ws (ws' := w_M (k_Z M) B (f_hoursR (f_gn 0) (a_F X) (i + 1), a_K X, a_kp X, a_fd X, a_tp X, a_S X) (d_bf D, f_rw (a_F X), x_22, d_tk D, d_fr D, d_to D, d_vl D, d_fa D)) rfl ?_
          refine q_iinc (nI (i + 1)) (lv' := [(4, .int (nI (i + 1))), (3, .int 1), (5, .int (s_nm (a_S X t) i)), (0, .ref (B 0)), (1, .int (nI t)), (2, .int (nI w))]) K 2 dX4_isInMood_73 rfl (kn_inc i) (by decide) rfl ?_
          refine q_goto 16 K dX4_isInMood_76 (by decide) ?_
          refine q_lv [0, 1, 3, 4, 5] rfl ?_
          exact ih_4 (n_2 - 1) (i + 1, 1, x_22) (by omega) ⟨by show i + 1 + (n_2 - 1) = z; omega, Or.inl ⟨rfl, by rw [hF, show n_2 = (n_2 - 1) + 1 by omega, o_find, if_neg (by rw [p_mood, decide_eq_true (p := _ = f_md _ _) c_16, Bool.not_true, Bool.and_false]; decide)] <;> rfl⟩⟩
theorem kv_X4_isInMood : k_iv yX4_isInMood cX4_isInMood 6 (some .boolean) 2 := ⟨⟨im_X4_isInMood, se_X4_isInMood⟩, in_X4, co_X4_isInMood, by decide +kernel⟩
set_option maxHeartbeats 4000000 in
set_option maxRecDepth 100000 in
theorem c_X4_kinds (l : Launch) (Z : kz_Z) (B : Nat → Nat) (X : AS) (D : DJ) (m : Nat) (hm : m ≤ 8) (hm2 : f_wk (a_F X) = nI m) (hok : f_ok (a_F X)) (hsh : a_shok X) (hbt : a_btok X) (s w : Int32) : KI l Z yX4_kinds cX4_kinds 7 .int 5 122 [.ref (B 0), .int s, .int w] (w_M Z B X D) (fun r w2 => ∃ D2, r = (o_kinds X s w).1 ∧ w2 = w_M Z B (o_kinds X s w).2 D2) := by
  refine ki_of (by decide) [(0, .ref (B 0)), (1, .int s), (2, .int w)] (Nat.le_of_ble_eq_true rfl) rfl ?_
  intro M e1 e2 K Rt
  subst e1 e2
  refine q_aload_n K 0 dX4_kinds_0 rfl ?_
  refine q_iload_n K 1 dX4_kinds_1 rfl ?_
  refine q_wI (q0 := 0) (As := [.int s]) (rest := []) K kv_X4_wants (c_X4_wants (k_l M) (k_Z M) B X D hbt s) rfl rfl ml_X4_171 rfl rfl (Nat.le_of_ble_eq_true rfl) ⟨Nat.le_of_ble_eq_true rfl, Nat.le_of_ble_eq_true rfl⟩ dX4_kinds_2 (fun r_2 w2 h_1 => ?_)
  obtain ⟨h_1, rfl⟩ := h_1
  rcases h_1 with ⟨i_r_2, m_r_2, e_r_2⟩ | ⟨i_r_2, m_r_2, e_r_2⟩ | ⟨i_r_2, e_r_2⟩
  · refine q_eqi 0 e_r_2 ?_
    obtain ⟨t, h_t, e_t⟩ := kn_rng (n := 3) i_r_2 rfl
    subst e_t
    obtain ⟨z, hz, hz2⟩ := hsh t (by omega)
    have hzz := a_szz hz hz2
    refine q_if_eq 16 K dX4_kinds_5 (by decide) (fun c_0 => ?_) (fun c_0 => absurd c_0 (by decide))
    refine q_aload_n K 0 dX4_kinds_16 rfl ?_
    refine q_iload_n K 2 dX4_kinds_17 rfl ?_
    refine q_wI (q0 := 0) (As := [.int w]) (rest := []) K kv_X4_isWalker (c_X4_isWalker (k_l M) (k_Z M) B X D m hm hm2 w) rfl rfl ml_X4_89 rfl rfl (Nat.le_of_ble_eq_true rfl) ⟨Nat.le_of_ble_eq_true rfl, Nat.le_of_ble_eq_true rfl⟩ dX4_kinds_18 (fun r_4 w2 h_3 => ?_)
    obtain ⟨e_r_4, rfl⟩ := h_3
    refine q_if_eq 28 K dX4_kinds_21 (by decide) (fun c_5 => ?_) (fun c_5 => ?_)
    · have c_5 : ¬ (isW X w) := (kn_eq e_r_4).mp c_5
      refine q_ldc K dX4_kinds_28 ct_X4_40 ?_
      refine q_istore_n (lv' := [(3, .int (-1000001)), (0, .ref (B 0)), (1, .int (nI t)), (2, .int w)]) K dX4_kinds_30 (by decide) rfl ?_
      refine q_iload_n K 0 dX4_kinds_31 rfl ?_
      refine q_if_eq 41 K dX4_kinds_32 (by decide) (fun c_0 => absurd c_0 (by decide)) (fun c_0 => ?_)
      refine q_aload_n K 1 dX4_kinds_35 rfl ?_
      refine q_iload_n K 0 dX4_kinds_36 rfl ?_
      refine q_eqi (r_fin 0) (by decide) ?_
      refine q_wI (q0 := 0) (As := [.int (r_fin 0)]) (rest := []) K kv_X4_finds (c_X4_finds (k_l M) (k_Z M) B X D 0 (by omega)) rfl rfl ml_X4_48 rfl rfl (Nat.le_of_ble_eq_true rfl) ⟨Nat.le_of_ble_eq_true rfl, Nat.le_of_ble_eq_true rfl⟩ dX4_kinds_37 (fun r_7 w2 h_6 => ?_)
      obtain ⟨e_r_7, rfl⟩ := h_6
      refine q_eqi (r_fin 0) e_r_7 ?_
      refine q_ws (ws' := w_M (k_Z M) B (a_F X, a_K X, a_kp X, fd_up (a_fd X) 0, a_tp X, a_S X) D) rfl ?_
      exact Rt _ _ (r_fin 0) (w_M (k_Z M) B (a_F X, a_K X, a_kp X, fd_up (a_fd X) 0, a_tp X, a_S X) D) dX4_kinds_40 rfl (⟨D, by simp only [o_kinds, o_with, a_fin, if_pos i_r_2, if_neg m_r_2, if_neg c_5, e_r_4, nI_clamp (n := t) (by omega)] <;> rfl, by simp only [o_kinds, o_with, a_fin, if_pos i_r_2, if_neg m_r_2, if_neg c_5, nI_clamp (n := t) (by omega)] <;> rfl⟩)
    · have c_5 : isW X w := (kn_ne e_r_4).mp c_5
      obtain ⟨u, h_u, e_u⟩ := isW_nat hm hm2 c_5
      subst e_u
      refine q_iconst 0 K dX4_kinds_24 rfl ?_
      refine q_goto 30 K dX4_kinds_25 (by decide) ?_
      refine q_istore_n (lv' := [(3, .int 0), (0, .ref (B 0)), (1, .int (nI t)), (2, .int (nI u))]) K dX4_kinds_30 (by decide) rfl ?_
      refine q_iload_n K 0 dX4_kinds_31 rfl ?_
      refine q_if_eq 41 K dX4_kinds_32 (by decide) (fun c_0 => ?_) (fun c_0 => absurd c_0 (by decide))
      refine q_aload_n K 1 dX4_kinds_41 rfl ?_
      refine q_iload_n K 3 dX4_kinds_42 rfl ?_
      refine q_iconst 0 K dX4_kinds_43 rfl ?_
      refine q_wI (q0 := 0) (As := [.int (nI u), .int 0]) (rest := []) K kv_X4_its (c_X4_its (k_l M) (k_Z M) B X D u 0 (by omega) (by omega)) rfl rfl ml_X4_62 rfl rfl (Nat.le_of_ble_eq_true rfl) ⟨Nat.le_of_ble_eq_true rfl, Nat.le_of_ble_eq_true rfl⟩ dX4_kinds_44 (fun r_9 w2 h_8 => ?_)
      obtain ⟨e_r_9, rfl⟩ := h_8
      refine q_eqi (f_kd (a_F X) u) e_r_9 ?_
      refine q_istore (lv' := [(4, .int (f_kd (a_F X) u)), (3, .int 0), (0, .ref (B 0)), (1, .int (nI t)), (2, .int (nI u))]) K dX4_kinds_47 (by decide) rfl ?_
      refine q_iconst 0 K dX4_kinds_49 rfl ?_
      refine q_istore (lv' := [(5, .int 0), (4, .int (f_kd (a_F X) u)), (3, .int 0), (0, .ref (B 0)), (1, .int (nI t)), (2, .int (nI u))]) K dX4_kinds_50 (by decide) rfl ?_
      refine q_iconst 0 K dX4_kinds_52 rfl ?_
      refine q_ws (ws' := w_M (k_Z M) B (f_setrow (a_F X) 0 (upd (f_row (a_F X) 0) u (f_row (a_F X) 0 u)), a_K X, a_kp X, a_fd X, a_tp X, a_S X) D) (congrArg (fun F9 => w_M (k_Z M) B (a_setF X F9) D) (f_rself (a_F X) (k := 0) (by omega) u).symm) ?_
      refine q_istore (lv' := [(6, .int 0), (5, .int 0), (4, .int (f_kd (a_F X) u)), (3, .int 0), (0, .ref (B 0)), (1, .int (nI t)), (2, .int (nI u))]) K dX4_kinds_53 (by decide) rfl ?_
      refine q_loop (α := Nat × (Int32 × DJ)) (fun n9 x9 => x9.1 + n9 = 7) 55 (fun x9 => [(6, .int (nI x9.1)), (5, .int (f_kinds X t u x9.1)), (4, .int (f_kd (a_F X) u)), (3, .int 0), (0, .ref (B 0)), (1, .int (nI t)), (2, .int (nI u))]) (fun x9 => w_M (k_Z M) B (f_setrow (a_F X) 0 (upd (f_row (a_F X) 0) u x9.2.1), a_K X, a_kp X, a_fd X, a_tp X, a_S X) x9.2.2) (fun n_10 x9 hI_11 ih_12 => ?_) 7 (0, (f_row (a_F X) 0 u, D)) rfl
      obtain ⟨v, ⟨x1, D1⟩⟩ := x9
      dsimp only at hI_11 ih_12 ⊢
      refine q_iload K 0 dX4_kinds_55 rfl ?_
      refine q_bipush 6 K dX4_kinds_57 rfl ?_
      refine q_icmp_gt 102 K dX4_kinds_59 (by decide) (fun c_13 => ?_) (fun c_13 => ?_)
      · have c_13n : 6 < v := (nI_ltI (a := 6) (b := v) (by omega) (by omega)).mp c_13
        refine q_aload_n K 4 dX4_kinds_102 rfl ?_
        refine q_get (.ref (B 1)) K ws_X4 0 rfl rfl 0 (by decide) fl_X4_7 rfl dX4_kinds_103 ?_
        refine q_iload_n K 6 dX4_kinds_106 rfl ?_
        refine q_iconst 0 K dX4_kinds_107 rfl ?_
        refine q_cp (rest := [.ref (B 1)]) K ks_X4_at (c_X4_at (k_l M) (k_Z M) u 0) ml_X4_76 rfl rfl (Nat.le_of_ble_eq_true rfl) ⟨Nat.le_of_ble_eq_true rfl, Nat.le_of_ble_eq_true rfl⟩ dX4_kinds_108 (fun r_14 e_r_14 => ?_)
        refine q_eqi (nI ((21 + (5 * u)) + 0)) e_r_14 ?_
        refine q_iload K 2 dX4_kinds_111 rfl ?_
        refine q_iast (ws' := w_M (k_Z M) B (f_setrow (f_setrow (a_F X) 0 (upd (f_row (a_F X) 0) u x1)) 0 (upd (f_row (f_setrow (a_F X) 0 (upd (f_row (a_F X) 0) u x1)) 0) u (f_kd (a_F X) u)), a_K X, a_kp X, a_fd X, a_tp X, a_S X) D1) K 1 rfl (vp_in_nI (n := (21 + (5 * u)) + 0) (N := 71) (by omega) (by omega)) (by rw [nI_clamp (n := (21 + (5 * u)) + 0) (by omega), up_at _ (by omega) (by omega) _]; rfl) dX4_kinds_113 ?_
        refine q_ws (ws' := w_M (k_Z M) B X D1) (congrArg (fun F9 => w_M (k_Z M) B (a_setF X F9) D1) (f_rback (a_F X) (k := 0) (by omega) u _)) ?_
        refine q_iload K 1 dX4_kinds_114 rfl ?_
        exact Rt _ _ (f_kinds X t u v) (w_M (k_Z M) B X D1) dX4_kinds_116 rfl (⟨D1, by simp only [o_kinds, o_with, if_pos i_r_2, if_neg m_r_2, if_pos c_5, if_pos c_13, nI_clamp (n := t) (by omega), nI_clamp (n := u) (by omega), f_mm hm hm2, show v = 7 by omega] <;> rfl, by simp only [o_kinds, o_with, if_pos i_r_2, if_neg m_r_2, if_pos c_5, if_pos c_13, nI_clamp (n := t) (by omega), nI_clamp (n := u) (by omega), f_mm hm hm2, show v = 7 by omega] <;> rfl⟩)
      · have c_13n : ¬ (6 < v) := fun h9 => c_13 ((nI_ltI (a := 6) (b := v) (by omega) (by omega)).mpr h9)
        refine q_aload_n K 4 dX4_kinds_62 rfl ?_
        refine q_get (.ref (B 1)) K ws_X4 0 rfl rfl 0 (by decide) fl_X4_7 rfl dX4_kinds_63 ?_
        refine q_iload_n K 6 dX4_kinds_66 rfl ?_
        refine q_iconst 0 K dX4_kinds_67 rfl ?_
        refine q_cp (rest := [.ref (B 1)]) K ks_X4_at (c_X4_at (k_l M) (k_Z M) u 0) ml_X4_76 rfl rfl (Nat.le_of_ble_eq_true rfl) ⟨Nat.le_of_ble_eq_true rfl, Nat.le_of_ble_eq_true rfl⟩ dX4_kinds_68 (fun r_15 e_r_15 => ?_)
        refine q_eqi (nI ((21 + (5 * u)) + 0)) e_r_15 ?_
        refine q_iload K 0 dX4_kinds_71 rfl ?_
        refine q_iast (ws' := w_M (k_Z M) B (f_setrow (f_setrow (a_F X) 0 (upd (f_row (a_F X) 0) u x1)) 0 (upd (f_row (f_setrow (a_F X) 0 (upd (f_row (a_F X) 0) u x1)) 0) u (nI v)), a_K X, a_kp X, a_fd X, a_tp X, a_S X) D1) K 1 rfl (vp_in_nI (n := (21 + (5 * u)) + 0) (N := 71) (by omega) (by omega)) (by rw [nI_clamp (n := (21 + (5 * u)) + 0) (by omega), up_at _ (by omega) (by omega) _]; rfl) dX4_kinds_73 ?_
        refine q_ws (ws' := w_M (k_Z M) B (f_setrow (a_F X) 0 (upd (f_row (a_F X) 0) u (nI v)), a_K X, a_kp X, a_fd X, a_tp X, a_S X) D1) (congrArg (fun F9 => w_M (k_Z M) B (a_setF X F9) D1) (f_rr (a_F X) (k := 0) (by omega) u _ _)) ?_
        refine q_iload K 1 dX4_kinds_74 rfl ?_
        refine q_aload_n K 4 dX4_kinds_76 rfl ?_
        refine q_iload_n K 5 dX4_kinds_77 rfl ?_
        refine q_iload_n K 6 dX4_kinds_78 rfl ?_
        refine q_wI (q0 := 0) (As := [.int (nI t), .int (nI u)]) (rest := [.int (f_kinds X t u v)]) K kv_X4_isInMood (c_X4_isInMood (k_l M) (k_Z M) B (f_setrow (a_F X) 0 (upd (f_row (a_F X) 0) u (nI v)), a_K X, a_kp X, a_fd X, a_tp X, a_S X) D1 m hm hm2 hok t (by omega) z hz hz2 u (by omega)) rfl rfl ml_X4_181 rfl rfl (Nat.le_of_ble_eq_true rfl) ⟨Nat.le_of_ble_eq_true rfl, Nat.le_of_ble_eq_true rfl⟩ dX4_kinds_79 (fun r_17 w2 h_16 => ?_)
        obtain ⟨D_18, e_r_17, rfl⟩ := h_16
        have e_r_17 : r_17 = if o_find (p_mood (s_nm (a_S X t)) (f_setrow (a_F X) 0 (upd (f_row (a_F X) 0) u (nI v))) u) z 0 = z then 1 else 0 := e_r_17
        refine q_ws (ws' := w_M (k_Z M) B (f_setrow (a_F X) 0 (upd (f_row (a_F X) 0) u (nI v)), a_K X, a_kp X, a_fd X, a_tp X, a_S X) D_18) rfl ?_
        refine q_if_eq 92 K dX4_kinds_82 (by decide) (fun c_19 => ?_) (fun c_19 => ?_)
        · have c_19 : ¬ (o_find (p_mood (s_nm (a_S X t)) (f_setrow (a_F X) 0 (upd (f_row (a_F X) 0) u (nI v))) u) z 0 = z) := (kn_eq e_r_17).mp c_19
          refine q_iconst 0 K dX4_kinds_92 rfl ?_
          refine q_ior K dX4_kinds_93 ?_
          refine q_istore (lv' := [(5, .int ((f_kinds X t u v) ||| 0)), (6, .int (nI v)), (4, .int (f_kd (a_F X) u)), (3, .int 0), (0, .ref (B 0)), (1, .int (nI t)), (2, .int (nI u))]) K dX4_kinds_94 (by decide) rfl ?_
          refine q_iinc (nI (v + 1)) (lv' := [(6, .int (nI (v + 1))), (5, .int ((f_kinds X t u v) ||| 0)), (4, .int (f_kd (a_F X) u)), (3, .int 0), (0, .ref (B 0)), (1, .int (nI t)), (2, .int (nI u))]) K 1 dX4_kinds_96 rfl (kn_inc v) (by decide) rfl ?_
          refine q_goto 55 K dX4_kinds_99 (by decide) ?_
          rw [show (f_kinds X t u v) ||| 0 = f_kinds X t u (v + 1) by simp only [f_kinds, hzz, if_neg c_19, Int32.or_zero]]
          exact ih_12 (n_10 - 1) (v + 1, nI v, D_18) (by omega) (by show v + 1 + (n_10 - 1) = 7; omega)
        · have c_19 : o_find (p_mood (s_nm (a_S X t)) (f_setrow (a_F X) 0 (upd (f_row (a_F X) 0) u (nI v))) u) z 0 = z := (kn_ne e_r_17).mp c_19
          refine q_iconst 1 K dX4_kinds_85 rfl ?_
          refine q_iload K 0 dX4_kinds_86 rfl ?_
          refine q_ishl K dX4_kinds_88 ?_
          refine q_goto 93 K dX4_kinds_89 (by decide) ?_
          refine q_ior K dX4_kinds_93 ?_
          refine q_istore (lv' := [(5, .int ((f_kinds X t u v) ||| (1 <<< ((nI v) &&& 31)))), (6, .int (nI v)), (4, .int (f_kd (a_F X) u)), (3, .int 0), (0, .ref (B 0)), (1, .int (nI t)), (2, .int (nI u))]) K dX4_kinds_94 (by decide) rfl ?_
          refine q_iinc (nI (v + 1)) (lv' := [(6, .int (nI (v + 1))), (5, .int ((f_kinds X t u v) ||| (1 <<< ((nI v) &&& 31)))), (4, .int (f_kd (a_F X) u)), (3, .int 0), (0, .ref (B 0)), (1, .int (nI t)), (2, .int (nI u))]) K 1 dX4_kinds_96 rfl (kn_inc v) (by decide) rfl ?_
          refine q_goto 55 K dX4_kinds_99 (by decide) ?_
          rw [show (f_kinds X t u v) ||| (1 <<< ((nI v) &&& 31)) = f_kinds X t u (v + 1) by simp only [f_kinds, hzz, if_pos c_19, Int32.or_zero]]
          exact ih_12 (n_10 - 1) (v + 1, nI v, D_18) (by omega) (by show v + 1 + (n_10 - 1) = 7; omega)
  · refine q_eqi (-1000006) e_r_2 ?_
    refine q_if_eq 16 K dX4_kinds_5 (by decide) (fun c_0 => absurd c_0 (by decide)) (fun c_0 => ?_)
    refine q_aload_n K 0 dX4_kinds_8 rfl ?_
    refine q_iload_n K 1 dX4_kinds_9 rfl ?_
    refine q_wI (q0 := 0) (As := [.int s]) (rest := []) K kv_X4_wants (c_X4_wants (k_l M) (k_Z M) B X D hbt s) rfl rfl ml_X4_171 rfl rfl (Nat.le_of_ble_eq_true rfl) ⟨Nat.le_of_ble_eq_true rfl, Nat.le_of_ble_eq_true rfl⟩ dX4_kinds_10 (fun r_21 w2 h_20 => ?_)
    obtain ⟨h_20, rfl⟩ := h_20
    rcases h_20 with ⟨i_r_21, m_r_21, e_r_21⟩ | ⟨i_r_21, m_r_21, e_r_21⟩ | ⟨i_r_21, e_r_21⟩
    · exact absurd m_r_2 m_r_21
    · refine q_eqi (-1000006) e_r_21 ?_
      refine q_goto 30 K dX4_kinds_13 (by decide) ?_
      refine q_istore_n (lv' := [(3, .int (-1000006)), (0, .ref (B 0)), (1, .int s), (2, .int w)]) K dX4_kinds_30 (by decide) rfl ?_
      refine q_iload_n K 0 dX4_kinds_31 rfl ?_
      refine q_if_eq 41 K dX4_kinds_32 (by decide) (fun c_0 => absurd c_0 (by decide)) (fun c_0 => ?_)
      refine q_aload_n K 1 dX4_kinds_35 rfl ?_
      refine q_iload_n K 0 dX4_kinds_36 rfl ?_
      refine q_eqi (r_fin 5) (by decide) ?_
      refine q_wI (q0 := 0) (As := [.int (r_fin 5)]) (rest := []) K kv_X4_finds (c_X4_finds (k_l M) (k_Z M) B X D 5 (by omega)) rfl rfl ml_X4_48 rfl rfl (Nat.le_of_ble_eq_true rfl) ⟨Nat.le_of_ble_eq_true rfl, Nat.le_of_ble_eq_true rfl⟩ dX4_kinds_37 (fun r_23 w2 h_22 => ?_)
      obtain ⟨e_r_23, rfl⟩ := h_22
      refine q_eqi (r_fin 5) e_r_23 ?_
      refine q_ws (ws' := w_M (k_Z M) B (a_F X, a_K X, a_kp X, fd_up (a_fd X) 5, a_tp X, a_S X) D) rfl ?_
      exact Rt _ _ (r_fin 5) (w_M (k_Z M) B (a_F X, a_K X, a_kp X, fd_up (a_fd X) 5, a_tp X, a_S X) D) dX4_kinds_40 rfl (⟨D, by simp only [o_kinds, o_with, a_fin, if_pos i_r_2, if_pos m_r_2] <;> rfl, by simp only [o_kinds, o_with, a_fin, if_pos i_r_2, if_pos m_r_2] <;> rfl⟩)
    · exact absurd i_r_2 i_r_21
  · refine q_eqi (-1000001) e_r_2 ?_
    refine q_if_eq 16 K dX4_kinds_5 (by decide) (fun c_0 => absurd c_0 (by decide)) (fun c_0 => ?_)
    refine q_aload_n K 0 dX4_kinds_8 rfl ?_
    refine q_iload_n K 1 dX4_kinds_9 rfl ?_
    refine q_wI (q0 := 0) (As := [.int s]) (rest := []) K kv_X4_wants (c_X4_wants (k_l M) (k_Z M) B X D hbt s) rfl rfl ml_X4_171 rfl rfl (Nat.le_of_ble_eq_true rfl) ⟨Nat.le_of_ble_eq_true rfl, Nat.le_of_ble_eq_true rfl⟩ dX4_kinds_10 (fun r_25 w2 h_24 => ?_)
    obtain ⟨h_24, rfl⟩ := h_24
    rcases h_24 with ⟨i_r_25, m_r_25, e_r_25⟩ | ⟨i_r_25, m_r_25, e_r_25⟩ | ⟨i_r_25, e_r_25⟩
    · exact absurd i_r_25 i_r_2
    · exact absurd i_r_25 i_r_2
    · refine q_eqi (-1000001) e_r_25 ?_
      refine q_goto 30 K dX4_kinds_13 (by decide) ?_
      refine q_istore_n (lv' := [(3, .int (-1000001)), (0, .ref (B 0)), (1, .int s), (2, .int w)]) K dX4_kinds_30 (by decide) rfl ?_
      refine q_iload_n K 0 dX4_kinds_31 rfl ?_
      refine q_if_eq 41 K dX4_kinds_32 (by decide) (fun c_0 => absurd c_0 (by decide)) (fun c_0 => ?_)
      refine q_aload_n K 1 dX4_kinds_35 rfl ?_
      refine q_iload_n K 0 dX4_kinds_36 rfl ?_
      refine q_eqi (r_fin 0) (by decide) ?_
      refine q_wI (q0 := 0) (As := [.int (r_fin 0)]) (rest := []) K kv_X4_finds (c_X4_finds (k_l M) (k_Z M) B X D 0 (by omega)) rfl rfl ml_X4_48 rfl rfl (Nat.le_of_ble_eq_true rfl) ⟨Nat.le_of_ble_eq_true rfl, Nat.le_of_ble_eq_true rfl⟩ dX4_kinds_37 (fun r_27 w2 h_26 => ?_)
      obtain ⟨e_r_27, rfl⟩ := h_26
      refine q_eqi (r_fin 0) e_r_27 ?_
      refine q_ws (ws' := w_M (k_Z M) B (a_F X, a_K X, a_kp X, fd_up (a_fd X) 0, a_tp X, a_S X) D) rfl ?_
      exact Rt _ _ (r_fin 0) (w_M (k_Z M) B (a_F X, a_K X, a_kp X, fd_up (a_fd X) 0, a_tp X, a_S X) D) dX4_kinds_40 rfl (⟨D, by simp only [o_kinds, o_with, a_fin, if_neg i_r_2] <;> rfl, by simp only [o_kinds, o_with, a_fin, if_neg i_r_2] <;> rfl⟩)
theorem kv_X4_kinds : k_iv yX4_kinds cX4_kinds 7 (some .int) 2 := ⟨⟨im_X4_kinds, se_X4_kinds⟩, in_X4, co_X4_kinds, by decide +kernel⟩
