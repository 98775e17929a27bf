set_option maxHeartbeats 4000000 in
set_option maxRecDepth 100000 in
theorem c_X4_has3 (l : Launch) (Z : kz_Z) (B : Nat → Nat) (X : AS) (D : DJ) (hq : (a_tp X).2 ≤ 120) (f e : Nat) (hfr : d_fr D = nI f) (hto : d_to D = nI e) (hfe : f ≤ e) (he : e ≤ 121) (i : Nat) (hi : i ≤ 10) (a b c : Int32) : KI l Z yX4_has3 cX4_has3 5 .boolean 1 21 [.ref (B 0), .int (nI i), .int a, .int b, .int c] (w_M Z B X D) (fun r w2 => (r = if p_w3 (a_tp X) f i a b c then 1 else 0) ∧ w2 = w_M Z B X D) := by
  refine ki_of (by decide) [(0, .ref (B 0)), (1, .int (nI i)), (2, .int a), (3, .int b), (4, .int c)] (Nat.le_of_ble_eq_true rfl) rfl ?_
  intro M e1 e2 K Rt
  subst e1 e2
  refine q_aload_n K 0 dX4_has3_0 rfl ?_
  refine q_aload_n K 0 dX4_has3_1 rfl ?_
  refine q_get (.int (d_fr D)) K ws_X4 0 rfl rfl 13 (by decide) fl_X4_200 rfl dX4_has3_2 ?_
  refine q_eqi (nI f) hfr ?_
  refine q_iload_n K 1 dX4_has3_5 rfl ?_
  refine q_iadd K dX4_has3_6 ?_
  refine q_eqi (nI (f + i)) (kn_add f i) ?_
  refine q_wI (q0 := 0) (As := [.int (nI (f + i))]) (rest := []) K kv_X4_byteAt (c_X4_byteAt (k_l M) (k_Z M) B X D hq (f + i) (by omega)) rfl rfl ml_X4_203 rfl rfl (Nat.le_of_ble_eq_true rfl) ⟨Nat.le_of_ble_eq_true rfl, Nat.le_of_ble_eq_true rfl⟩ dX4_has3_7 (fun r_2 w2 h_1 => ?_)
  obtain ⟨e_r_2, rfl⟩ := h_1
  refine q_eqi (p_at (a_tp X) (f + i)) e_r_2 ?_
  refine q_iload_n K 2 dX4_has3_10 rfl ?_
  refine q_icmp_ne 51 K dX4_has3_11 (by decide) (fun c_3 => ?_) (fun c_3 => ?_)
  · refine q_iconst 0 K dX4_has3_51 rfl ?_
    exact Rt _ _ 0 (w_M (k_Z M) B X D) dX4_has3_52 rfl (⟨(if_neg (fun h9 => c_3 h9.1)).symm, rfl⟩)
  · refine q_aload_n K 0 dX4_has3_14 rfl ?_
    refine q_aload_n K 0 dX4_has3_15 rfl ?_
    refine q_get (.int (d_fr D)) K ws_X4 0 rfl rfl 13 (by decide) fl_X4_200 rfl dX4_has3_16 ?_
    refine q_eqi (nI f) hfr ?_
    refine q_iload_n K 1 dX4_has3_19 rfl ?_
    refine q_iadd K dX4_has3_20 ?_
    refine q_eqi (nI (f + i)) (kn_add f i) ?_
    refine q_iconst 1 K dX4_has3_21 rfl ?_
    refine q_iadd K dX4_has3_22 ?_
    refine q_eqi (nI ((f + i) + 1)) (kn_add (f + i) 1) ?_
    refine q_wI (q0 := 0) (As := [.int (nI ((f + i) + 1))]) (rest := []) K kv_X4_byteAt (c_X4_byteAt (k_l M) (k_Z M) B X D hq ((f + i) + 1) (by omega)) rfl rfl ml_X4_203 rfl rfl (Nat.le_of_ble_eq_true rfl) ⟨Nat.le_of_ble_eq_true rfl, Nat.le_of_ble_eq_true rfl⟩ dX4_has3_23 (fun r_5 w2 h_4 => ?_)
    obtain ⟨e_r_5, rfl⟩ := h_4
    refine q_eqi (p_at (a_tp X) ((f + i) + 1)) e_r_5 ?_
    refine q_iload_n K 3 dX4_has3_26 rfl ?_
    refine q_icmp_ne 51 K dX4_has3_27 (by decide) (fun c_6 => ?_) (fun c_6 => ?_)
    · refine q_iconst 0 K dX4_has3_51 rfl ?_
      exact Rt _ _ 0 (w_M (k_Z M) B X D) dX4_has3_52 rfl (⟨(if_neg (fun h9 => c_6 h9.2.1)).symm, rfl⟩)
    · refine q_aload_n K 0 dX4_has3_30 rfl ?_
      refine q_aload_n K 0 dX4_has3_31 rfl ?_
      refine q_get (.int (d_fr D)) K ws_X4 0 rfl rfl 13 (by decide) fl_X4_200 rfl dX4_has3_32 ?_
      refine q_eqi (nI f) hfr ?_
      refine q_iload_n K 1 dX4_has3_35 rfl ?_
      refine q_iadd K dX4_has3_36 ?_
      refine q_eqi (nI (f + i)) (kn_add f i) ?_
      refine q_iconst 2 K dX4_has3_37 rfl ?_
      refine q_iadd K dX4_has3_38 ?_
      refine q_eqi (nI ((f + i) + 2)) (kn_add (f + i) 2) ?_
      refine q_wI (q0 := 0) (As := [.int (nI ((f + i) + 2))]) (rest := []) K kv_X4_byteAt (c_X4_byteAt (k_l M) (k_Z M) B X D hq ((f + i) + 2) (by omega)) rfl rfl ml_X4_203 rfl rfl (Nat.le_of_ble_eq_true rfl) ⟨Nat.le_of_ble_eq_true rfl, Nat.le_of_ble_eq_true rfl⟩ dX4_has3_39 (fun r_8 w2 h_7 => ?_)
      obtain ⟨e_r_8, rfl⟩ := h_7
      refine q_eqi (p_at (a_tp X) ((f + i) + 2)) e_r_8 ?_
      refine q_iload K 4 dX4_has3_42 rfl ?_
      refine q_icmp_ne 51 K dX4_has3_44 (by decide) (fun c_9 => ?_) (fun c_9 => ?_)
      · refine q_iconst 0 K dX4_has3_51 rfl ?_
        exact Rt _ _ 0 (w_M (k_Z M) B X D) dX4_has3_52 rfl (⟨(if_neg (fun h9 => c_9 h9.2.2)).symm, rfl⟩)
      · refine q_iconst 1 K dX4_has3_47 rfl ?_
        refine q_goto 52 K dX4_has3_48 (by decide) ?_
        exact Rt _ _ 1 (w_M (k_Z M) B X D) dX4_has3_52 rfl (⟨(if_pos ⟨c_3, c_6, c_9⟩).symm, rfl⟩)
theorem kv_X4_has3 : k_iv yX4_has3 cX4_has3 5 (some .boolean) 4 := ⟨⟨im_X4_has3, se_X4_has3⟩, in_X4, co_X4_has3, by decide +kernel⟩
set_option maxHeartbeats 4000000 in
set_option maxRecDepth 100000 in
theorem c_X4_isWord (l : Launch) (Z : kz_Z) (B : Nat → Nat) (X : AS) (D : DJ) (hq : (a_tp X).2 ≤ 120) (f e : Nat) (hfr : d_fr D = nI f) (hto : d_to D = nI e) (hfe : f ≤ e) (he : e ≤ 121) (n : Nat) (hn : n ≤ 10) : KI l Z yX4_isWord cX4_isWord 2 .boolean 0 0 [.ref (B 0), .int (nI n)] (w_M Z B X D) (fun r w2 => (r = if p_wd D f e n then 1 else 0) ∧ w2 = w_M Z B X D) := by
  refine ki_of (by decide) [(0, .ref (B 0)), (1, .int (nI n))] (Nat.le_of_ble_eq_true rfl) rfl ?_
  intro M e1 e2 K Rt
  subst e1 e2
  refine q_aload_n K 0 dX4_isWord_0 rfl ?_
  refine q_get (.int (d_tk D)) K ws_X4 0 rfl rfl 12 (by decide) fl_X4_212 rfl dX4_isWord_1 ?_
  refine q_iconst 1 K dX4_isWord_4 rfl ?_
  refine q_icmp_ne 25 K dX4_isWord_5 (by decide) (fun c_1 => ?_) (fun c_1 => ?_)
  · refine q_iconst 0 K dX4_isWord_25 rfl ?_
    exact Rt _ _ 0 (w_M (k_Z M) B X D) dX4_isWord_26 rfl (⟨(if_neg (fun h9 => c_1 h9.1)).symm, rfl⟩)
  · refine q_aload_n K 0 dX4_isWord_8 rfl ?_
    refine q_get (.int (d_to D)) K ws_X4 0 rfl rfl 14 (by decide) fl_X4_197 rfl dX4_isWord_9 ?_
    refine q_eqi (nI e) hto ?_
    refine q_aload_n K 0 dX4_isWord_12 rfl ?_
    refine q_get (.int (d_fr D)) K ws_X4 0 rfl rfl 13 (by decide) fl_X4_200 rfl dX4_isWord_13 ?_
    refine q_eqi (nI f) hfr ?_
    refine q_isub K dX4_isWord_16 ?_
    refine q_iload_n K 1 dX4_isWord_17 rfl ?_
    refine q_icmp_ne 25 K dX4_isWord_18 (by decide) (fun c_2 => ?_) (fun c_2 => ?_)
    · refine q_iconst 0 K dX4_isWord_25 rfl ?_
      exact Rt _ _ 0 (w_M (k_Z M) B X D) dX4_isWord_26 rfl (⟨(if_neg (fun h9 => c_2 ((kn_subn hfe (by omega) (by omega)).mpr h9.2))).symm, rfl⟩)
    · refine q_iconst 1 K dX4_isWord_21 rfl ?_
      refine q_goto 26 K dX4_isWord_22 (by decide) ?_
      exact Rt _ _ 1 (w_M (k_Z M) B X D) dX4_isWord_26 rfl (⟨(if_pos ⟨c_1, (kn_subn hfe (by omega) (by omega)).mp c_2⟩).symm, rfl⟩)
theorem kv_X4_isWord : k_iv yX4_isWord cX4_isWord 2 (some .boolean) 1 := ⟨⟨im_X4_isWord, se_X4_isWord⟩, in_X4, co_X4_isWord, by decide +kernel⟩
set_option maxHeartbeats 4000000 in
set_option maxRecDepth 100000 in
theorem c_X4_fails (l : Launch) (Z : kz_Z) (B : Nat → Nat) (X : AS) (D : DJ) : KI l Z yX4_fails cX4_fails 1 .boolean 0 0 [.ref (B 0)] (w_M Z B X D) (fun r w2 => r = 0 ∧ w2 = w_M Z B X (d_setfa D (d_fr D))) := by
  refine ki_of (by decide) [(0, .ref (B 0))] (Nat.le_of_ble_eq_true rfl) rfl ?_
  intro M e1 e2 K Rt
  subst e1 e2
  refine q_aload_n K 0 dX4_fails_0 rfl ?_
  refine q_aload_n K 0 dX4_fails_1 rfl ?_
  refine q_get (.int (d_fr D)) K ws_X4 0 rfl rfl 13 (by decide) fl_X4_200 rfl dX4_fails_2 ?_
  refine q_put (ty := .int) (ws' := w_M (k_Z M) B X (d_bf D, d_as D, d_gn D, d_tk D, d_fr D, d_to D, d_vl D, d_fr D)) K ws_X4 tyX4 tyX4_ok nmX4 0 rfl rfl 16 (by decide) fl_X4_218 rfl (by decide +kernel) rfl rfl (Nat.le_of_ble_eq_true rfl) rfl dX4_fails_5 ?_
  refine q_iconst 0 K dX4_fails_8 rfl ?_
  exact Rt _ _ 0 (w_M (k_Z M) B X (d_bf D, d_as D, d_gn D, d_tk D, d_fr D, d_to D, d_vl D, d_fr D)) dX4_fails_9 rfl (⟨rfl, rfl⟩)
theorem kv_X4_fails : k_iv yX4_fails cX4_fails 1 (some .boolean) 0 := ⟨⟨im_X4_fails, se_X4_fails⟩, in_X4, co_X4_fails, by decide +kernel⟩
set_option maxHeartbeats 4000000 in
set_option maxRecDepth 100000 in
theorem c_X4_isFour (l : Launch) (Z : kz_Z) (B : Nat → Nat) (X : AS) (D : DJ) (hq : (a_tp X).2 ≤ 120) (f e : Nat) (hfr : d_fr D = nI f) (hto : d_to D = nI e) (hfe : f ≤ e) (he : e ≤ 121) (a b c d : Int32) : KI l Z yX4_isFour cX4_isFour 5 .boolean 2 45 [.ref (B 0), .int a, .int b, .int c, .int d] (w_M Z B X D) (fun r w2 => (r = if p_wd D f e 4 ∧ p_w3 (a_tp X) f 0 a b c ∧ p_w3 (a_tp X) f 1 b c d then 1 else 0) ∧ w2 = w_M Z B X D) := by
  refine ki_of (by decide) [(0, .ref (B 0)), (1, .int a), (2, .int b), (3, .int c), (4, .int d)] (Nat.le_of_ble_eq_true rfl) rfl ?_
  intro M e1 e2 K Rt
  subst e1 e2
  refine q_aload_n K 0 dX4_isFour_0 rfl ?_
  refine q_iconst 4 K dX4_isFour_1 rfl ?_
  refine q_wI (q0 := 0) (As := [.int 4]) (rest := []) K kv_X4_isWord (c_X4_isWord (k_l M) (k_Z M) B X D hq f e hfr hto hfe he 4 (by omega)) rfl rfl ml_X4_221 rfl rfl (Nat.le_of_ble_eq_true rfl) ⟨Nat.le_of_ble_eq_true rfl, Nat.le_of_ble_eq_true rfl⟩ dX4_isFour_2 (fun r_2 w2 h_1 => ?_)
  obtain ⟨e_r_2, rfl⟩ := h_1
  refine q_if_eq 35 K dX4_isFour_5 (by decide) (fun c_3 => ?_) (fun c_3 => ?_)
  · have c_3 : ¬ (p_wd D f e 4) := (kn_eq e_r_2).mp c_3
    refine q_iconst 0 K dX4_isFour_35 rfl ?_
    exact Rt _ _ 0 (w_M (k_Z M) B X D) dX4_isFour_36 rfl (⟨(if_neg (fun h9 => c_3 h9.1)).symm, rfl⟩)
  · have c_3 : p_wd D f e 4 := (kn_ne e_r_2).mp c_3
    refine q_aload_n K 0 dX4_isFour_8 rfl ?_
    refine q_iconst 0 K dX4_isFour_9 rfl ?_
    refine q_iload_n K 1 dX4_isFour_10 rfl ?_
    refine q_iload_n K 2 dX4_isFour_11 rfl ?_
    refine q_iload_n K 3 dX4_isFour_12 rfl ?_
    refine q_wI (q0 := 0) (As := [.int 0, .int a, .int b, .int c]) (rest := []) K kv_X4_has3 (c_X4_has3 (k_l M) (k_Z M) B X D hq f e hfr hto hfe he 0 (by omega) a b c) rfl rfl ml_X4_224 rfl rfl (Nat.le_of_ble_eq_true rfl) ⟨Nat.le_of_ble_eq_true rfl, Nat.le_of_ble_eq_true rfl⟩ dX4_isFour_13 (fun r_5 w2 h_4 => ?_)
    obtain ⟨e_r_5, rfl⟩ := h_4
    refine q_if_eq 35 K dX4_isFour_16 (by decide) (fun c_6 => ?_) (fun c_6 => ?_)
    · have c_6 : ¬ (p_w3 (a_tp X) f 0 a b c) := (kn_eq e_r_5).mp c_6
      refine q_iconst 0 K dX4_isFour_35 rfl ?_
      exact Rt _ _ 0 (w_M (k_Z M) B X D) dX4_isFour_36 rfl (⟨(if_neg (fun h9 => c_6 h9.2.1)).symm, rfl⟩)
    · have c_6 : p_w3 (a_tp X) f 0 a b c := (kn_ne e_r_5).mp c_6
      refine q_aload_n K 0 dX4_isFour_19 rfl ?_
      refine q_iconst 1 K dX4_isFour_20 rfl ?_
      refine q_iload_n K 2 dX4_isFour_21 rfl ?_
      refine q_iload_n K 3 dX4_isFour_22 rfl ?_
      refine q_iload K 4 dX4_isFour_23 rfl ?_
      refine q_wI (q0 := 0) (As := [.int 1, .int b, .int c, .int d]) (rest := []) K kv_X4_has3 (c_X4_has3 (k_l M) (k_Z M) B X D hq f e hfr hto hfe he 1 (by omega) b c d) rfl rfl ml_X4_224 rfl rfl (Nat.le_of_ble_eq_true rfl) ⟨Nat.le_of_ble_eq_true rfl, Nat.le_of_ble_eq_true rfl⟩ dX4_isFour_25 (fun r_8 w2 h_7 => ?_)
      obtain ⟨e_r_8, rfl⟩ := h_7
      refine q_if_eq 35 K dX4_isFour_28 (by decide) (fun c_9 => ?_) (fun c_9 => ?_)
      · have c_9 : ¬ (p_w3 (a_tp X) f 1 b c d) := (kn_eq e_r_8).mp c_9
        refine q_iconst 0 K dX4_isFour_35 rfl ?_
        exact Rt _ _ 0 (w_M (k_Z M) B X D) dX4_isFour_36 rfl (⟨(if_neg (fun h9 => c_9 h9.2.2)).symm, rfl⟩)
      · have c_9 : p_w3 (a_tp X) f 1 b c d := (kn_ne e_r_8).mp c_9
        refine q_iconst 1 K dX4_isFour_31 rfl ?_
        refine q_goto 36 K dX4_isFour_32 (by decide) ?_
        exact Rt _ _ 1 (w_M (k_Z M) B X D) dX4_isFour_36 rfl (⟨(if_pos ⟨c_3, c_6, c_9⟩).symm, rfl⟩)
theorem kv_X4_isFour : k_iv yX4_isFour cX4_isFour 5 (some .boolean) 4 := ⟨⟨im_X4_isFour, se_X4_isFour⟩, in_X4, co_X4_isFour, by decide +kernel⟩
set_option maxHeartbeats 4000000 in
set_option maxRecDepth 100000 in
theorem c_X4_isFive (l : Launch) (Z : kz_Z) (B : Nat → Nat) (X : AS) (D : DJ) (hq : (a_tp X).2 ≤ 120) (f e : Nat) (hfr : d_fr D = nI f) (hto : d_to D = nI e) (hfe : f ≤ e) (he : e ≤ 121) (a b c d g : Int32) : KI l Z yX4_isFive cX4_isFive 6 .boolean 2 45 [.ref (B 0), .int a, .int b, .int c, .int d, .int g] (w_M Z B X D) (fun r w2 => (r = if p_wd D f e 5 ∧ p_w3 (a_tp X) f 0 a b c ∧ p_w3 (a_tp X) f 2 c d g then 1 else 0) ∧ w2 = w_M Z B X D) := by
  refine ki_of (by decide) [(0, .ref (B 0)), (1, .int a), (2, .int b), (3, .int c), (4, .int d), (5, .int g)] (Nat.le_of_ble_eq_true rfl) rfl ?_
  intro M e1 e2 K Rt
  subst e1 e2
  refine q_aload_n K 0 dX4_isFive_0 rfl ?_
  refine q_iconst 5 K dX4_isFive_1 rfl ?_
  refine q_wI (q0 := 0) (As := [.int 5]) (rest := []) K kv_X4_isWord (c_X4_isWord (k_l M) (k_Z M) B X D hq f e hfr hto hfe he 5 (by omega)) rfl rfl ml_X4_221 rfl rfl (Nat.le_of_ble_eq_true rfl) ⟨Nat.le_of_ble_eq_true rfl, Nat.le_of_ble_eq_true rfl⟩ dX4_isFive_2 (fun r_2 w2 h_1 => ?_)
  obtain ⟨e_r_2, rfl⟩ := h_1
  refine q_if_eq 36 K dX4_isFive_5 (by decide) (fun c_3 => ?_) (fun c_3 => ?_)
  · have c_3 : ¬ (p_wd D f e 5) := (kn_eq e_r_2).mp c_3
    refine q_iconst 0 K dX4_isFive_36 rfl ?_
    exact Rt _ _ 0 (w_M (k_Z M) B X D) dX4_isFive_37 rfl (⟨(if_neg (fun h9 => c_3 h9.1)).symm, rfl⟩)
  · have c_3 : p_wd D f e 5 := (kn_ne e_r_2).mp c_3
    refine q_aload_n K 0 dX4_isFive_8 rfl ?_
    refine q_iconst 0 K dX4_isFive_9 rfl ?_
    refine q_iload_n K 1 dX4_isFive_10 rfl ?_
    refine q_iload_n K 2 dX4_isFive_11 rfl ?_
    refine q_iload_n K 3 dX4_isFive_12 rfl ?_
    refine q_wI (q0 := 0) (As := [.int 0, .int a, .int b, .int c]) (rest := []) K kv_X4_has3 (c_X4_has3 (k_l M) (k_Z M) B X D hq f e hfr hto hfe he 0 (by omega) a b c) rfl rfl ml_X4_224 rfl rfl (Nat.le_of_ble_eq_true rfl) ⟨Nat.le_of_ble_eq_true rfl, Nat.le_of_ble_eq_true rfl⟩ dX4_isFive_13 (fun r_5 w2 h_4 => ?_)
    obtain ⟨e_r_5, rfl⟩ := h_4
    refine q_if_eq 36 K dX4_isFive_16 (by decide) (fun c_6 => ?_) (fun c_6 => ?_)
    · have c_6 : ¬ (p_w3 (a_tp X) f 0 a b c) := (kn_eq e_r_5).mp c_6
      refine q_iconst 0 K dX4_isFive_36 rfl ?_
      exact Rt _ _ 0 (w_M (k_Z M) B X D) dX4_isFive_37 rfl (⟨(if_neg (fun h9 => c_6 h9.2.1)).symm, rfl⟩)
    · have c_6 : p_w3 (a_tp X) f 0 a b c := (kn_ne e_r_5).mp c_6
      refine q_aload_n K 0 dX4_isFive_19 rfl ?_
      refine q_iconst 2 K dX4_isFive_20 rfl ?_
      refine q_iload_n K 3 dX4_isFive_21 rfl ?_
      refine q_iload K 4 dX4_isFive_22 rfl ?_
      refine q_iload K 5 dX4_isFive_24 rfl ?_
      refine q_wI (q0 := 0) (As := [.int 2, .int c, .int d, .int g]) (rest := []) K kv_X4_has3 (c_X4_has3 (k_l M) (k_Z M) B X D hq f e hfr hto hfe he 2 (by omega) c d g) rfl rfl ml_X4_224 rfl rfl (Nat.le_of_ble_eq_true rfl) ⟨Nat.le_of_ble_eq_true rfl, Nat.le_of_ble_eq_true rfl⟩ dX4_isFive_26 (fun r_8 w2 h_7 => ?_)
      obtain ⟨e_r_8, rfl⟩ := h_7
      refine q_if_eq 36 K dX4_isFive_29 (by decide) (fun c_9 => ?_) (fun c_9 => ?_)
      · have c_9 : ¬ (p_w3 (a_tp X) f 2 c d g) := (kn_eq e_r_8).mp c_9
        refine q_iconst 0 K dX4_isFive_36 rfl ?_
        exact Rt _ _ 0 (w_M (k_Z M) B X D) dX4_isFive_37 rfl (⟨(if_neg (fun h9 => c_9 h9.2.2)).symm, rfl⟩)
      · have c_9 : p_w3 (a_tp X) f 2 c d g := (kn_ne e_r_8).mp c_9
        refine q_iconst 1 K dX4_isFive_32 rfl ?_
        refine q_goto 37 K dX4_isFive_33 (by decide) ?_
        exact Rt _ _ 1 (w_M (k_Z M) B X D) dX4_isFive_37 rfl (⟨(if_pos ⟨c_3, c_6, c_9⟩).symm, rfl⟩)
theorem kv_X4_isFive : k_iv yX4_isFive cX4_isFive 6 (some .boolean) 5 := ⟨⟨im_X4_isFive, se_X4_isFive⟩, in_X4, co_X4_isFive, by decide +kernel⟩
set_option maxHeartbeats 4000000 in
set_option maxRecDepth 100000 in
theorem c_X4_isSix (l : Launch) (Z : kz_Z) (B : Nat → Nat) (X : AS) (D : DJ) (hq : (a_tp X).2 ≤ 120) (f e : Nat) (hfr : d_fr D = nI f) (hto : d_to D = nI e) (hfe : f ≤ e) (he : e ≤ 121) (a b c d g h : Int32) : KI l Z yX4_isSix cX4_isSix 7 .boolean 2 45 [.ref (B 0), .int a, .int b, .int c, .int d, .int g, .int h] (w_M Z B X D) (fun r w2 => (r = if p_wd D f e 6 ∧ p_w3 (a_tp X) f 0 a b c ∧ p_w3 (a_tp X) f 3 d g h then 1 else 0) ∧ w2 = w_M Z B X D) := by
  refine ki_of (by decide) [(0, .ref (B 0)), (1, .int a), (2, .int b), (3, .int c), (4, .int d), (5, .int g), (6, .int h)] (Nat.le_of_ble_eq_true rfl) rfl ?_
  intro M e1 e2 K Rt
  subst e1 e2
  refine q_aload_n K 0 dX4_isSix_0 rfl ?_
  refine q_bipush 6 K dX4_isSix_1 rfl ?_
  refine q_wI (q0 := 0) (As := [.int 6]) (rest := []) K kv_X4_isWord (c_X4_isWord (k_l M) (k_Z M) B X D hq f e hfr hto hfe he 6 (by omega)) rfl rfl ml_X4_221 rfl rfl (Nat.le_of_ble_eq_true rfl) ⟨Nat.le_of_ble_eq_true rfl, Nat.le_of_ble_eq_true rfl⟩ dX4_isSix_3 (fun r_2 w2 h_1 => ?_)
  obtain ⟨e_r_2, rfl⟩ := h_1
  refine q_if_eq 38 K dX4_isSix_6 (by decide) (fun c_3 => ?_) (fun c_3 => ?_)
  · have c_3 : ¬ (p_wd D f e 6) := (kn_eq e_r_2).mp c_3
    refine q_iconst 0 K dX4_isSix_38 rfl ?_
    exact Rt _ _ 0 (w_M (k_Z M) B X D) dX4_isSix_39 rfl (⟨(if_neg (fun h9 => c_3 h9.1)).symm, rfl⟩)
  · have c_3 : p_wd D f e 6 := (kn_ne e_r_2).mp c_3
    refine q_aload_n K 0 dX4_isSix_9 rfl ?_
    refine q_iconst 0 K dX4_isSix_10 rfl ?_
    refine q_iload_n K 1 dX4_isSix_11 rfl ?_
    refine q_iload_n K 2 dX4_isSix_12 rfl ?_
    refine q_iload_n K 3 dX4_isSix_13 rfl ?_
    refine q_wI (q0 := 0) (As := [.int 0, .int a, .int b, .int c]) (rest := []) K kv_X4_has3 (c_X4_has3 (k_l M) (k_Z M) B X D hq f e hfr hto hfe he 0 (by omega) a b c) rfl rfl ml_X4_224 rfl rfl (Nat.le_of_ble_eq_true rfl) ⟨Nat.le_of_ble_eq_true rfl, Nat.le_of_ble_eq_true rfl⟩ dX4_isSix_14 (fun r_5 w2 h_4 => ?_)
    obtain ⟨e_r_5, rfl⟩ := h_4
    refine q_if_eq 38 K dX4_isSix_17 (by decide) (fun c_6 => ?_) (fun c_6 => ?_)
    · have c_6 : ¬ (p_w3 (a_tp X) f 0 a b c) := (kn_eq e_r_5).mp c_6
      refine q_iconst 0 K dX4_isSix_38 rfl ?_
      exact Rt _ _ 0 (w_M (k_Z M) B X D) dX4_isSix_39 rfl (⟨(if_neg (fun h9 => c_6 h9.2.1)).symm, rfl⟩)
    · have c_6 : p_w3 (a_tp X) f 0 a b c := (kn_ne e_r_5).mp c_6
      refine q_aload_n K 0 dX4_isSix_20 rfl ?_
      refine q_iconst 3 K dX4_isSix_21 rfl ?_
      refine q_iload K 4 dX4_isSix_22 rfl ?_
      refine q_iload K 5 dX4_isSix_24 rfl ?_
      refine q_iload K 6 dX4_isSix_26 rfl ?_
      refine q_wI (q0 := 0) (As := [.int 3, .int d, .int g, .int h]) (rest := []) K kv_X4_has3 (c_X4_has3 (k_l M) (k_Z M) B X D hq f e hfr hto hfe he 3 (by omega) d g h) rfl rfl ml_X4_224 rfl rfl (Nat.le_of_ble_eq_true rfl) ⟨Nat.le_of_ble_eq_true rfl, Nat.le_of_ble_eq_true rfl⟩ dX4_isSix_28 (fun r_8 w2 h_7 => ?_)
      obtain ⟨e_r_8, rfl⟩ := h_7
      refine q_if_eq 38 K dX4_isSix_31 (by decide) (fun c_9 => ?_) (fun c_9 => ?_)
      · have c_9 : ¬ (p_w3 (a_tp X) f 3 d g h) := (kn_eq e_r_8).mp c_9
        refine q_iconst 0 K dX4_isSix_38 rfl ?_
        exact Rt _ _ 0 (w_M (k_Z M) B X D) dX4_isSix_39 rfl (⟨(if_neg (fun h9 => c_9 h9.2.2)).symm, rfl⟩)
      · have c_9 : p_w3 (a_tp X) f 3 d g h := (kn_ne e_r_8).mp c_9
        refine q_iconst 1 K dX4_isSix_34 rfl ?_
        refine q_goto 39 K dX4_isSix_35 (by decide) ?_
        exact Rt _ _ 1 (w_M (k_Z M) B X D) dX4_isSix_39 rfl (⟨(if_pos ⟨c_3, c_6, c_9⟩).symm, rfl⟩)
theorem kv_X4_isSix : k_iv yX4_isSix cX4_isSix 7 (some .boolean) 6 := ⟨⟨im_X4_isSix, se_X4_isSix⟩, in_X4, co_X4_isSix, by decide +kernel⟩
set_option maxHeartbeats 4000000 in
set_option maxRecDepth 100000 in
theorem c_X4_isNumber (l : Launch) (Z : kz_Z) (B : Nat → Nat) (X : AS) (D : DJ) (lo hi : Int32) : KI l Z yX4_isNumber cX4_isNumber 3 .boolean 1 25 [.ref (B 0), .int lo, .int hi] (w_M Z B X D) (fun r w2 => (d_tk D = 2 ∧ inR (d_vl D) lo hi ∧ r = 1 ∧ w2 = w_M Z B X D) ∨ (¬ (d_tk D = 2 ∧ inR (d_vl D) lo hi) ∧ r = 0 ∧ w2 = w_M Z B X (d_setfa D (d_fr D)))) := by
  refine ki_of (by decide) [(0, .ref (B 0)), (1, .int lo), (2, .int hi)] (Nat.le_of_ble_eq_true rfl) rfl ?_
  intro M e1 e2 K Rt
  subst e1 e2
  refine q_aload_n K 0 dX4_isNumber_0 rfl ?_
  refine q_get (.int (d_tk D)) K ws_X4 0 rfl rfl 12 (by decide) fl_X4_212 rfl dX4_isNumber_1 ?_
  refine q_iconst 2 K dX4_isNumber_4 rfl ?_
  refine q_icmp_ne 23 K dX4_isNumber_5 (by decide) (fun c_1 => ?_) (fun c_1 => ?_)
  · refine q_aload_n K 0 dX4_isNumber_23 rfl ?_
    refine q_wI (q0 := 0) (As := []) (rest := []) K kv_X4_fails (c_X4_fails (k_l M) (k_Z M) B X D) rfl rfl ml_X4_227 rfl rfl (Nat.le_of_ble_eq_true rfl) ⟨Nat.le_of_ble_eq_true rfl, Nat.le_of_ble_eq_true rfl⟩ dX4_isNumber_24 (fun r_3 w2 h_2 => ?_)
    obtain ⟨e_r_3, rfl⟩ := h_2
    refine q_eqi 0 e_r_3 ?_
    refine q_ws (ws' := w_M (k_Z M) B X (d_bf D, d_as D, d_gn D, d_tk D, d_fr D, d_to D, d_vl D, d_fr D)) rfl ?_
    refine q_if_eq 34 K dX4_isNumber_27 (by decide) (fun c_0 => ?_) (fun c_0 => absurd c_0 (by decide))
    refine q_iconst 0 K dX4_isNumber_34 rfl ?_
    exact Rt _ _ 0 (w_M (k_Z M) B X (d_bf D, d_as D, d_gn D, d_tk D, d_fr D, d_to D, d_vl D, d_fr D)) dX4_isNumber_35 rfl (Or.inr ⟨fun h9 => c_1 h9.1, rfl, rfl⟩)
  · refine q_aload_n K 0 dX4_isNumber_8 rfl ?_
    refine q_get (.int (d_vl D)) K ws_X4 0 rfl rfl 15 (by decide) fl_X4_215 rfl dX4_isNumber_9 ?_
    refine q_i2l K dX4_isNumber_12 ?_
    refine q_iload_n K 1 dX4_isNumber_13 rfl ?_
    refine q_i2l K dX4_isNumber_14 ?_
    refine q_iload_n K 2 dX4_isNumber_15 rfl ?_
    refine q_i2l K dX4_isNumber_16 ?_
    refine q_cp (rest := []) K ks_X4_isIn (c_X4_isIn (k_l M) (k_Z M) ((d_vl D).toInt64) lo.toInt64 hi.toInt64) ml_X4_43 rfl rfl (Nat.le_of_ble_eq_true rfl) ⟨Nat.le_of_ble_eq_true rfl, Nat.le_of_ble_eq_true rfl⟩ dX4_isNumber_17 (fun r_4 e_r_4 => ?_)
    have e_r_4 : r_4 = if inR (d_vl D) lo hi then 1 else 0 := kn_if e_r_4 (kn_i64 (v := (d_vl D)) (lo := lo) (hi := hi))
    refine q_if_ne 30 K dX4_isNumber_20 (by decide) (fun c_5 => ?_) (fun c_5 => ?_)
    · have c_5 : inR (d_vl D) lo hi := (kn_ne e_r_4).mp c_5
      refine q_iconst 1 K dX4_isNumber_30 rfl ?_
      refine q_goto 35 K dX4_isNumber_31 (by decide) ?_
      exact Rt _ _ 1 (w_M (k_Z M) B X D) dX4_isNumber_35 rfl (Or.inl ⟨c_1, c_5, rfl, rfl⟩)
    · have c_5 : ¬ (inR (d_vl D) lo hi) := (kn_eq e_r_4).mp c_5
      refine q_aload_n K 0 dX4_isNumber_23 rfl ?_
      refine q_wI (q0 := 0) (As := []) (rest := []) K kv_X4_fails (c_X4_fails (k_l M) (k_Z M) B X D) rfl rfl ml_X4_227 rfl rfl (Nat.le_of_ble_eq_true rfl) ⟨Nat.le_of_ble_eq_true rfl, Nat.le_of_ble_eq_true rfl⟩ dX4_isNumber_24 (fun r_7 w2 h_6 => ?_)
      obtain ⟨e_r_7, rfl⟩ := h_6
      refine q_eqi 0 e_r_7 ?_
      refine q_ws (ws' := w_M (k_Z M) B X (d_bf D, d_as D, d_gn D, d_tk D, d_fr D, d_to D, d_vl D, d_fr D)) rfl ?_
      refine q_if_eq 34 K dX4_isNumber_27 (by decide) (fun c_0 => ?_) (fun c_0 => absurd c_0 (by decide))
      refine q_iconst 0 K dX4_isNumber_34 rfl ?_
      exact Rt _ _ 0 (w_M (k_Z M) B X (d_bf D, d_as D, d_gn D, d_tk D, d_fr D, d_to D, d_vl D, d_fr D)) dX4_isNumber_35 rfl (Or.inr ⟨fun h9 => c_5 h9.2, rfl, rfl⟩)
theorem kv_X4_isNumber : k_iv yX4_isNumber cX4_isNumber 3 (some .boolean) 2 := ⟨⟨im_X4_isNumber, se_X4_isNumber⟩, in_X4, co_X4_isNumber, by decide +kernel⟩
