set_option maxHeartbeats 4000000 in
set_option maxRecDepth 100000 in
theorem c_X1_isMissing (l : Launch) (Z : kz_Z) (b : Nat → Nat) (S : SS) : KI l Z yX1_isMissing cX1_isMissing 1 .boolean 0 0 [.ref (b 0)] (w_S Z b S) (fun r w2 => r = (if s_bt S = 0 then 1 else 0) ∧ w2 = w_S Z b S) := by
  refine ki_of (by decide) [(0, .ref (b 0))] (Nat.le_of_ble_eq_true rfl) rfl ?_
  intro M e1 e2 K Rt
  subst e1 e2
  refine q_aload_n K 0 dX1_isMissing_0 rfl ?_
  refine q_get (.int (s_bt S)) K ws_X1 0 rfl rfl 1 (by decide) fl_X1_15 rfl dX1_isMissing_1 ?_
  refine q_cuti (fun v9 : Int32 => v9 = (if (s_bt S) = 0 then 1 else 0)) 12 (st := []) (fun v_1 e_v_1 => ?_) (fun j_v_1 => ?_)
  · exact Rt _ _ v_1 (w_S (k_Z M) b S) dX1_isMissing_12 (kn_narZ e_v_1) (⟨e_v_1, rfl⟩)
  · refine q_if_ne 11 K dX1_isMissing_4 (by decide) (fun c_2 => ?_) (fun c_2 => ?_)
    · refine q_iconst 0 K dX1_isMissing_11 rfl ?_
      exact j_v_1 _ (if_neg c_2).symm
    · refine q_iconst 1 K dX1_isMissing_7 rfl ?_
      refine q_goto 12 K dX1_isMissing_8 (by decide) ?_
      exact j_v_1 _ (if_pos c_2).symm
theorem kv_X1_isMissing : k_iv yX1_isMissing cX1_isMissing 1 (some .boolean) 0 := ⟨⟨im_X1_isMissing, se_X1_isMissing⟩, in_X1, co_X1_isMissing, by decide +kernel⟩
set_option maxHeartbeats 4000000 in
set_option maxRecDepth 100000 in
theorem c_X1_clear (l : Launch) (Z : kz_Z) (b : Nat → Nat) (S : SS) (x y : Int32) : KV l Z yX1_clear cX1_clear 4 0 0 [.ref (b 0), .int x, .int y] (w_S Z b S) (fun w2 => w2 = w_S Z b (s_clr S 40, x, y)) := by
  refine kv_of (by decide) [(0, .ref (b 0)), (1, .int x), (2, .int y)] (Nat.le_of_ble_eq_true rfl) rfl ?_
  intro M e1 e2 K Rt
  subst e1 e2
  refine q_aload_n K 0 dX1_clear_0 rfl ?_
  refine q_iload_n K 1 dX1_clear_1 rfl ?_
  refine q_put (ty := .int) (ws' := w_S (k_Z M) b (s_nm S, x, s_sz S)) K ws_X1 tyX1 tyX1_ok nmX1 0 rfl rfl 1 (by decide) fl_X1_15 rfl (by decide +kernel) rfl rfl (Nat.le_of_ble_eq_true rfl) rfl dX1_clear_2 ?_
  refine q_aload_n K 0 dX1_clear_5 rfl ?_
  refine q_iload_n K 2 dX1_clear_6 rfl ?_
  refine q_put (ty := .int) (ws' := w_S (k_Z M) b (s_nm S, x, y)) K ws_X1 tyX1 tyX1_ok nmX1 0 rfl rfl 2 (by decide) fl_X1_19 rfl (by decide +kernel) rfl rfl (Nat.le_of_ble_eq_true rfl) rfl dX1_clear_7 ?_
  refine q_iconst 0 K dX1_clear_10 rfl ?_
  refine q_istore_n (lv' := [(3, .int 0), (0, .ref (b 0)), (1, .int x), (2, .int y)]) K dX1_clear_11 (by decide) rfl ?_
  refine q_loop (α := Nat) (fun n9 i => i + n9 = 40) 12 (fun i => [(3, .int (nI i)), (0, .ref (b 0)), (1, .int x), (2, .int y)]) (fun i => w_S (k_Z M) b (s_clr S i, x, y)) (fun n_1 i hI_2 ih_3 => ?_) 40 0 (by omega)
  refine q_iload_n K 0 dX1_clear_12 rfl ?_
  refine q_bipush 40 K dX1_clear_13 rfl ?_
  refine q_icmp_ge 31 K dX1_clear_15 (by decide) (fun c_4 => ?_) (fun c_4 => ?_)
  · have c_4n : 40 ≤ i := (nI_leI (a := 40) (b := i) (by omega) (by omega)).mp c_4
    exact Rt _ _ (w_S (k_Z M) b (s_clr S i, x, y)) dX1_clear_31 (by rw [show i = 40 by omega])
  · have c_4n : ¬ (40 ≤ i) := fun h9 => c_4 ((nI_leI (a := 40) (b := i) (by omega) (by omega)).mpr h9)
    refine q_aload_n K 1 dX1_clear_18 rfl ?_
    refine q_get (.ref (b 1)) K ws_X1 0 rfl rfl 0 (by decide) fl_X1_9 rfl dX1_clear_19 ?_
    refine q_iload_n K 0 dX1_clear_22 rfl ?_
    refine q_iconst 0 K dX1_clear_23 rfl ?_
    refine q_iast (ws' := w_S (k_Z M) b (upd (s_clr S i) i 0, x, y)) K 1 rfl (vp_in_nI (n := i) (N := 40) (by omega) (by omega)) (by rw [nI_clamp (n := i) (by omega)] <;> rfl) dX1_clear_24 ?_
    refine q_iinc (nI (i + 1)) (lv' := [(3, .int (nI (i + 1))), (0, .ref (b 0)), (1, .int x), (2, .int y)]) K 0 dX1_clear_25 rfl (kn_inc i) (by decide) rfl ?_
    refine q_goto 12 K dX1_clear_28 (by decide) ?_
    exact ih_3 (n_1 - 1) (i + 1) (by omega) (by omega)
theorem kv_X1_clear : k_iv yX1_clear cX1_clear 4 none 2 := ⟨⟨im_X1_clear, se_X1_clear⟩, in_X1, co_X1_clear, by decide +kernel⟩
set_option maxHeartbeats 4000000 in
set_option maxRecDepth 100000 in
theorem c_X1_put (l : Launch) (Z : kz_Z) (b : Nat → Nat) (S : SS) (i : Nat) (hi : i < 40) (v : Int32) : KV l Z yX1_put cX1_put 3 0 0 [.ref (b 0), .int (nI i), .int v] (w_S Z b S) (fun w2 => w2 = w_S Z b (upd (s_nm S) i (s_cut (s_bt S) v), s_bt S, s_sz S)) := by
  refine kv_of (by decide) [(0, .ref (b 0)), (1, .int (nI i)), (2, .int v)] (Nat.le_of_ble_eq_true rfl) rfl ?_
  intro M e1 e2 K Rt
  subst e1 e2
  refine q_aload_n K 0 dX1_put_0 rfl ?_
  refine q_get (.int (s_bt S)) K ws_X1 0 rfl rfl 1 (by decide) fl_X1_15 rfl dX1_put_1 ?_
  refine q_bipush 8 K dX1_put_4 rfl ?_
  refine q_icmp_ne 20 K dX1_put_6 (by decide) (fun c_1 => ?_) (fun c_1 => ?_)
  · refine q_aload_n K 0 dX1_put_20 rfl ?_
    refine q_get (.int (s_bt S)) K ws_X1 0 rfl rfl 1 (by decide) fl_X1_15 rfl dX1_put_21 ?_
    refine q_bipush 16 K dX1_put_24 rfl ?_
    refine q_icmp_ne 40 K dX1_put_26 (by decide) (fun c_2 => ?_) (fun c_2 => ?_)
    · refine q_aload_n K 0 dX1_put_40 rfl ?_
      refine q_get (.ref (b 1)) K ws_X1 0 rfl rfl 0 (by decide) fl_X1_9 rfl dX1_put_41 ?_
      refine q_iload_n K 1 dX1_put_44 rfl ?_
      refine q_iload_n K 2 dX1_put_45 rfl ?_
      refine q_iast (ws' := w_S (k_Z M) b (upd (s_nm S) i v, s_bt S, s_sz S)) K 1 rfl (vp_in_nI (n := i) (N := 40) (by omega) (by omega)) (by rw [nI_clamp (n := i) (by omega)] <;> rfl) dX1_put_46 ?_
      exact Rt _ _ (w_S (k_Z M) b (upd (s_nm S) i v, s_bt S, s_sz S)) dX1_put_47 (by simp only [s_cut, if_neg c_1, if_neg c_2])
    · refine q_aload_n K 0 dX1_put_29 rfl ?_
      refine q_get (.ref (b 1)) K ws_X1 0 rfl rfl 0 (by decide) fl_X1_9 rfl dX1_put_30 ?_
      refine q_iload_n K 1 dX1_put_33 rfl ?_
      refine q_iload_n K 2 dX1_put_34 rfl ?_
      refine q_i2s K dX1_put_35 ?_
      refine q_iast (ws' := w_S (k_Z M) b (upd (s_nm S) i v.toInt16.toInt32, s_bt S, s_sz S)) K 1 rfl (vp_in_nI (n := i) (N := 40) (by omega) (by omega)) (by rw [nI_clamp (n := i) (by omega)] <;> rfl) dX1_put_36 ?_
      refine q_goto 47 K dX1_put_37 (by decide) ?_
      exact Rt _ _ (w_S (k_Z M) b (upd (s_nm S) i v.toInt16.toInt32, s_bt S, s_sz S)) dX1_put_47 (by simp only [s_cut, if_neg c_1, if_pos c_2])
  · refine q_aload_n K 0 dX1_put_9 rfl ?_
    refine q_get (.ref (b 1)) K ws_X1 0 rfl rfl 0 (by decide) fl_X1_9 rfl dX1_put_10 ?_
    refine q_iload_n K 1 dX1_put_13 rfl ?_
    refine q_iload_n K 2 dX1_put_14 rfl ?_
    refine q_i2b K dX1_put_15 ?_
    refine q_iast (ws' := w_S (k_Z M) b (upd (s_nm S) i v.toInt8.toInt32, s_bt S, s_sz S)) K 1 rfl (vp_in_nI (n := i) (N := 40) (by omega) (by omega)) (by rw [nI_clamp (n := i) (by omega)] <;> rfl) dX1_put_16 ?_
    refine q_goto 47 K dX1_put_17 (by decide) ?_
    exact Rt _ _ (w_S (k_Z M) b (upd (s_nm S) i v.toInt8.toInt32, s_bt S, s_sz S)) dX1_put_47 (by simp only [s_cut, if_pos c_1])
theorem kv_X1_put : k_iv yX1_put cX1_put 3 none 2 := ⟨⟨im_X1_put, se_X1_put⟩, in_X1, co_X1_put, by decide +kernel⟩
set_option maxHeartbeats 4000000 in
set_option maxRecDepth 100000 in
theorem c_X1_hasRow (l : Launch) (Z : kz_Z) (b : Nat → Nat) (S : SS) (f n : Int32) : KI l Z yX1_hasRow cX1_hasRow 3 .boolean 0 0 [.ref (b 0), .int f, .int n] (w_S Z b S) (fun r w2 => r = (if s_has (s_sz S) f n then 1 else 0) ∧ w2 = w_S Z b S) := by
  refine ki_of (by decide) [(0, .ref (b 0)), (1, .int f), (2, .int n)] (Nat.le_of_ble_eq_true rfl) rfl ?_
  intro M e1 e2 K Rt
  subst e1 e2
  refine q_iload_n K 1 dX1_hasRow_0 rfl ?_
  refine q_if_lt 30 K dX1_hasRow_1 (by decide) (fun c_1 => ?_) (fun c_1 => ?_)
  · refine q_iconst 0 K dX1_hasRow_30 rfl ?_
    exact Rt _ _ 0 (w_S (k_Z M) b S) dX1_hasRow_31 rfl (⟨by simp only [s_has, c_1, if_false, if_true, not_false_eq_true, not_true_eq_false, true_and, and_true, false_and, and_false, true_or, or_true, false_or, or_false, and_self, reduceIte], rfl⟩)
  · refine q_iload_n K 2 dX1_hasRow_4 rfl ?_
    refine q_if_lt 30 K dX1_hasRow_5 (by decide) (fun c_2 => ?_) (fun c_2 => ?_)
    · refine q_iconst 0 K dX1_hasRow_30 rfl ?_
      exact Rt _ _ 0 (w_S (k_Z M) b S) dX1_hasRow_31 rfl (⟨by simp only [s_has, c_1, c_2, if_false, if_true, not_false_eq_true, not_true_eq_false, true_and, and_true, false_and, and_false, true_or, or_true, false_or, or_false, and_self, reduceIte], rfl⟩)
    · refine q_iload_n K 2 dX1_hasRow_8 rfl ?_
      refine q_aload_n K 0 dX1_hasRow_9 rfl ?_
      refine q_get (.int (s_sz S)) K ws_X1 0 rfl rfl 2 (by decide) fl_X1_19 rfl dX1_hasRow_10 ?_
      refine q_icmp_gt 30 K dX1_hasRow_13 (by decide) (fun c_3 => ?_) (fun c_3 => ?_)
      · refine q_iconst 0 K dX1_hasRow_30 rfl ?_
        exact Rt _ _ 0 (w_S (k_Z M) b S) dX1_hasRow_31 rfl (⟨by simp only [s_has, c_1, c_2, c_3, if_false, if_true, not_false_eq_true, not_true_eq_false, true_and, and_true, false_and, and_false, true_or, or_true, false_or, or_false, and_self, reduceIte], rfl⟩)
      · refine q_iload_n K 1 dX1_hasRow_16 rfl ?_
        refine q_aload_n K 0 dX1_hasRow_17 rfl ?_
        refine q_get (.int (s_sz S)) K ws_X1 0 rfl rfl 2 (by decide) fl_X1_19 rfl dX1_hasRow_18 ?_
        refine q_iload_n K 2 dX1_hasRow_21 rfl ?_
        refine q_isub K dX1_hasRow_22 ?_
        refine q_icmp_gt 30 K dX1_hasRow_23 (by decide) (fun c_4 => ?_) (fun c_4 => ?_)
        · refine q_iconst 0 K dX1_hasRow_30 rfl ?_
          exact Rt _ _ 0 (w_S (k_Z M) b S) dX1_hasRow_31 rfl (⟨by simp only [s_has, c_1, c_2, c_3, c_4, if_false, if_true, not_false_eq_true, not_true_eq_false, true_and, and_true, false_and, and_false, true_or, or_true, false_or, or_false, and_self, reduceIte], rfl⟩)
        · refine q_iconst 1 K dX1_hasRow_26 rfl ?_
          refine q_goto 31 K dX1_hasRow_27 (by decide) ?_
          exact Rt _ _ 1 (w_S (k_Z M) b S) dX1_hasRow_31 rfl (⟨by simp only [s_has, c_1, c_2, c_3, c_4, if_false, if_true, not_false_eq_true, not_true_eq_false, true_and, and_true, false_and, and_false, true_or, or_true, false_or, or_false, and_self, reduceIte], rfl⟩)
theorem kv_X1_hasRow : k_iv yX1_hasRow cX1_hasRow 3 (some .boolean) 2 := ⟨⟨im_X1_hasRow, se_X1_hasRow⟩, in_X1, co_X1_hasRow, by decide +kernel⟩
