set_option maxHeartbeats 4000000 in
set_option maxRecDepth 100000 in
theorem c_X4_isIn (l : Launch) (Z : kz_Z) (v lo hi : Int64) : KP l Z yX4_isIn cX4_isIn 6 .boolean 0 0 [.long v, .long lo, .long hi] (fun r => r = if lo ≤ v ∧ v ≤ hi then 1 else 0) := by
  refine ki_of (by decide) [(0, .long v), (2, .long lo), (4, .long hi)] (Nat.le_of_ble_eq_true rfl) rfl ?_
  intro M e1 e2 K Rt
  subst e1 e2
  refine q_lload_n K 0 dX4_isIn_0 rfl ?_
  refine q_lload_n K 1 dX4_isIn_1 rfl ?_
  refine q_lcmp K dX4_isIn_2 ?_
  refine q_if_lt 17 K dX4_isIn_3 (by decide) (fun c_1 => ?_) (fun c_1 => ?_)
  · refine q_iconst 0 K dX4_isIn_17 rfl ?_
    exact Rt _ _ 0 ([]) dX4_isIn_18 rfl (⟨(if_neg (fun h => absurd (lg_lt.mp c_1) (Int64.not_lt.mpr h.1))).symm, rfl⟩)
  · refine q_lload_n K 0 dX4_isIn_6 rfl ?_
    refine q_lload K 2 dX4_isIn_7 rfl ?_
    refine q_lcmp K dX4_isIn_9 ?_
    refine q_if_gt 17 K dX4_isIn_10 (by decide) (fun c_2 => ?_) (fun c_2 => ?_)
    · refine q_iconst 0 K dX4_isIn_17 rfl ?_
      exact Rt _ _ 0 ([]) dX4_isIn_18 rfl (⟨(if_neg (fun h => absurd (lg_gt.mp c_2) (Int64.not_lt.mpr h.2))).symm, rfl⟩)
    · refine q_iconst 1 K dX4_isIn_13 rfl ?_
      refine q_goto 18 K dX4_isIn_14 (by decide) ?_
      exact Rt _ _ 1 ([]) dX4_isIn_18 rfl (⟨(if_pos ⟨Int64.not_lt.mp (fun h => c_1 (lg_lt.mpr h)), Int64.not_lt.mp (fun h => c_2 (lg_gt.mpr h))⟩).symm, rfl⟩)
theorem ks_X4_isIn : k_is yX4_isIn cX4_isIn 6 (some .boolean) 3 := ⟨sm_X4_isIn, in_X4, co_X4_isIn, by decide +kernel⟩
set_option maxHeartbeats 4000000 in
set_option maxRecDepth 100000 in
theorem c_X4_isField (l : Launch) (Z : kz_Z) (v : Int32) : KP l Z yX4_isField cX4_isField 1 .boolean 0 0 [.int v] (fun r => r = if inR v 0 8 then 1 else 0) := by
  refine ki_of (by decide) [(0, .int v)] (Nat.le_of_ble_eq_true rfl) rfl ?_
  intro M e1 e2 K Rt
  subst e1 e2
  refine q_iload_n K 0 dX4_isField_0 rfl ?_
  refine q_if_lt 14 K dX4_isField_1 (by decide) (fun c_1 => ?_) (fun c_1 => ?_)
  · refine q_iconst 0 K dX4_isField_14 rfl ?_
    exact Rt _ _ 0 ([]) dX4_isField_15 rfl (⟨(if_neg (fun h => absurd c_1 (Int32.not_lt.mpr h.1))).symm, rfl⟩)
  · refine q_iload_n K 0 dX4_isField_4 rfl ?_
    refine q_bipush 9 K dX4_isField_5 rfl ?_
    refine q_icmp_ge 14 K dX4_isField_7 (by decide) (fun c_2 => ?_) (fun c_2 => ?_)
    · refine q_iconst 0 K dX4_isField_14 rfl ?_
      exact Rt _ _ 0 ([]) dX4_isField_15 rfl (⟨(if_neg (kn_ge9 c_2 rfl)).symm, rfl⟩)
    · refine q_iconst 1 K dX4_isField_10 rfl ?_
      refine q_goto 15 K dX4_isField_11 (by decide) ?_
      exact Rt _ _ 1 ([]) dX4_isField_15 rfl (⟨(if_pos (kn_lt9 c_1 c_2 rfl)).symm, rfl⟩)
theorem ks_X4_isField : k_is yX4_isField cX4_isField 1 (some .boolean) 1 := ⟨sm_X4_isField, in_X4, co_X4_isField, by decide +kernel⟩
set_option maxHeartbeats 4000000 in
set_option maxRecDepth 100000 in
theorem c_X4_isGate (l : Launch) (Z : kz_Z) (v : Int32) : KP l Z yX4_isGate cX4_isGate 1 .boolean 0 0 [.int v] (fun r => r = if inR v 0 7 then 1 else 0) := by
  refine ki_of (by decide) [(0, .int v)] (Nat.le_of_ble_eq_true rfl) rfl ?_
  intro M e1 e2 K Rt
  subst e1 e2
  refine q_iload_n K 0 dX4_isGate_0 rfl ?_
  refine q_if_lt 14 K dX4_isGate_1 (by decide) (fun c_1 => ?_) (fun c_1 => ?_)
  · refine q_iconst 0 K dX4_isGate_14 rfl ?_
    exact Rt _ _ 0 ([]) dX4_isGate_15 rfl (⟨(if_neg (fun h => absurd c_1 (Int32.not_lt.mpr h.1))).symm, rfl⟩)
  · refine q_iload_n K 0 dX4_isGate_4 rfl ?_
    refine q_bipush 8 K dX4_isGate_5 rfl ?_
    refine q_icmp_ge 14 K dX4_isGate_7 (by decide) (fun c_2 => ?_) (fun c_2 => ?_)
    · refine q_iconst 0 K dX4_isGate_14 rfl ?_
      exact Rt _ _ 0 ([]) dX4_isGate_15 rfl (⟨(if_neg (kn_ge9 c_2 rfl)).symm, rfl⟩)
    · refine q_iconst 1 K dX4_isGate_10 rfl ?_
      refine q_goto 15 K dX4_isGate_11 (by decide) ?_
      exact Rt _ _ 1 ([]) dX4_isGate_15 rfl (⟨(if_pos (kn_lt9 c_1 c_2 rfl)).symm, rfl⟩)
theorem ks_X4_isGate : k_is yX4_isGate cX4_isGate 1 (some .boolean) 1 := ⟨sm_X4_isGate, in_X4, co_X4_isGate, by decide +kernel⟩
set_option maxHeartbeats 4000000 in
set_option maxRecDepth 100000 in
theorem c_X4_isStand (l : Launch) (Z : kz_Z) (v : Int32) : KP l Z yX4_isStand cX4_isStand 1 .boolean 1 25 [.int v] (fun r => r = if inR v 0 3 then 1 else 0) := by
  refine ki_of (by decide) [(0, .int v)] (Nat.le_of_ble_eq_true rfl) rfl ?_
  intro M e1 e2 K Rt
  subst e1 e2
  refine q_iload_n K 0 dX4_isStand_0 rfl ?_
  refine q_i2l K dX4_isStand_1 ?_
  refine q_lconst 0 K dX4_isStand_2 rfl ?_
  refine q_ldc2 K dX4_isStand_3 ct_X4_41 ?_
  refine q_cp (rest := []) K ks_X4_isIn (c_X4_isIn (k_l M) (k_Z M) v.toInt64 0 3) ml_X4_43 rfl rfl (Nat.le_of_ble_eq_true rfl) ⟨Nat.le_of_ble_eq_true rfl, Nat.le_of_ble_eq_true rfl⟩ dX4_isStand_6 (fun r_1 e_r_1 => ?_)
  have e_r_1 : r_1 = if inR v 0 3 then 1 else 0 := kn_if e_r_1 (kn_i64 (v := v) (lo := 0) (hi := 3))
  exact Rt _ _ r_1 ([]) dX4_isStand_9 (kn_narZ e_r_1) (⟨e_r_1, rfl⟩)
theorem ks_X4_isStand : k_is yX4_isStand cX4_isStand 1 (some .boolean) 1 := ⟨sm_X4_isStand, in_X4, co_X4_isStand, by decide +kernel⟩
set_option maxHeartbeats 4000000 in
set_option maxRecDepth 100000 in
theorem c_X4_isSheet (l : Launch) (Z : kz_Z) (v : Int32) : KP l Z yX4_isSheet cX4_isSheet 1 .boolean 0 0 [.int v] (fun r => r = if inR v 0 3 then 1 else 0) := by
  refine ki_of (by decide) [(0, .int v)] (Nat.le_of_ble_eq_true rfl) rfl ?_
  intro M e1 e2 K Rt
  subst e1 e2
  refine q_iload_n K 0 dX4_isSheet_0 rfl ?_
  refine q_if_lt 13 K dX4_isSheet_1 (by decide) (fun c_1 => ?_) (fun c_1 => ?_)
  · refine q_iconst 0 K dX4_isSheet_13 rfl ?_
    exact Rt _ _ 0 ([]) dX4_isSheet_14 rfl (⟨(if_neg (fun h => absurd c_1 (Int32.not_lt.mpr h.1))).symm, rfl⟩)
  · refine q_iload_n K 0 dX4_isSheet_4 rfl ?_
    refine q_iconst 4 K dX4_isSheet_5 rfl ?_
    refine q_icmp_ge 13 K dX4_isSheet_6 (by decide) (fun c_2 => ?_) (fun c_2 => ?_)
    · refine q_iconst 0 K dX4_isSheet_13 rfl ?_
      exact Rt _ _ 0 ([]) dX4_isSheet_14 rfl (⟨(if_neg (kn_ge9 c_2 rfl)).symm, rfl⟩)
    · refine q_iconst 1 K dX4_isSheet_9 rfl ?_
      refine q_goto 14 K dX4_isSheet_10 (by decide) ?_
      exact Rt _ _ 1 ([]) dX4_isSheet_14 rfl (⟨(if_pos (kn_lt9 c_1 c_2 rfl)).symm, rfl⟩)
theorem ks_X4_isSheet : k_is yX4_isSheet cX4_isSheet 1 (some .boolean) 1 := ⟨sm_X4_isSheet, in_X4, co_X4_isSheet, by decide +kernel⟩
set_option maxHeartbeats 4000000 in
set_option maxRecDepth 100000 in
theorem c_X4_least (l : Launch) (Z : kz_Z) (x y : Int32) : KP l Z yX4_least cX4_least 2 .int 0 0 [.int x, .int y] (fun r => r = f_mn y x) := by
  refine ki_of (by decide) [(0, .int x), (1, .int y)] (Nat.le_of_ble_eq_true rfl) rfl ?_
  intro M e1 e2 K Rt
  subst e1 e2
  refine q_iload_n K 0 dX4_least_0 rfl ?_
  refine q_iload_n K 1 dX4_least_1 rfl ?_
  refine q_icmp_ge 9 K dX4_least_2 (by decide) (fun c_1 => ?_) (fun c_1 => ?_)
  · refine q_iload_n K 1 dX4_least_9 rfl ?_
    exact Rt _ _ y ([]) dX4_least_10 rfl (⟨kn_least1 c_1, rfl⟩)
  · refine q_iload_n K 0 dX4_least_5 rfl ?_
    refine q_goto 10 K dX4_least_6 (by decide) ?_
    exact Rt _ _ x ([]) dX4_least_10 rfl (⟨kn_least2 c_1, rfl⟩)
theorem ks_X4_least : k_is yX4_least cX4_least 2 (some .int) 2 := ⟨sm_X4_least, in_X4, co_X4_least, by decide +kernel⟩
set_option maxHeartbeats 4000000 in
set_option maxRecDepth 100000 in
theorem c_X4_at (l : Launch) (Z : kz_Z) (w k : Nat) : KP l Z yX4_at cX4_at 2 .int 0 0 [.int (nI w), .int (nI k)] (fun r => r = nI (21 + 5 * w + k)) := by
  refine ki_of (by decide) [(0, .int (nI w)), (1, .int (nI k))] (Nat.le_of_ble_eq_true rfl) rfl ?_
  intro M e1 e2 K Rt
  subst e1 e2
  refine q_bipush 21 K dX4_at_0 rfl ?_
  refine q_iconst 5 K dX4_at_2 rfl ?_
  refine q_iload_n K 0 dX4_at_3 rfl ?_
  refine q_imul K dX4_at_4 ?_
  refine q_eqi (nI (5 * w)) (pk_mul 5 w) ?_
  refine q_iadd K dX4_at_5 ?_
  refine q_eqi (nI (21 + (5 * w))) (kn_add 21 (5 * w)) ?_
  refine q_iload_n K 1 dX4_at_6 rfl ?_
  refine q_iadd K dX4_at_7 ?_
  refine q_eqi (nI ((21 + (5 * w)) + k)) (kn_add (21 + (5 * w)) k) ?_
  exact Rt _ _ (nI ((21 + (5 * w)) + k)) ([]) dX4_at_8 rfl (⟨rfl, rfl⟩)
theorem ks_X4_at : k_is yX4_at cX4_at 2 (some .int) 2 := ⟨sm_X4_at, in_X4, co_X4_at, by decide +kernel⟩
set_option maxHeartbeats 4000000 in
set_option maxRecDepth 100000 in
theorem c_X4_its (l : Launch) (Z : kz_Z) (B : Nat → Nat) (X : AS) (D : DJ) (w k : Nat) (hw : w < 8) (hk : k < 5) : KI l Z yX4_its cX4_its 3 .int 0 0 [.ref (B 0), .int (nI w), .int (nI k)] (w_M Z B X D) (fun r w2 => r = f_row (a_F X) k w ∧ w2 = w_M Z B X D) := by
  refine ki_of (by decide) [(0, .ref (B 0)), (1, .int (nI w)), (2, .int (nI k))] (Nat.le_of_ble_eq_true rfl) rfl ?_
  intro M e1 e2 K Rt
  subst e1 e2
  refine q_aload_n K 0 dX4_its_0 rfl ?_
  refine q_get (.ref (B 1)) K ws_X4 0 rfl rfl 0 (by decide) fl_X4_7 rfl dX4_its_1 ?_
  refine q_bipush 21 K dX4_its_4 rfl ?_
  refine q_iconst 5 K dX4_its_6 rfl ?_
  refine q_iload_n K 1 dX4_its_7 rfl ?_
  refine q_imul K dX4_its_8 ?_
  refine q_eqi (nI (5 * w)) (pk_mul 5 w) ?_
  refine q_iadd K dX4_its_9 ?_
  refine q_eqi (nI (21 + (5 * w))) (kn_add 21 (5 * w)) ?_
  refine q_iload_n K 2 dX4_its_10 rfl ?_
  refine q_iadd K dX4_its_11 ?_
  refine q_eqi (nI ((21 + (5 * w)) + k)) (kn_add (21 + (5 * w)) k) ?_
  refine q_iald K 1 rfl (vp_in_nI (n := (21 + (5 * w)) + k) (N := 71) (by omega) (by omega)) dX4_its_12 ?_
  refine q_eqi (f_row (a_F X) k w) (by rw [nI_clamp (n := (21 + (5 * w)) + k) (by omega)]; exact rw_at _ (by omega) (by omega)) ?_
  exact Rt _ _ (f_row (a_F X) k w) (w_M (k_Z M) B X D) dX4_its_13 rfl (⟨rfl, rfl⟩)
theorem kv_X4_its : k_iv yX4_its cX4_its 3 (some .int) 2 := ⟨⟨im_X4_its, se_X4_its⟩, in_X4, co_X4_its, by decide +kernel⟩
