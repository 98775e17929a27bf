set_option maxHeartbeats 4000000 in
set_option maxRecDepth 100000 in
theorem c_X3_isIn (l : Launch) (Z : kz_Z) (v lo hi : Int32) : KP l Z yX3_isIn cX3_isIn 3 .boolean 0 0 [.int v, .int lo, .int hi] (fun r => r = if inR v lo hi then 1 else 0) := by
  refine ki_of (by decide) [(0, .int v), (1, .int lo), (2, .int hi)] (Nat.le_of_ble_eq_true rfl) rfl ?_
  intro M e1 e2 K Rt
  subst e1 e2
  refine q_iload_n K 0 dX3_isIn_0 rfl ?_
  refine q_iload_n K 1 dX3_isIn_1 rfl ?_
  refine q_icmp_lt 14 K dX3_isIn_2 (by decide) (fun c_1 => ?_) (fun c_1 => ?_)
  · refine q_iconst 0 K dX3_isIn_14 rfl ?_
    exact Rt _ _ 0 ([]) dX3_isIn_15 rfl (⟨(if_neg (fun h => absurd c_1 (Int32.not_lt.mpr h.1))).symm, rfl⟩)
  · refine q_iload_n K 0 dX3_isIn_5 rfl ?_
    refine q_iload_n K 2 dX3_isIn_6 rfl ?_
    refine q_icmp_gt 14 K dX3_isIn_7 (by decide) (fun c_2 => ?_) (fun c_2 => ?_)
    · refine q_iconst 0 K dX3_isIn_14 rfl ?_
      exact Rt _ _ 0 ([]) dX3_isIn_15 rfl (⟨(if_neg (fun h => absurd c_2 (Int32.not_lt.mpr h.2))).symm, rfl⟩)
    · refine q_iconst 1 K dX3_isIn_10 rfl ?_
      refine q_goto 15 K dX3_isIn_11 (by decide) ?_
      exact Rt _ _ 1 ([]) dX3_isIn_15 rfl (⟨(if_pos ⟨Int32.not_lt.mp c_1, Int32.not_lt.mp c_2⟩).symm, rfl⟩)
theorem ks_X3_isIn : k_is yX3_isIn cX3_isIn 3 (some .boolean) 3 := ⟨sm_X3_isIn, in_X3, co_X3_isIn, by decide +kernel⟩
set_option maxHeartbeats 4000000 in
set_option maxRecDepth 100000 in
theorem c_X3_isField (l : Launch) (Z : kz_Z) (v : Int32) : KP l Z yX3_isField cX3_isField 1 .boolean 1 22 [.int v] (fun r => r = if inR v 0 8 then 1 else 0) := by
  refine ki_of (by decide) [(0, .int v)] (Nat.le_of_ble_eq_true rfl) rfl ?_
  intro M e1 e2 K Rt
  subst e1 e2
  refine q_iload_n K 0 dX3_isField_0 rfl ?_
  refine q_iconst 0 K dX3_isField_1 rfl ?_
  refine q_bipush 8 K dX3_isField_2 rfl ?_
  refine q_cp (rest := []) K ks_X3_isIn (c_X3_isIn (k_l M) (k_Z M) v 0 8) ml_X3_48 rfl rfl (Nat.le_of_ble_eq_true rfl) ⟨Nat.le_of_ble_eq_true rfl, Nat.le_of_ble_eq_true rfl⟩ dX3_isField_4 (fun r_1 e_r_1 => ?_)
  exact Rt _ _ r_1 ([]) dX3_isField_7 (kn_narZ e_r_1) (⟨e_r_1, rfl⟩)
theorem ks_X3_isField : k_is yX3_isField cX3_isField 1 (some .boolean) 1 := ⟨sm_X3_isField, in_X3, co_X3_isField, by decide +kernel⟩
set_option maxHeartbeats 4000000 in
set_option maxRecDepth 100000 in
theorem c_X3_isGate (l : Launch) (Z : kz_Z) (v : Int32) : KP l Z yX3_isGate cX3_isGate 1 .boolean 1 22 [.int v] (fun r => r = if inR v 0 7 then 1 else 0) := by
  refine ki_of (by decide) [(0, .int v)] (Nat.le_of_ble_eq_true rfl) rfl ?_
  intro M e1 e2 K Rt
  subst e1 e2
  refine q_iload_n K 0 dX3_isGate_0 rfl ?_
  refine q_iconst 0 K dX3_isGate_1 rfl ?_
  refine q_bipush 7 K dX3_isGate_2 rfl ?_
  refine q_cp (rest := []) K ks_X3_isIn (c_X3_isIn (k_l M) (k_Z M) v 0 7) ml_X3_48 rfl rfl (Nat.le_of_ble_eq_true rfl) ⟨Nat.le_of_ble_eq_true rfl, Nat.le_of_ble_eq_true rfl⟩ dX3_isGate_4 (fun r_1 e_r_1 => ?_)
  exact Rt _ _ r_1 ([]) dX3_isGate_7 (kn_narZ e_r_1) (⟨e_r_1, rfl⟩)
theorem ks_X3_isGate : k_is yX3_isGate cX3_isGate 1 (some .boolean) 1 := ⟨sm_X3_isGate, in_X3, co_X3_isGate, by decide +kernel⟩
set_option maxHeartbeats 4000000 in
set_option maxRecDepth 100000 in
theorem c_X3_isManner (l : Launch) (Z : kz_Z) (v : Int32) : KP l Z yX3_isManner cX3_isManner 1 .boolean 1 22 [.int v] (fun r => r = if inR v 0 3 then 1 else 0) := by
  refine ki_of (by decide) [(0, .int v)] (Nat.le_of_ble_eq_true rfl) rfl ?_
  intro M e1 e2 K Rt
  subst e1 e2
  refine q_iload_n K 0 dX3_isManner_0 rfl ?_
  refine q_iconst 0 K dX3_isManner_1 rfl ?_
  refine q_iconst 3 K dX3_isManner_2 rfl ?_
  refine q_cp (rest := []) K ks_X3_isIn (c_X3_isIn (k_l M) (k_Z M) v 0 3) ml_X3_48 rfl rfl (Nat.le_of_ble_eq_true rfl) ⟨Nat.le_of_ble_eq_true rfl, Nat.le_of_ble_eq_true rfl⟩ dX3_isManner_3 (fun r_1 e_r_1 => ?_)
  exact Rt _ _ r_1 ([]) dX3_isManner_6 (kn_narZ e_r_1) (⟨e_r_1, rfl⟩)
theorem ks_X3_isManner : k_is yX3_isManner cX3_isManner 1 (some .boolean) 1 := ⟨sm_X3_isManner, in_X3, co_X3_isManner, by decide +kernel⟩
set_option maxHeartbeats 4000000 in
set_option maxRecDepth 100000 in
theorem c_X3_isKind (l : Launch) (Z : kz_Z) (v : Int32) : KP l Z yX3_isKind cX3_isKind 1 .boolean 1 22 [.int v] (fun r => r = if inR v 0 6 then 1 else 0) := by
  refine ki_of (by decide) [(0, .int v)] (Nat.le_of_ble_eq_true rfl) rfl ?_
  intro M e1 e2 K Rt
  subst e1 e2
  refine q_iload_n K 0 dX3_isKind_0 rfl ?_
  refine q_iconst 0 K dX3_isKind_1 rfl ?_
  refine q_bipush 6 K dX3_isKind_2 rfl ?_
  refine q_cp (rest := []) K ks_X3_isIn (c_X3_isIn (k_l M) (k_Z M) v 0 6) ml_X3_48 rfl rfl (Nat.le_of_ble_eq_true rfl) ⟨Nat.le_of_ble_eq_true rfl, Nat.le_of_ble_eq_true rfl⟩ dX3_isKind_4 (fun r_1 e_r_1 => ?_)
  exact Rt _ _ r_1 ([]) dX3_isKind_7 (kn_narZ e_r_1) (⟨e_r_1, rfl⟩)
theorem ks_X3_isKind : k_is yX3_isKind cX3_isKind 1 (some .boolean) 1 := ⟨sm_X3_isKind, in_X3, co_X3_isKind, by decide +kernel⟩
set_option maxHeartbeats 4000000 in
set_option maxRecDepth 100000 in
theorem c_X3_isSpot (l : Launch) (Z : kz_Z) (v : Int32) : KP l Z yX3_isSpot cX3_isSpot 1 .boolean 1 22 [.int v] (fun r => r = if inR v 0 9 then 1 else 0) := by
  refine ki_of (by decide) [(0, .int v)] (Nat.le_of_ble_eq_true rfl) rfl ?_
  intro M e1 e2 K Rt
  subst e1 e2
  refine q_iload_n K 0 dX3_isSpot_0 rfl ?_
  refine q_iconst 0 K dX3_isSpot_1 rfl ?_
  refine q_bipush 9 K dX3_isSpot_2 rfl ?_
  refine q_cp (rest := []) K ks_X3_isIn (c_X3_isIn (k_l M) (k_Z M) v 0 9) ml_X3_48 rfl rfl (Nat.le_of_ble_eq_true rfl) ⟨Nat.le_of_ble_eq_true rfl, Nat.le_of_ble_eq_true rfl⟩ dX3_isSpot_4 (fun r_1 e_r_1 => ?_)
  exact Rt _ _ r_1 ([]) dX3_isSpot_7 (kn_narZ e_r_1) (⟨e_r_1, rfl⟩)
theorem ks_X3_isSpot : k_is yX3_isSpot cX3_isSpot 1 (some .boolean) 1 := ⟨sm_X3_isSpot, in_X3, co_X3_isSpot, by decide +kernel⟩
set_option maxHeartbeats 4000000 in
set_option maxRecDepth 100000 in
theorem c_X3_isSheet (l : Launch) (Z : kz_Z) (v : Int32) : KP l Z yX3_isSheet cX3_isSheet 1 .boolean 1 22 [.int v] (fun r => r = if inR v 0 3 then 1 else 0) := by
  refine ki_of (by decide) [(0, .int v)] (Nat.le_of_ble_eq_true rfl) rfl ?_
  intro M e1 e2 K Rt
  subst e1 e2
  refine q_iload_n K 0 dX3_isSheet_0 rfl ?_
  refine q_iconst 0 K dX3_isSheet_1 rfl ?_
  refine q_iconst 3 K dX3_isSheet_2 rfl ?_
  refine q_cp (rest := []) K ks_X3_isIn (c_X3_isIn (k_l M) (k_Z M) v 0 3) ml_X3_48 rfl rfl (Nat.le_of_ble_eq_true rfl) ⟨Nat.le_of_ble_eq_true rfl, Nat.le_of_ble_eq_true rfl⟩ dX3_isSheet_3 (fun r_1 e_r_1 => ?_)
  exact Rt _ _ r_1 ([]) dX3_isSheet_6 (kn_narZ e_r_1) (⟨e_r_1, rfl⟩)
theorem ks_X3_isSheet : k_is yX3_isSheet cX3_isSheet 1 (some .boolean) 1 := ⟨sm_X3_isSheet, in_X3, co_X3_isSheet, by decide +kernel⟩
