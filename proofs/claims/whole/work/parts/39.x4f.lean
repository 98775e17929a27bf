set_option maxHeartbeats 4000000 in
set_option maxRecDepth 100000 in
theorem c_X4_many (l : Launch) (Z : kz_Z) (t : Nat) (ht : t < 256) : KP l Z yX4_many cX4_many 3 .int 0 0 [.int (nI t)] (fun r => r = j_bc (nI t)) := by
  refine ki_of (by decide) [(0, .int (nI t))] (Nat.le_of_ble_eq_true rfl) rfl ?_
  intro M e1 e2 K Rt
  subst e1 e2
  refine q_iconst 0 K dX4_many_0 rfl ?_
  refine q_istore_n (lv' := [(1, .int 0), (0, .int (nI t))]) K dX4_many_1 (by decide) rfl ?_
  refine q_iload_n K 1 dX4_many_2 rfl ?_
  refine q_istore_n (lv' := [(2, .int (nI t)), (1, .int 0), (0, .int (nI t))]) K dX4_many_3 (by decide) rfl ?_
  refine q_loop (α := Int32 × Int32) (fun n9 y => r_ends n9 y.2 = true ∧ r_many n9 y.2 y.1 = j_bc (nI t)) 4 (fun y => [(2, .int y.2), (1, .int y.1), (0, .int (nI t))]) (fun y => []) (fun n_1 y hI_2 ih_3 => ?_) 8 (0, nI t) (r_many_bc t ht)
  refine q_iload_n K 0 dX4_many_4 rfl ?_
  refine q_if_eq 20 K dX4_many_5 (by decide) (fun c_4 => ?_) (fun c_4 => ?_)
  · refine q_iload_n K 1 dX4_many_20 rfl ?_
    exact Rt _ _ y.1 ([]) dX4_many_21 rfl (⟨by have h9 := hI_2.2; rw [c_4, r_many_0] at h9; exact h9, rfl⟩)
  · refine q_iinc (y.1 + 1) (lv' := [(1, .int (y.1 + 1)), (2, .int y.2), (0, .int (nI t))]) K 1 dX4_many_8 rfl rfl (by decide) rfl ?_
    refine q_iload_n K 1 dX4_many_11 rfl ?_
    refine q_iload_n K 1 dX4_many_12 rfl ?_
    refine q_iconst 1 K dX4_many_13 rfl ?_
    refine q_isub K dX4_many_14 ?_
    refine q_iand K dX4_many_15 ?_
    refine q_istore_n (lv' := [(2, .int (y.2 &&& (y.2 - 1))), (1, .int (y.1 + 1)), (0, .int (nI t))]) K dX4_many_16 (by decide) rfl ?_
    refine q_goto 4 K dX4_many_17 (by decide) ?_
    obtain ⟨hk, he, hr⟩ := r_step c_4 hI_2.1
    exact ih_3 (n_1 - 1) (y.1 + 1, y.2 &&& (y.2 - 1)) (by omega) ⟨he, (hr _).symm.trans hI_2.2⟩
theorem ks_X4_many : k_is yX4_many cX4_many 3 (some .int) 1 := ⟨sm_X4_many, in_X4, co_X4_many, by decide +kernel⟩
set_option maxHeartbeats 4000000 in
set_option maxRecDepth 100000 in
theorem c_X4_lowest (l : Launch) (Z : kz_Z) (t : Nat) (ht : t < 512) : KP l Z yX4_lowest cX4_lowest 2 .int 0 0 [.int (nI t)] (fun r => r = if t = 0 then -1 else j_ntz (nI t)) := by
  refine ki_of (by decide) [(0, .int (nI t))] (Nat.le_of_ble_eq_true rfl) rfl ?_
  intro M e1 e2 K Rt
  subst e1 e2
  obtain ⟨z, hz, hz1, hz2⟩ := r_lowE ht
  refine q_iconst 0 K dX4_lowest_0 rfl ?_
  refine q_istore_n (lv' := [(1, .int 0), (0, .int (nI t))]) K dX4_lowest_1 (by decide) rfl ?_
  refine q_loop (α := Nat) (fun n9 k => k + n9 = z) 2 (fun k => [(1, .int (nI k)), (0, .int (nI t))]) (fun k => []) (fun n_1 k hI_2 ih_3 => ?_) z 0 (by omega)
  refine q_iload_n K 1 dX4_lowest_2 rfl ?_
  refine q_if_eq 20 K dX4_lowest_3 (by decide) (fun c_4 => ?_) (fun c_4 => ?_)
  · have c_4n : t = 0 := (nI_eq (a := t) (b := 0) (by omega) (by omega)).mp c_4
    refine q_iload_n K 1 dX4_lowest_20 rfl ?_
    refine q_if_ne 28 K dX4_lowest_21 (by decide) (fun c_5 => ?_) (fun c_5 => ?_)
    · have c_5n : ¬ (t = 0) := fun h9 => c_5 ((nI_eq (a := t) (b := 0) (by omega) (by omega)).mpr h9)
      exact absurd c_4n c_5n
    · have c_5n : t = 0 := (nI_eq (a := t) (b := 0) (by omega) (by omega)).mp c_5
      refine q_iconst (-1) K dX4_lowest_24 rfl ?_
      refine q_goto 29 K dX4_lowest_25 (by decide) ?_
      exact Rt _ _ (-1) ([]) dX4_lowest_29 rfl (⟨(if_pos (show t = 0 from c_5n)).symm, rfl⟩)
  · have c_4n : ¬ (t = 0) := fun h9 => c_4 ((nI_eq (a := t) (b := 0) (by omega) (by omega)).mpr h9)
    refine q_iload_n K 1 dX4_lowest_6 rfl ?_
    refine q_iload_n K 0 dX4_lowest_7 rfl ?_
    refine q_ishr K dX4_lowest_8 ?_
    refine q_iconst 1 K dX4_lowest_9 rfl ?_
    refine q_iand K dX4_lowest_10 ?_
    refine q_if_ne 20 K dX4_lowest_11 (by decide) (fun c_6 => ?_) (fun c_6 => ?_)
    · refine q_iload_n K 1 dX4_lowest_20 rfl ?_
      refine q_if_ne 28 K dX4_lowest_21 (by decide) (fun c_7 => ?_) (fun c_7 => ?_)
      · have c_7n : ¬ (t = 0) := fun h9 => c_7 ((nI_eq (a := t) (b := 0) (by omega) (by omega)).mpr h9)
        refine q_iload_n K 0 dX4_lowest_28 rfl ?_
        exact Rt _ _ (nI k) ([]) dX4_lowest_29 rfl (⟨by rw [if_neg (show ¬ t = 0 from c_7n), (hz1 c_7n).1]; exact congrArg nI (show k = z from Nat.le_antisymm (by omega) (Nat.not_lt.mp (fun h9 => c_6 (hz2 k h9)))), rfl⟩)
      · have c_7n : t = 0 := (nI_eq (a := t) (b := 0) (by omega) (by omega)).mp c_7
        exact absurd c_7n c_4n
    · refine q_iinc (nI (k + 1)) (lv' := [(1, .int (nI (k + 1))), (0, .int (nI t))]) K 0 dX4_lowest_14 rfl (kn_inc k) (by decide) rfl ?_
      refine q_goto 2 K dX4_lowest_17 (by decide) ?_
      have h8 : k ≠ z := fun h9 => (hz1 c_4n).2 (h9 ▸ c_6)
      exact ih_3 (n_1 - 1) (k + 1) (by omega) (by omega)
theorem ks_X4_lowest : k_is yX4_lowest cX4_lowest 2 (some .int) 1 := ⟨sm_X4_lowest, in_X4, co_X4_lowest, by decide +kernel⟩
set_option maxHeartbeats 4000000 in
set_option maxRecDepth 100000 in
theorem c_X4_isAsked (l : Launch) (Z : kz_Z) (B : Nat → Nat) (X : AS) (D : DJ) (m : Nat) (hm : m ≤ 8) (hm2 : f_wk (a_F X) = nI m) (w g s n : Int32) : KI l Z yX4_isAsked cX4_isAsked 5 .boolean 2 45 [.ref (B 0), .int w, .int g, .int s, .int n] (w_M Z B X D) (fun r w2 => (r = if isWish X w g s n then 1 else 0) ∧ w2 = w_M Z B X D) := by
  refine ki_of (by decide) [(0, .ref (B 0)), (1, .int w), (2, .int g), (3, .int s), (4, .int n)] (Nat.le_of_ble_eq_true rfl) rfl ?_
  intro M e1 e2 K Rt
  subst e1 e2
  refine q_aload_n K 0 dX4_isAsked_0 rfl ?_
  refine q_iload_n K 1 dX4_isAsked_1 rfl ?_
  refine q_wI (q0 := 0) (As := [.int w]) (rest := []) K kv_X4_isWalker (c_X4_isWalker (k_l M) (k_Z M) B X D m hm hm2 w) rfl rfl ml_X4_89 rfl rfl (Nat.le_of_ble_eq_true rfl) ⟨Nat.le_of_ble_eq_true rfl, Nat.le_of_ble_eq_true rfl⟩ dX4_isAsked_2 (fun r_2 w2 h_1 => ?_)
  obtain ⟨e_r_2, rfl⟩ := h_1
  refine q_if_eq 39 K dX4_isAsked_5 (by decide) (fun c_3 => ?_) (fun c_3 => ?_)
  · have c_3 : ¬ (isW X w) := (kn_eq e_r_2).mp c_3
    refine q_iconst 0 K dX4_isAsked_39 rfl ?_
    exact Rt _ _ 0 (w_M (k_Z M) B X D) dX4_isAsked_40 rfl (⟨(if_neg (fun h9 => c_3 h9.1)).symm, rfl⟩)
  · have c_3 : isW X w := (kn_ne e_r_2).mp c_3
    refine q_iload_n K 2 dX4_isAsked_8 rfl ?_
    refine q_cp (rest := []) K ks_X4_isGate (c_X4_isGate (k_l M) (k_Z M) g) ml_X4_68 rfl rfl (Nat.le_of_ble_eq_true rfl) ⟨Nat.le_of_ble_eq_true rfl, Nat.le_of_ble_eq_true rfl⟩ dX4_isAsked_9 (fun r_4 e_r_4 => ?_)
    refine q_if_eq 39 K dX4_isAsked_12 (by decide) (fun c_5 => ?_) (fun c_5 => ?_)
    · have c_5 : ¬ (inR g 0 7) := (kn_eq e_r_4).mp c_5
      refine q_iconst 0 K dX4_isAsked_39 rfl ?_
      exact Rt _ _ 0 (w_M (k_Z M) B X D) dX4_isAsked_40 rfl (⟨(if_neg (fun h9 => c_5 h9.2.1)).symm, rfl⟩)
    · have c_5 : inR g 0 7 := (kn_ne e_r_4).mp c_5
      refine q_iload_n K 3 dX4_isAsked_15 rfl ?_
      refine q_cp (rest := []) K ks_X4_isStand (c_X4_isStand (k_l M) (k_Z M) s) ml_X4_71 rfl rfl (Nat.le_of_ble_eq_true rfl) ⟨Nat.le_of_ble_eq_true rfl, Nat.le_of_ble_eq_true rfl⟩ dX4_isAsked_16 (fun r_6 e_r_6 => ?_)
      refine q_if_eq 39 K dX4_isAsked_19 (by decide) (fun c_7 => ?_) (fun c_7 => ?_)
      · have c_7 : ¬ (inR s 0 3) := (kn_eq e_r_6).mp c_7
        refine q_iconst 0 K dX4_isAsked_39 rfl ?_
        exact Rt _ _ 0 (w_M (k_Z M) B X D) dX4_isAsked_40 rfl (⟨(if_neg (fun h9 => c_7 h9.2.2.1)).symm, rfl⟩)
      · have c_7 : inR s 0 3 := (kn_ne e_r_6).mp c_7
        refine q_iload K 4 dX4_isAsked_22 rfl ?_
        refine q_i2l K dX4_isAsked_24 ?_
        refine q_lconst 0 K dX4_isAsked_25 rfl ?_
        refine q_ldc2 K dX4_isAsked_26 ct_X4_150 ?_
        refine q_cp (rest := []) K ks_X4_isIn (c_X4_isIn (k_l M) (k_Z M) n.toInt64 0 40) ml_X4_43 rfl rfl (Nat.le_of_ble_eq_true rfl) ⟨Nat.le_of_ble_eq_true rfl, Nat.le_of_ble_eq_true rfl⟩ dX4_isAsked_29 (fun r_8 e_r_8 => ?_)
        have e_r_8 : r_8 = if inR n 0 40 then 1 else 0 := kn_if e_r_8 (kn_i64 (v := n) (lo := 0) (hi := 40))
        refine q_if_eq 39 K dX4_isAsked_32 (by decide) (fun c_9 => ?_) (fun c_9 => ?_)
        · have c_9 : ¬ (inR n 0 40) := (kn_eq e_r_8).mp c_9
          refine q_iconst 0 K dX4_isAsked_39 rfl ?_
          exact Rt _ _ 0 (w_M (k_Z M) B X D) dX4_isAsked_40 rfl (⟨(if_neg (fun h9 => c_9 h9.2.2.2)).symm, rfl⟩)
        · have c_9 : inR n 0 40 := (kn_ne e_r_8).mp c_9
          refine q_iconst 1 K dX4_isAsked_35 rfl ?_
          refine q_goto 40 K dX4_isAsked_36 (by decide) ?_
          exact Rt _ _ 1 (w_M (k_Z M) B X D) dX4_isAsked_40 rfl (⟨(if_pos ⟨c_3, c_5, c_7, c_9⟩).symm, rfl⟩)
theorem kv_X4_isAsked : k_iv yX4_isAsked cX4_isAsked 5 (some .boolean) 4 := ⟨⟨im_X4_isAsked, se_X4_isAsked⟩, in_X4, co_X4_isAsked, by decide +kernel⟩
set_option maxHeartbeats 4000000 in
set_option maxRecDepth 100000 in
theorem c_X4_orNone (l : Launch) (Z : kz_Z) (B : Nat → Nat) (X : AS) (D : DJ) (v : Int32) : KI l Z yX4_orNone cX4_orNone 2 .int 1 21 [.ref (B 0), .int v] (w_M Z B X D) (fun r w2 => (v < 0 ∧ r = r_fin 3 ∧ w2 = w_M Z B (a_setfd X (fd_up (a_fd X) 3)) D) ∨ (¬ v < 0 ∧ r = v ∧ w2 = w_M Z B X D)) := by
  refine ki_of (by decide) [(0, .ref (B 0)), (1, .int v)] (Nat.le_of_ble_eq_true rfl) rfl ?_
  intro M e1 e2 K Rt
  subst e1 e2
  refine q_iload_n K 1 dX4_orNone_0 rfl ?_
  refine q_if_ge 13 K dX4_orNone_1 (by decide) (fun c_1 => ?_) (fun c_1 => ?_)
  · refine q_iload_n K 1 dX4_orNone_13 rfl ?_
    exact Rt _ _ v (w_M (k_Z M) B X D) dX4_orNone_14 rfl (Or.inr ⟨Int32.not_lt.mpr c_1, rfl, rfl⟩)
  · refine q_aload_n K 0 dX4_orNone_4 rfl ?_
    refine q_ldc K dX4_orNone_5 ct_X4_47 ?_
    refine q_eqi (r_fin 3) (by decide) ?_
    refine q_wI (q0 := 0) (As := [.int (r_fin 3)]) (rest := []) K kv_X4_finds (c_X4_finds (k_l M) (k_Z M) B X D 3 (by omega)) rfl rfl ml_X4_48 rfl rfl (Nat.le_of_ble_eq_true rfl) ⟨Nat.le_of_ble_eq_true rfl, Nat.le_of_ble_eq_true rfl⟩ dX4_orNone_7 (fun r_3 w2 h_2 => ?_)
    obtain ⟨e_r_3, rfl⟩ := h_2
    refine q_eqi (r_fin 3) e_r_3 ?_
    refine q_ws (ws' := w_M (k_Z M) B (a_F X, a_K X, a_kp X, fd_up (a_fd X) 3, a_tp X, a_S X) D) rfl ?_
    refine q_goto 14 K dX4_orNone_10 (by decide) ?_
    exact Rt _ _ (r_fin 3) (w_M (k_Z M) B (a_F X, a_K X, a_kp X, fd_up (a_fd X) 3, a_tp X, a_S X) D) dX4_orNone_14 rfl (Or.inl ⟨Int32.not_le.mp c_1, rfl, rfl⟩)
theorem kv_X4_orNone : k_iv yX4_orNone cX4_orNone 2 (some .int) 1 := ⟨⟨im_X4_orNone, se_X4_orNone⟩, in_X4, co_X4_orNone, by decide +kernel⟩
set_option maxHeartbeats 4000000 in
set_option maxRecDepth 100000 in
theorem c_X4_withWhich0 (l : Launch) (Z : kz_Z) (B : Nat → Nat) (X : AS) (D : DJ) (m : Nat) (hm : m ≤ 8) (hm2 : f_wk (a_F X) = nI m) (hok : f_ok (a_F X)) (w : Nat) (hw : w < 8) (g : Nat) (hg : g < 8) (s : Int32) (n : Nat) (hn : n ≤ 40) : KI l Z yX4_withWhich cX4_withWhich 9 .int 6 142 [.ref (B 0), .int (nI w), .int 0, .int (nI g), .int s, .int (nI n)] (w_M Z B X D) (fun r w2 => ∃ D2, r = f_vset (a_F X) 0 w g s n 7 ∧ w2 = w_M Z B X D2) := by
  refine ki_of (by decide) [(0, .ref (B 0)), (1, .int (nI w)), (2, .int 0), (3, .int (nI g)), (4, .int s), (5, .int (nI n))] (Nat.le_of_ble_eq_true rfl) rfl ?_
  intro M e1 e2 K Rt
  subst e1 e2
  refine q_aload_n K 0 dX4_withWhich_0 rfl ?_
  refine q_iload_n K 1 dX4_withWhich_1 rfl ?_
  refine q_iload_n K 2 dX4_withWhich_2 rfl ?_
  refine q_wI (q0 := 0) (As := [.int (nI w), .int 0]) (rest := []) K kv_X4_its (c_X4_its (k_l M) (k_Z M) B X D w 0 (by omega) (by omega)) rfl rfl ml_X4_62 rfl rfl (Nat.le_of_ble_eq_true rfl) ⟨Nat.le_of_ble_eq_true rfl, Nat.le_of_ble_eq_true rfl⟩ dX4_withWhich_3 (fun r_2 w2 h_1 => ?_)
  obtain ⟨e_r_2, rfl⟩ := h_1
  refine q_eqi (f_kd (a_F X) w) e_r_2 ?_
  refine q_istore (lv' := [(6, .int (f_kd (a_F X) w)), (0, .ref (B 0)), (1, .int (nI w)), (2, .int 0), (3, .int (nI g)), (4, .int s), (5, .int (nI n))]) K dX4_withWhich_6 (by decide) rfl ?_
  refine q_iconst 0 K dX4_withWhich_8 rfl ?_
  refine q_istore (lv' := [(7, .int 0), (6, .int (f_kd (a_F X) w)), (0, .ref (B 0)), (1, .int (nI w)), (2, .int 0), (3, .int (nI g)), (4, .int s), (5, .int (nI n))]) K dX4_withWhich_9 (by decide) rfl ?_
  refine q_iconst 0 K dX4_withWhich_11 rfl ?_
  refine q_ws (ws' := w_M (k_Z M) B (f_setrow (a_F X) 0 (upd (f_row (a_F X) 0) w (f_row (a_F X) 0 w)), a_K X, a_kp X, a_fd X, a_tp X, a_S X) D) (congrArg (fun F9 => w_M (k_Z M) B (a_setF X F9) D) (f_rself (a_F X) (k := 0) (by omega) w).symm) ?_
  refine q_istore (lv' := [(8, .int 0), (7, .int 0), (6, .int (f_kd (a_F X) w)), (0, .ref (B 0)), (1, .int (nI w)), (2, .int 0), (3, .int (nI g)), (4, .int s), (5, .int (nI n))]) K dX4_withWhich_12 (by decide) rfl ?_
  refine q_loop (α := Nat × (Int32 × DJ)) (fun n9 x9 => x9.1 + n9 = 7) 14 (fun x9 => [(8, .int (nI x9.1)), (7, .int (f_vset (a_F X) 0 w g s n x9.1)), (6, .int (f_kd (a_F X) w)), (0, .ref (B 0)), (1, .int (nI w)), (2, .int 0), (3, .int (nI g)), (4, .int s), (5, .int (nI n))]) (fun x9 => w_M (k_Z M) B (f_setrow (a_F X) 0 (upd (f_row (a_F X) 0) w x9.2.1), a_K X, a_kp X, a_fd X, a_tp X, a_S X) x9.2.2) (fun n_3 x9 hI_4 ih_5 => ?_) 7 (0, (f_row (a_F X) 0 w, D)) rfl
  obtain ⟨v, ⟨x1, D1⟩⟩ := x9
  dsimp only at hI_4 ih_5 ⊢
  refine q_iload K 0 dX4_withWhich_14 rfl ?_
  refine q_iload_n K 5 dX4_withWhich_16 rfl ?_
  refine q_cp (rest := [.int (nI v)]) K ks_X4_greatestOf (c_X4_greatestOf (k_l M) (k_Z M) 0 (by omega)) ml_X4_99 rfl rfl (Nat.le_of_ble_eq_true rfl) ⟨Nat.le_of_ble_eq_true rfl, Nat.le_of_ble_eq_true rfl⟩ dX4_withWhich_17 (fun r_6 e_r_6 => ?_)
  refine q_eqi (o_most 0) e_r_6 ?_
  refine q_eqi 6 rfl ?_
  refine q_icmp_gt 69 K dX4_withWhich_20 (by decide) (fun c_7 => ?_) (fun c_7 => ?_)
  · have c_7n : 6 < v := (nI_ltI (a := 6) (b := v) (by omega) (by omega)).mp c_7
    refine q_aload_n K 3 dX4_withWhich_69 rfl ?_
    refine q_get (.ref (B 1)) K ws_X4 0 rfl rfl 0 (by decide) fl_X4_7 rfl dX4_withWhich_70 ?_
    refine q_iload_n K 4 dX4_withWhich_73 rfl ?_
    refine q_iload_n K 5 dX4_withWhich_74 rfl ?_
    refine q_cp (rest := [.ref (B 1)]) K ks_X4_at (c_X4_at (k_l M) (k_Z M) w 0) ml_X4_76 rfl rfl (Nat.le_of_ble_eq_true rfl) ⟨Nat.le_of_ble_eq_true rfl, Nat.le_of_ble_eq_true rfl⟩ dX4_withWhich_75 (fun r_8 e_r_8 => ?_)
    refine q_eqi (nI ((21 + (5 * w)) + 0)) e_r_8 ?_
    refine q_iload K 2 dX4_withWhich_78 rfl ?_
    refine q_iast (ws' := w_M (k_Z M) B (f_setrow (f_setrow (a_F X) 0 (upd (f_row (a_F X) 0) w x1)) 0 (upd (f_row (f_setrow (a_F X) 0 (upd (f_row (a_F X) 0) w x1)) 0) w (f_kd (a_F X) w)), a_K X, a_kp X, a_fd X, a_tp X, a_S X) D1) K 1 rfl (vp_in_nI (n := (21 + (5 * w)) + 0) (N := 71) (by omega) (by omega)) (by rw [nI_clamp (n := (21 + (5 * w)) + 0) (by omega), up_at _ (by omega) (by omega) _]; rfl) dX4_withWhich_80 ?_
    refine q_ws (ws' := w_M (k_Z M) B X D1) (congrArg (fun F9 => w_M (k_Z M) B (a_setF X F9) D1) (f_rback (a_F X) (k := 0) (by omega) w _)) ?_
    refine q_iload K 1 dX4_withWhich_81 rfl ?_
    exact Rt _ _ (f_vset (a_F X) 0 w g s n v) (w_M (k_Z M) B X D1) dX4_withWhich_83 rfl (⟨D1, by rw [show v = 7 by omega], rfl⟩)
  · have c_7n : ¬ (6 < v) := fun h9 => c_7 ((nI_ltI (a := 6) (b := v) (by omega) (by omega)).mpr h9)
    refine q_aload_n K 3 dX4_withWhich_23 rfl ?_
    refine q_get (.ref (B 1)) K ws_X4 0 rfl rfl 0 (by decide) fl_X4_7 rfl dX4_withWhich_24 ?_
    refine q_iload_n K 4 dX4_withWhich_27 rfl ?_
    refine q_iload_n K 5 dX4_withWhich_28 rfl ?_
    refine q_cp (rest := [.ref (B 1)]) K ks_X4_at (c_X4_at (k_l M) (k_Z M) w 0) ml_X4_76 rfl rfl (Nat.le_of_ble_eq_true rfl) ⟨Nat.le_of_ble_eq_true rfl, Nat.le_of_ble_eq_true rfl⟩ dX4_withWhich_29 (fun r_9 e_r_9 => ?_)
    refine q_eqi (nI ((21 + (5 * w)) + 0)) e_r_9 ?_
    refine q_iload K 0 dX4_withWhich_32 rfl ?_
    refine q_iast (ws' := w_M (k_Z M) B (f_setrow (f_setrow (a_F X) 0 (upd (f_row (a_F X) 0) w x1)) 0 (upd (f_row (f_setrow (a_F X) 0 (upd (f_row (a_F X) 0) w x1)) 0) w (nI v)), a_K X, a_kp X, a_fd X, a_tp X, a_S X) D1) K 1 rfl (vp_in_nI (n := (21 + (5 * w)) + 0) (N := 71) (by omega) (by omega)) (by rw [nI_clamp (n := (21 + (5 * w)) + 0) (by omega), up_at _ (by omega) (by omega) _]; rfl) dX4_withWhich_34 ?_
    refine q_ws (ws' := w_M (k_Z M) B (f_setrow (a_F X) 0 (upd (f_row (a_F X) 0) w (nI v)), a_K X, a_kp X, a_fd X, a_tp X, a_S X) D1) (congrArg (fun F9 => w_M (k_Z M) B (a_setF X F9) D1) (f_rr (a_F X) (k := 0) (by omega) w _ _)) ?_
    refine q_iload K 1 dX4_withWhich_35 rfl ?_
    refine q_aload_n K 3 dX4_withWhich_37 rfl ?_
    refine q_bipush 13 K dX4_withWhich_38 rfl ?_
    refine q_iload_n K 6 dX4_withWhich_40 rfl ?_
    refine q_iadd K dX4_withWhich_41 ?_
    refine q_eqi (nI (13 + g)) (kn_add 13 g) ?_
    refine q_iload K 8 dX4_withWhich_42 rfl ?_
    refine q_wI (q0 := 0) (As := [.int (nI (13 + g)), .int (nI n)]) (rest := [.int (f_vset (a_F X) 0 w g s n v)]) K kv_X4_thenAt (c_X4_thenAt (k_l M) (k_Z M) B (f_setrow (a_F X) 0 (upd (f_row (a_F X) 0) w (nI v)), a_K X, a_kp X, a_fd X, a_tp X, a_S X) D1 m hm hm2 hok (13 + g) (by omega) n (by omega)) rfl rfl ml_X4_147 rfl rfl (Nat.le_of_ble_eq_true rfl) ⟨Nat.le_of_ble_eq_true rfl, Nat.le_of_ble_eq_true rfl⟩ dX4_withWhich_44 (fun r_11 w2 h_10 => ?_)
    obtain ⟨D_12, e_r_11, rfl⟩ := h_10
    refine q_eqi (f_gs (f_hoursC goA (f_setrow (a_F X) 0 (upd (f_row (a_F X) 0) w (nI v))) n) g) ((e_r_11.trans (rw_gs _ (by omega))).trans (hC_gs (F := f_setrow (a_F X) 0 (upd (f_row (a_F X) 0) w (nI v))) hm hm2 _ _)) ?_
    refine q_ws (ws' := w_M (k_Z M) B (f_setrow (a_F X) 0 (upd (f_row (a_F X) 0) w (nI v)), a_K X, a_kp X, a_fd X, a_tp X, a_S X) D_12) rfl ?_
    refine q_iload K 7 dX4_withWhich_47 rfl ?_
    refine q_icmp_ne 59 K dX4_withWhich_49 (by decide) (fun c_13 => ?_) (fun c_13 => ?_)
    · refine q_iconst 0 K dX4_withWhich_59 rfl ?_
      refine q_ior K dX4_withWhich_60 ?_
      refine q_istore (lv' := [(7, .int ((f_vset (a_F X) 0 w g s n v) ||| 0)), (8, .int (nI v)), (6, .int (f_kd (a_F X) w)), (0, .ref (B 0)), (1, .int (nI w)), (2, .int 0), (3, .int (nI g)), (4, .int s), (5, .int (nI n))]) K dX4_withWhich_61 (by decide) rfl ?_
      refine q_iinc (nI (v + 1)) (lv' := [(8, .int (nI (v + 1))), (7, .int ((f_vset (a_F X) 0 w g s n v) ||| 0)), (6, .int (f_kd (a_F X) w)), (0, .ref (B 0)), (1, .int (nI w)), (2, .int 0), (3, .int (nI g)), (4, .int s), (5, .int (nI n))]) K 1 dX4_withWhich_63 rfl (kn_inc v) (by decide) rfl ?_
      refine q_goto 14 K dX4_withWhich_66 (by decide) ?_
      rw [show (f_vset (a_F X) 0 w g s n v) ||| 0 = f_vset (a_F X) 0 w g s n (v + 1) by simp only [f_vset, if_neg c_13, Int32.or_zero]]
      exact ih_5 (n_3 - 1) (v + 1, nI v, D_12) (by omega) (by show v + 1 + (n_3 - 1) = 7; omega)
    · refine q_iconst 1 K dX4_withWhich_52 rfl ?_
      refine q_iload K 0 dX4_withWhich_53 rfl ?_
      refine q_ishl K dX4_withWhich_55 ?_
      refine q_goto 60 K dX4_withWhich_56 (by decide) ?_
      refine q_ior K dX4_withWhich_60 ?_
      refine q_istore (lv' := [(7, .int ((f_vset (a_F X) 0 w g s n v) ||| (1 <<< ((nI v) &&& 31)))), (8, .int (nI v)), (6, .int (f_kd (a_F X) w)), (0, .ref (B 0)), (1, .int (nI w)), (2, .int 0), (3, .int (nI g)), (4, .int s), (5, .int (nI n))]) K dX4_withWhich_61 (by decide) rfl ?_
      refine q_iinc (nI (v + 1)) (lv' := [(8, .int (nI (v + 1))), (7, .int ((f_vset (a_F X) 0 w g s n v) ||| (1 <<< ((nI v) &&& 31)))), (6, .int (f_kd (a_F X) w)), (0, .ref (B 0)), (1, .int (nI w)), (2, .int 0), (3, .int (nI g)), (4, .int s), (5, .int (nI n))]) K 1 dX4_withWhich_63 rfl (kn_inc v) (by decide) rfl ?_
      refine q_goto 14 K dX4_withWhich_66 (by decide) ?_
      rw [show (f_vset (a_F X) 0 w g s n v) ||| (1 <<< ((nI v) &&& 31)) = f_vset (a_F X) 0 w g s n (v + 1) by simp only [f_vset, if_pos c_13, Int32.or_zero]]
      exact ih_5 (n_3 - 1) (v + 1, nI v, D_12) (by omega) (by show v + 1 + (n_3 - 1) = 7; omega)
set_option maxHeartbeats 4000000 in
set_option maxRecDepth 100000 in
theorem c_X4_withWhich1 (l : Launch) (Z : kz_Z) (B : Nat → Nat) (X : AS) (D : DJ) (m : Nat) (hm : m ≤ 8) (hm2 : f_wk (a_F X) = nI m) (hok : f_ok (a_F X)) (w : Nat) (hw : w < 8) (g : Nat) (hg : g < 8) (s : Int32) (n : Nat) (hn : n ≤ 40) : KI l Z yX4_withWhich cX4_withWhich 9 .int 6 142 [.ref (B 0), .int (nI w), .int 1, .int (nI g), .int s, .int (nI n)] (w_M Z B X D) (fun r w2 => ∃ D2, r = f_vset (a_F X) 1 w g s n 9 ∧ w2 = w_M Z B X D2) := by
  refine ki_of (by decide) [(0, .ref (B 0)), (1, .int (nI w)), (2, .int 1), (3, .int (nI g)), (4, .int s), (5, .int (nI n))] (Nat.le_of_ble_eq_true rfl) rfl ?_
  intro M e1 e2 K Rt
  subst e1 e2
  refine q_aload_n K 0 dX4_withWhich_0 rfl ?_
  refine q_iload_n K 1 dX4_withWhich_1 rfl ?_
  refine q_iload_n K 2 dX4_withWhich_2 rfl ?_
  refine q_wI (q0 := 0) (As := [.int (nI w), .int 1]) (rest := []) K kv_X4_its (c_X4_its (k_l M) (k_Z M) B X D w 1 (by omega) (by omega)) rfl rfl ml_X4_62 rfl rfl (Nat.le_of_ble_eq_true rfl) ⟨Nat.le_of_ble_eq_true rfl, Nat.le_of_ble_eq_true rfl⟩ dX4_withWhich_3 (fun r_2 w2 h_1 => ?_)
  obtain ⟨e_r_2, rfl⟩ := h_1
  refine q_eqi (f_fd (a_F X) w) e_r_2 ?_
  refine q_istore (lv' := [(6, .int (f_fd (a_F X) w)), (0, .ref (B 0)), (1, .int (nI w)), (2, .int 1), (3, .int (nI g)), (4, .int s), (5, .int (nI n))]) K dX4_withWhich_6 (by decide) rfl ?_
  refine q_iconst 0 K dX4_withWhich_8 rfl ?_
  refine q_istore (lv' := [(7, .int 0), (6, .int (f_fd (a_F X) w)), (0, .ref (B 0)), (1, .int (nI w)), (2, .int 1), (3, .int (nI g)), (4, .int s), (5, .int (nI n))]) K dX4_withWhich_9 (by decide) rfl ?_
  refine q_iconst 0 K dX4_withWhich_11 rfl ?_
  refine q_ws (ws' := w_M (k_Z M) B (f_setrow (a_F X) 1 (upd (f_row (a_F X) 1) w (f_row (a_F X) 1 w)), a_K X, a_kp X, a_fd X, a_tp X, a_S X) D) (congrArg (fun F9 => w_M (k_Z M) B (a_setF X F9) D) (f_rself (a_F X) (k := 1) (by omega) w).symm) ?_
  refine q_istore (lv' := [(8, .int 0), (7, .int 0), (6, .int (f_fd (a_F X) w)), (0, .ref (B 0)), (1, .int (nI w)), (2, .int 1), (3, .int (nI g)), (4, .int s), (5, .int (nI n))]) K dX4_withWhich_12 (by decide) rfl ?_
  refine q_loop (α := Nat × (Int32 × DJ)) (fun n9 x9 => x9.1 + n9 = 9) 14 (fun x9 => [(8, .int (nI x9.1)), (7, .int (f_vset (a_F X) 1 w g s n x9.1)), (6, .int (f_fd (a_F X) w)), (0, .ref (B 0)), (1, .int (nI w)), (2, .int 1), (3, .int (nI g)), (4, .int s), (5, .int (nI n))]) (fun x9 => w_M (k_Z M) B (f_setrow (a_F X) 1 (upd (f_row (a_F X) 1) w x9.2.1), a_K X, a_kp X, a_fd X, a_tp X, a_S X) x9.2.2) (fun n_3 x9 hI_4 ih_5 => ?_) 9 (0, (f_row (a_F X) 1 w, D)) rfl
  obtain ⟨v, ⟨x1, D1⟩⟩ := x9
  dsimp only at hI_4 ih_5 ⊢
  refine q_iload K 0 dX4_withWhich_14 rfl ?_
  refine q_iload_n K 5 dX4_withWhich_16 rfl ?_
  refine q_cp (rest := [.int (nI v)]) K ks_X4_greatestOf (c_X4_greatestOf (k_l M) (k_Z M) 1 (by omega)) ml_X4_99 rfl rfl (Nat.le_of_ble_eq_true rfl) ⟨Nat.le_of_ble_eq_true rfl, Nat.le_of_ble_eq_true rfl⟩ dX4_withWhich_17 (fun r_6 e_r_6 => ?_)
  refine q_eqi (o_most 1) e_r_6 ?_
  refine q_eqi 8 rfl ?_
  refine q_icmp_gt 69 K dX4_withWhich_20 (by decide) (fun c_7 => ?_) (fun c_7 => ?_)
  · have c_7n : 8 < v := (nI_ltI (a := 8) (b := v) (by omega) (by omega)).mp c_7
    refine q_aload_n K 3 dX4_withWhich_69 rfl ?_
    refine q_get (.ref (B 1)) K ws_X4 0 rfl rfl 0 (by decide) fl_X4_7 rfl dX4_withWhich_70 ?_
    refine q_iload_n K 4 dX4_withWhich_73 rfl ?_
    refine q_iload_n K 5 dX4_withWhich_74 rfl ?_
    refine q_cp (rest := [.ref (B 1)]) K ks_X4_at (c_X4_at (k_l M) (k_Z M) w 1) ml_X4_76 rfl rfl (Nat.le_of_ble_eq_true rfl) ⟨Nat.le_of_ble_eq_true rfl, Nat.le_of_ble_eq_true rfl⟩ dX4_withWhich_75 (fun r_8 e_r_8 => ?_)
    refine q_eqi (nI ((21 + (5 * w)) + 1)) e_r_8 ?_
    refine q_iload K 2 dX4_withWhich_78 rfl ?_
    refine q_iast (ws' := w_M (k_Z M) B (f_setrow (f_setrow (a_F X) 1 (upd (f_row (a_F X) 1) w x1)) 1 (upd (f_row (f_setrow (a_F X) 1 (upd (f_row (a_F X) 1) w x1)) 1) w (f_fd (a_F X) w)), a_K X, a_kp X, a_fd X, a_tp X, a_S X) D1) K 1 rfl (vp_in_nI (n := (21 + (5 * w)) + 1) (N := 71) (by omega) (by omega)) (by rw [nI_clamp (n := (21 + (5 * w)) + 1) (by omega), up_at _ (by omega) (by omega) _]; rfl) dX4_withWhich_80 ?_
    refine q_ws (ws' := w_M (k_Z M) B X D1) (congrArg (fun F9 => w_M (k_Z M) B (a_setF X F9) D1) (f_rback (a_F X) (k := 1) (by omega) w _)) ?_
    refine q_iload K 1 dX4_withWhich_81 rfl ?_
    exact Rt _ _ (f_vset (a_F X) 1 w g s n v) (w_M (k_Z M) B X D1) dX4_withWhich_83 rfl (⟨D1, by rw [show v = 9 by omega], rfl⟩)
  · have c_7n : ¬ (8 < v) := fun h9 => c_7 ((nI_ltI (a := 8) (b := v) (by omega) (by omega)).mpr h9)
    refine q_aload_n K 3 dX4_withWhich_23 rfl ?_
    refine q_get (.ref (B 1)) K ws_X4 0 rfl rfl 0 (by decide) fl_X4_7 rfl dX4_withWhich_24 ?_
    refine q_iload_n K 4 dX4_withWhich_27 rfl ?_
    refine q_iload_n K 5 dX4_withWhich_28 rfl ?_
    refine q_cp (rest := [.ref (B 1)]) K ks_X4_at (c_X4_at (k_l M) (k_Z M) w 1) ml_X4_76 rfl rfl (Nat.le_of_ble_eq_true rfl) ⟨Nat.le_of_ble_eq_true rfl, Nat.le_of_ble_eq_true rfl⟩ dX4_withWhich_29 (fun r_9 e_r_9 => ?_)
    refine q_eqi (nI ((21 + (5 * w)) + 1)) e_r_9 ?_
    refine q_iload K 0 dX4_withWhich_32 rfl ?_
    refine q_iast (ws' := w_M (k_Z M) B (f_setrow (f_setrow (a_F X) 1 (upd (f_row (a_F X) 1) w x1)) 1 (upd (f_row (f_setrow (a_F X) 1 (upd (f_row (a_F X) 1) w x1)) 1) w (nI v)), a_K X, a_kp X, a_fd X, a_tp X, a_S X) D1) K 1 rfl (vp_in_nI (n := (21 + (5 * w)) + 1) (N := 71) (by omega) (by omega)) (by rw [nI_clamp (n := (21 + (5 * w)) + 1) (by omega), up_at _ (by omega) (by omega) _]; rfl) dX4_withWhich_34 ?_
    refine q_ws (ws' := w_M (k_Z M) B (f_setrow (a_F X) 1 (upd (f_row (a_F X) 1) w (nI v)), a_K X, a_kp X, a_fd X, a_tp X, a_S X) D1) (congrArg (fun F9 => w_M (k_Z M) B (a_setF X F9) D1) (f_rr (a_F X) (k := 1) (by omega) w _ _)) ?_
    refine q_iload K 1 dX4_withWhich_35 rfl ?_
    refine q_aload_n K 3 dX4_withWhich_37 rfl ?_
    refine q_bipush 13 K dX4_withWhich_38 rfl ?_
    refine q_iload_n K 6 dX4_withWhich_40 rfl ?_
    refine q_iadd K dX4_withWhich_41 ?_
    refine q_eqi (nI (13 + g)) (kn_add 13 g) ?_
    refine q_iload K 8 dX4_withWhich_42 rfl ?_
    refine q_wI (q0 := 0) (As := [.int (nI (13 + g)), .int (nI n)]) (rest := [.int (f_vset (a_F X) 1 w g s n v)]) K kv_X4_thenAt (c_X4_thenAt (k_l M) (k_Z M) B (f_setrow (a_F X) 1 (upd (f_row (a_F X) 1) w (nI v)), a_K X, a_kp X, a_fd X, a_tp X, a_S X) D1 m hm hm2 hok (13 + g) (by omega) n (by omega)) rfl rfl ml_X4_147 rfl rfl (Nat.le_of_ble_eq_true rfl) ⟨Nat.le_of_ble_eq_true rfl, Nat.le_of_ble_eq_true rfl⟩ dX4_withWhich_44 (fun r_11 w2 h_10 => ?_)
    obtain ⟨D_12, e_r_11, rfl⟩ := h_10
    refine q_eqi (f_gs (f_hoursC goA (f_setrow (a_F X) 1 (upd (f_row (a_F X) 1) w (nI v))) n) g) ((e_r_11.trans (rw_gs _ (by omega))).trans (hC_gs (F := f_setrow (a_F X) 1 (upd (f_row (a_F X) 1) w (nI v))) hm hm2 _ _)) ?_
    refine q_ws (ws' := w_M (k_Z M) B (f_setrow (a_F X) 1 (upd (f_row (a_F X) 1) w (nI v)), a_K X, a_kp X, a_fd X, a_tp X, a_S X) D_12) rfl ?_
    refine q_iload K 7 dX4_withWhich_47 rfl ?_
    refine q_icmp_ne 59 K dX4_withWhich_49 (by decide) (fun c_13 => ?_) (fun c_13 => ?_)
    · refine q_iconst 0 K dX4_withWhich_59 rfl ?_
      refine q_ior K dX4_withWhich_60 ?_
      refine q_istore (lv' := [(7, .int ((f_vset (a_F X) 1 w g s n v) ||| 0)), (8, .int (nI v)), (6, .int (f_fd (a_F X) w)), (0, .ref (B 0)), (1, .int (nI w)), (2, .int 1), (3, .int (nI g)), (4, .int s), (5, .int (nI n))]) K dX4_withWhich_61 (by decide) rfl ?_
      refine q_iinc (nI (v + 1)) (lv' := [(8, .int (nI (v + 1))), (7, .int ((f_vset (a_F X) 1 w g s n v) ||| 0)), (6, .int (f_fd (a_F X) w)), (0, .ref (B 0)), (1, .int (nI w)), (2, .int 1), (3, .int (nI g)), (4, .int s), (5, .int (nI n))]) K 1 dX4_withWhich_63 rfl (kn_inc v) (by decide) rfl ?_
      refine q_goto 14 K dX4_withWhich_66 (by decide) ?_
      rw [show (f_vset (a_F X) 1 w g s n v) ||| 0 = f_vset (a_F X) 1 w g s n (v + 1) by simp only [f_vset, if_neg c_13, Int32.or_zero]]
      exact ih_5 (n_3 - 1) (v + 1, nI v, D_12) (by omega) (by show v + 1 + (n_3 - 1) = 9; omega)
    · refine q_iconst 1 K dX4_withWhich_52 rfl ?_
      refine q_iload K 0 dX4_withWhich_53 rfl ?_
      refine q_ishl K dX4_withWhich_55 ?_
      refine q_goto 60 K dX4_withWhich_56 (by decide) ?_
      refine q_ior K dX4_withWhich_60 ?_
      refine q_istore (lv' := [(7, .int ((f_vset (a_F X) 1 w g s n v) ||| (1 <<< ((nI v) &&& 31)))), (8, .int (nI v)), (6, .int (f_fd (a_F X) w)), (0, .ref (B 0)), (1, .int (nI w)), (2, .int 1), (3, .int (nI g)), (4, .int s), (5, .int (nI n))]) K dX4_withWhich_61 (by decide) rfl ?_
      refine q_iinc (nI (v + 1)) (lv' := [(8, .int (nI (v + 1))), (7, .int ((f_vset (a_F X) 1 w g s n v) ||| (1 <<< ((nI v) &&& 31)))), (6, .int (f_fd (a_F X) w)), (0, .ref (B 0)), (1, .int (nI w)), (2, .int 1), (3, .int (nI g)), (4, .int s), (5, .int (nI n))]) K 1 dX4_withWhich_63 rfl (kn_inc v) (by decide) rfl ?_
      refine q_goto 14 K dX4_withWhich_66 (by decide) ?_
      rw [show (f_vset (a_F X) 1 w g s n v) ||| (1 <<< ((nI v) &&& 31)) = f_vset (a_F X) 1 w g s n (v + 1) by simp only [f_vset, if_pos c_13, Int32.or_zero]]
      exact ih_5 (n_3 - 1) (v + 1, nI v, D_12) (by omega) (by show v + 1 + (n_3 - 1) = 9; omega)
set_option maxHeartbeats 4000000 in
set_option maxRecDepth 100000 in
theorem c_X4_withWhich3 (l : Launch) (Z : kz_Z) (B : Nat → Nat) (X : AS) (D : DJ) (m : Nat) (hm : m ≤ 8) (hm2 : f_wk (a_F X) = nI m) (hok : f_ok (a_F X)) (w : Nat) (hw : w < 8) (g : Nat) (hg : g < 8) (s : Int32) (n : Nat) (hn : n ≤ 40) : KI l Z yX4_withWhich cX4_withWhich 9 .int 6 142 [.ref (B 0), .int (nI w), .int 3, .int (nI g), .int s, .int (nI n)] (w_M Z B X D) (fun r w2 => ∃ D2, r = f_vset (a_F X) 3 w g s n 10 ∧ w2 = w_M Z B X D2) := by
  refine ki_of (by decide) [(0, .ref (B 0)), (1, .int (nI w)), (2, .int 3), (3, .int (nI g)), (4, .int s), (5, .int (nI n))] (Nat.le_of_ble_eq_true rfl) rfl ?_
  intro M e1 e2 K Rt
  subst e1 e2
  refine q_aload_n K 0 dX4_withWhich_0 rfl ?_
  refine q_iload_n K 1 dX4_withWhich_1 rfl ?_
  refine q_iload_n K 2 dX4_withWhich_2 rfl ?_
  refine q_wI (q0 := 0) (As := [.int (nI w), .int 3]) (rest := []) K kv_X4_its (c_X4_its (k_l M) (k_Z M) B X D w 3 (by omega) (by omega)) rfl rfl ml_X4_62 rfl rfl (Nat.le_of_ble_eq_true rfl) ⟨Nat.le_of_ble_eq_true rfl, Nat.le_of_ble_eq_true rfl⟩ dX4_withWhich_3 (fun r_2 w2 h_1 => ?_)
  obtain ⟨e_r_2, rfl⟩ := h_1
  refine q_eqi (f_md (a_F X) w) e_r_2 ?_
  refine q_istore (lv' := [(6, .int (f_md (a_F X) w)), (0, .ref (B 0)), (1, .int (nI w)), (2, .int 3), (3, .int (nI g)), (4, .int s), (5, .int (nI n))]) K dX4_withWhich_6 (by decide) rfl ?_
  refine q_iconst 0 K dX4_withWhich_8 rfl ?_
  refine q_istore (lv' := [(7, .int 0), (6, .int (f_md (a_F X) w)), (0, .ref (B 0)), (1, .int (nI w)), (2, .int 3), (3, .int (nI g)), (4, .int s), (5, .int (nI n))]) K dX4_withWhich_9 (by decide) rfl ?_
  refine q_iconst 0 K dX4_withWhich_11 rfl ?_
  refine q_ws (ws' := w_M (k_Z M) B (f_setrow (a_F X) 3 (upd (f_row (a_F X) 3) w (f_row (a_F X) 3 w)), a_K X, a_kp X, a_fd X, a_tp X, a_S X) D) (congrArg (fun F9 => w_M (k_Z M) B (a_setF X F9) D) (f_rself (a_F X) (k := 3) (by omega) w).symm) ?_
  refine q_istore (lv' := [(8, .int 0), (7, .int 0), (6, .int (f_md (a_F X) w)), (0, .ref (B 0)), (1, .int (nI w)), (2, .int 3), (3, .int (nI g)), (4, .int s), (5, .int (nI n))]) K dX4_withWhich_12 (by decide) rfl ?_
  refine q_loop (α := Nat × (Int32 × DJ)) (fun n9 x9 => x9.1 + n9 = 10) 14 (fun x9 => [(8, .int (nI x9.1)), (7, .int (f_vset (a_F X) 3 w g s n x9.1)), (6, .int (f_md (a_F X) w)), (0, .ref (B 0)), (1, .int (nI w)), (2, .int 3), (3, .int (nI g)), (4, .int s), (5, .int (nI n))]) (fun x9 => w_M (k_Z M) B (f_setrow (a_F X) 3 (upd (f_row (a_F X) 3) w x9.2.1), a_K X, a_kp X, a_fd X, a_tp X, a_S X) x9.2.2) (fun n_3 x9 hI_4 ih_5 => ?_) 10 (0, (f_row (a_F X) 3 w, D)) rfl
  obtain ⟨v, ⟨x1, D1⟩⟩ := x9
  dsimp only at hI_4 ih_5 ⊢
  refine q_iload K 0 dX4_withWhich_14 rfl ?_
  refine q_iload_n K 5 dX4_withWhich_16 rfl ?_
  refine q_cp (rest := [.int (nI v)]) K ks_X4_greatestOf (c_X4_greatestOf (k_l M) (k_Z M) 3 (by omega)) ml_X4_99 rfl rfl (Nat.le_of_ble_eq_true rfl) ⟨Nat.le_of_ble_eq_true rfl, Nat.le_of_ble_eq_true rfl⟩ dX4_withWhich_17 (fun r_6 e_r_6 => ?_)
  refine q_eqi (o_most 3) e_r_6 ?_
  refine q_eqi 9 rfl ?_
  refine q_icmp_gt 69 K dX4_withWhich_20 (by decide) (fun c_7 => ?_) (fun c_7 => ?_)
  · have c_7n : 9 < v := (nI_ltI (a := 9) (b := v) (by omega) (by omega)).mp c_7
    refine q_aload_n K 3 dX4_withWhich_69 rfl ?_
    refine q_get (.ref (B 1)) K ws_X4 0 rfl rfl 0 (by decide) fl_X4_7 rfl dX4_withWhich_70 ?_
    refine q_iload_n K 4 dX4_withWhich_73 rfl ?_
    refine q_iload_n K 5 dX4_withWhich_74 rfl ?_
    refine q_cp (rest := [.ref (B 1)]) K ks_X4_at (c_X4_at (k_l M) (k_Z M) w 3) ml_X4_76 rfl rfl (Nat.le_of_ble_eq_true rfl) ⟨Nat.le_of_ble_eq_true rfl, Nat.le_of_ble_eq_true rfl⟩ dX4_withWhich_75 (fun r_8 e_r_8 => ?_)
    refine q_eqi (nI ((21 + (5 * w)) + 3)) e_r_8 ?_
    refine q_iload K 2 dX4_withWhich_78 rfl ?_
    refine q_iast (ws' := w_M (k_Z M) B (f_setrow (f_setrow (a_F X) 3 (upd (f_row (a_F X) 3) w x1)) 3 (upd (f_row (f_setrow (a_F X) 3 (upd (f_row (a_F X) 3) w x1)) 3) w (f_md (a_F X) w)), a_K X, a_kp X, a_fd X, a_tp X, a_S X) D1) K 1 rfl (vp_in_nI (n := (21 + (5 * w)) + 3) (N := 71) (by omega) (by omega)) (by rw [nI_clamp (n := (21 + (5 * w)) + 3) (by omega), up_at _ (by omega) (by omega) _]; rfl) dX4_withWhich_80 ?_
    refine q_ws (ws' := w_M (k_Z M) B X D1) (congrArg (fun F9 => w_M (k_Z M) B (a_setF X F9) D1) (f_rback (a_F X) (k := 3) (by omega) w _)) ?_
    refine q_iload K 1 dX4_withWhich_81 rfl ?_
    exact Rt _ _ (f_vset (a_F X) 3 w g s n v) (w_M (k_Z M) B X D1) dX4_withWhich_83 rfl (⟨D1, by rw [show v = 10 by omega], rfl⟩)
  · have c_7n : ¬ (9 < v) := fun h9 => c_7 ((nI_ltI (a := 9) (b := v) (by omega) (by omega)).mpr h9)
    refine q_aload_n K 3 dX4_withWhich_23 rfl ?_
    refine q_get (.ref (B 1)) K ws_X4 0 rfl rfl 0 (by decide) fl_X4_7 rfl dX4_withWhich_24 ?_
    refine q_iload_n K 4 dX4_withWhich_27 rfl ?_
    refine q_iload_n K 5 dX4_withWhich_28 rfl ?_
    refine q_cp (rest := [.ref (B 1)]) K ks_X4_at (c_X4_at (k_l M) (k_Z M) w 3) ml_X4_76 rfl rfl (Nat.le_of_ble_eq_true rfl) ⟨Nat.le_of_ble_eq_true rfl, Nat.le_of_ble_eq_true rfl⟩ dX4_withWhich_29 (fun r_9 e_r_9 => ?_)
    refine q_eqi (nI ((21 + (5 * w)) + 3)) e_r_9 ?_
    refine q_iload K 0 dX4_withWhich_32 rfl ?_
    refine q_iast (ws' := w_M (k_Z M) B (f_setrow (f_setrow (a_F X) 3 (upd (f_row (a_F X) 3) w x1)) 3 (upd (f_row (f_setrow (a_F X) 3 (upd (f_row (a_F X) 3) w x1)) 3) w (nI v)), a_K X, a_kp X, a_fd X, a_tp X, a_S X) D1) K 1 rfl (vp_in_nI (n := (21 + (5 * w)) + 3) (N := 71) (by omega) (by omega)) (by rw [nI_clamp (n := (21 + (5 * w)) + 3) (by omega), up_at _ (by omega) (by omega) _]; rfl) dX4_withWhich_34 ?_
    refine q_ws (ws' := w_M (k_Z M) B (f_setrow (a_F X) 3 (upd (f_row (a_F X) 3) w (nI v)), a_K X, a_kp X, a_fd X, a_tp X, a_S X) D1) (congrArg (fun F9 => w_M (k_Z M) B (a_setF X F9) D1) (f_rr (a_F X) (k := 3) (by omega) w _ _)) ?_
    refine q_iload K 1 dX4_withWhich_35 rfl ?_
    refine q_aload_n K 3 dX4_withWhich_37 rfl ?_
    refine q_bipush 13 K dX4_withWhich_38 rfl ?_
    refine q_iload_n K 6 dX4_withWhich_40 rfl ?_
    refine q_iadd K dX4_withWhich_41 ?_
    refine q_eqi (nI (13 + g)) (kn_add 13 g) ?_
    refine q_iload K 8 dX4_withWhich_42 rfl ?_
    refine q_wI (q0 := 0) (As := [.int (nI (13 + g)), .int (nI n)]) (rest := [.int (f_vset (a_F X) 3 w g s n v)]) K kv_X4_thenAt (c_X4_thenAt (k_l M) (k_Z M) B (f_setrow (a_F X) 3 (upd (f_row (a_F X) 3) w (nI v)), a_K X, a_kp X, a_fd X, a_tp X, a_S X) D1 m hm hm2 (f_ok_md hok (by omega)) (13 + g) (by omega) n (by omega)) rfl rfl ml_X4_147 rfl rfl (Nat.le_of_ble_eq_true rfl) ⟨Nat.le_of_ble_eq_true rfl, Nat.le_of_ble_eq_true rfl⟩ dX4_withWhich_44 (fun r_11 w2 h_10 => ?_)
    obtain ⟨D_12, e_r_11, rfl⟩ := h_10
    refine q_eqi (f_gs (f_hoursC goA (f_setrow (a_F X) 3 (upd (f_row (a_F X) 3) w (nI v))) n) g) ((e_r_11.trans (rw_gs _ (by omega))).trans (hC_gs (F := f_setrow (a_F X) 3 (upd (f_row (a_F X) 3) w (nI v))) hm hm2 _ _)) ?_
    refine q_ws (ws' := w_M (k_Z M) B (f_setrow (a_F X) 3 (upd (f_row (a_F X) 3) w (nI v)), a_K X, a_kp X, a_fd X, a_tp X, a_S X) D_12) rfl ?_
    refine q_iload K 7 dX4_withWhich_47 rfl ?_
    refine q_icmp_ne 59 K dX4_withWhich_49 (by decide) (fun c_13 => ?_) (fun c_13 => ?_)
    · refine q_iconst 0 K dX4_withWhich_59 rfl ?_
      refine q_ior K dX4_withWhich_60 ?_
      refine q_istore (lv' := [(7, .int ((f_vset (a_F X) 3 w g s n v) ||| 0)), (8, .int (nI v)), (6, .int (f_md (a_F X) w)), (0, .ref (B 0)), (1, .int (nI w)), (2, .int 3), (3, .int (nI g)), (4, .int s), (5, .int (nI n))]) K dX4_withWhich_61 (by decide) rfl ?_
      refine q_iinc (nI (v + 1)) (lv' := [(8, .int (nI (v + 1))), (7, .int ((f_vset (a_F X) 3 w g s n v) ||| 0)), (6, .int (f_md (a_F X) w)), (0, .ref (B 0)), (1, .int (nI w)), (2, .int 3), (3, .int (nI g)), (4, .int s), (5, .int (nI n))]) K 1 dX4_withWhich_63 rfl (kn_inc v) (by decide) rfl ?_
      refine q_goto 14 K dX4_withWhich_66 (by decide) ?_
      rw [show (f_vset (a_F X) 3 w g s n v) ||| 0 = f_vset (a_F X) 3 w g s n (v + 1) by simp only [f_vset, if_neg c_13, Int32.or_zero]]
      exact ih_5 (n_3 - 1) (v + 1, nI v, D_12) (by omega) (by show v + 1 + (n_3 - 1) = 10; omega)
    · refine q_iconst 1 K dX4_withWhich_52 rfl ?_
      refine q_iload K 0 dX4_withWhich_53 rfl ?_
      refine q_ishl K dX4_withWhich_55 ?_
      refine q_goto 60 K dX4_withWhich_56 (by decide) ?_
      refine q_ior K dX4_withWhich_60 ?_
      refine q_istore (lv' := [(7, .int ((f_vset (a_F X) 3 w g s n v) ||| (1 <<< ((nI v) &&& 31)))), (8, .int (nI v)), (6, .int (f_md (a_F X) w)), (0, .ref (B 0)), (1, .int (nI w)), (2, .int 3), (3, .int (nI g)), (4, .int s), (5, .int (nI n))]) K dX4_withWhich_61 (by decide) rfl ?_
      refine q_iinc (nI (v + 1)) (lv' := [(8, .int (nI (v + 1))), (7, .int ((f_vset (a_F X) 3 w g s n v) ||| (1 <<< ((nI v) &&& 31)))), (6, .int (f_md (a_F X) w)), (0, .ref (B 0)), (1, .int (nI w)), (2, .int 3), (3, .int (nI g)), (4, .int s), (5, .int (nI n))]) K 1 dX4_withWhich_63 rfl (kn_inc v) (by decide) rfl ?_
      refine q_goto 14 K dX4_withWhich_66 (by decide) ?_
      rw [show (f_vset (a_F X) 3 w g s n v) ||| (1 <<< ((nI v) &&& 31)) = f_vset (a_F X) 3 w g s n (v + 1) by simp only [f_vset, if_pos c_13, Int32.or_zero]]
      exact ih_5 (n_3 - 1) (v + 1, nI v, D_12) (by omega) (by show v + 1 + (n_3 - 1) = 10; omega)
theorem kv_X4_withWhich : k_iv yX4_withWhich cX4_withWhich 9 (some .int) 5 := ⟨⟨im_X4_withWhich, se_X4_withWhich⟩, in_X4, co_X4_withWhich, by decide +kernel⟩
set_option maxHeartbeats 4000000 in
set_option maxRecDepth 100000 in
theorem c_X4_kindsFor (l : Launch) (Z : kz_Z) (B : Nat → Nat) (X : AS) (D : DJ) (m : Nat) (hm : m ≤ 8) (hm2 : f_wk (a_F X) = nI m) (hok : f_ok (a_F X)) (w g s n : Int32) : KI l Z yX4_kindsFor cX4_kindsFor 5 .int 7 170 [.ref (B 0), .int w, .int g, .int s, .int n] (w_M Z B X D) (fun r w2 => ∃ D2, r = (o_kindsFor X w g s n).1 ∧ w2 = w_M Z B (o_kindsFor X w g s n).2 D2) := by
  refine ki_of (by decide) [(0, .ref (B 0)), (1, .int w), (2, .int g), (3, .int s), (4, .int n)] (Nat.le_of_ble_eq_true rfl) rfl ?_
  intro M e1 e2 K Rt
  subst e1 e2
  refine q_aload_n K 0 dX4_kindsFor_0 rfl ?_
  refine q_iload_n K 1 dX4_kindsFor_1 rfl ?_
  refine q_iload_n K 2 dX4_kindsFor_2 rfl ?_
  refine q_iload_n K 3 dX4_kindsFor_3 rfl ?_
  refine q_iload K 4 dX4_kindsFor_4 rfl ?_
  refine q_wI (q0 := 0) (As := [.int w, .int g, .int s, .int n]) (rest := []) K kv_X4_isAsked (c_X4_isAsked (k_l M) (k_Z M) B X D m hm hm2 w g s n) rfl rfl ml_X4_152 rfl rfl (Nat.le_of_ble_eq_true rfl) ⟨Nat.le_of_ble_eq_true rfl, Nat.le_of_ble_eq_true rfl⟩ dX4_kindsFor_6 (fun r_2 w2 h_1 => ?_)
  obtain ⟨e_r_2, rfl⟩ := h_1
  refine q_if_eq 25 K dX4_kindsFor_9 (by decide) (fun c_3 => ?_) (fun c_3 => ?_)
  · have c_3 : ¬ (isWish X w g s n) := (kn_eq e_r_2).mp c_3
    refine q_aload_n K 0 dX4_kindsFor_25 rfl ?_
    refine q_ldc K dX4_kindsFor_26 ct_X4_40 ?_
    refine q_eqi (r_fin 0) (by decide) ?_
    refine q_wI (q0 := 0) (As := [.int (r_fin 0)]) (rest := []) K kv_X4_finds (c_X4_finds (k_l M) (k_Z M) B X D 0 (by omega)) rfl rfl ml_X4_48 rfl rfl (Nat.le_of_ble_eq_true rfl) ⟨Nat.le_of_ble_eq_true rfl, Nat.le_of_ble_eq_true rfl⟩ dX4_kindsFor_28 (fun r_5 w2 h_4 => ?_)
    obtain ⟨e_r_5, rfl⟩ := h_4
    refine q_eqi (r_fin 0) e_r_5 ?_
    refine q_ws (ws' := w_M (k_Z M) B (a_F X, a_K X, a_kp X, fd_up (a_fd X) 0, a_tp X, a_S X) D) rfl ?_
    exact Rt _ _ (r_fin 0) (w_M (k_Z M) B (a_F X, a_K X, a_kp X, fd_up (a_fd X) 0, a_tp X, a_S X) D) dX4_kindsFor_31 rfl (⟨D, by simp only [o_kindsFor, a_fin, if_neg c_3, e_r_2] <;> rfl, by simp only [o_kindsFor, a_fin, if_neg c_3] <;> rfl⟩)
  · have c_3 : isWish X w g s n := (kn_ne e_r_2).mp c_3
    obtain ⟨q1, q2, q3, q4⟩ := id c_3
    obtain ⟨u, h_u, e_u⟩ := isW_nat hm hm2 q1
    obtain ⟨v, h_v, e_v⟩ := kn_rng (n := 7) q2 rfl
    obtain ⟨k, h_k, e_k⟩ := kn_rng (n := 40) q4 rfl
    subst e_u e_v e_k
    refine q_aload_n K 0 dX4_kindsFor_12 rfl ?_
    refine q_iload_n K 1 dX4_kindsFor_13 rfl ?_
    refine q_iconst 0 K dX4_kindsFor_14 rfl ?_
    refine q_iload_n K 2 dX4_kindsFor_15 rfl ?_
    refine q_iload_n K 3 dX4_kindsFor_16 rfl ?_
    refine q_iload K 4 dX4_kindsFor_17 rfl ?_
    refine q_wI (q0 := 0) (As := [.int (nI u), .int 0, .int (nI v), .int s, .int (nI k)]) (rest := []) K kv_X4_withWhich (c_X4_withWhich0 (k_l M) (k_Z M) B X D m hm hm2 hok u (by omega) v (by omega) s k (by omega)) rfl rfl ml_X4_156 rfl rfl (Nat.le_of_ble_eq_true rfl) ⟨Nat.le_of_ble_eq_true rfl, Nat.le_of_ble_eq_true rfl⟩ dX4_kindsFor_19 (fun r_7 w2 h_6 => ?_)
    obtain ⟨D_8, e_r_7, rfl⟩ := h_6
    refine q_eqi (f_vset (a_F X) 0 u v s k 7) e_r_7 ?_
    refine q_goto 31 K dX4_kindsFor_22 (by decide) ?_
    exact Rt _ _ (f_vset (a_F X) 0 u v s k 7) (w_M (k_Z M) B X D_8) dX4_kindsFor_31 rfl (⟨D_8, by simp only [o_kindsFor, a_fin, if_pos c_3, e_r_2, nI_clamp (n := u) (by omega), nI_clamp (n := v) (by omega), nI_clamp (n := k) (by omega)] <;> rfl, by simp only [o_kindsFor, a_fin, if_pos c_3, nI_clamp (n := u) (by omega), nI_clamp (n := v) (by omega), nI_clamp (n := k) (by omega)] <;> rfl⟩)
theorem kv_X4_kindsFor : k_iv yX4_kindsFor cX4_kindsFor 5 (some .int) 4 := ⟨⟨im_X4_kindsFor, se_X4_kindsFor⟩, in_X4, co_X4_kindsFor, by decide +kernel⟩
set_option maxHeartbeats 4000000 in
set_option maxRecDepth 100000 in
theorem c_X4_moods (l : Launch) (Z : kz_Z) (B : Nat → Nat) (X : AS) (D : DJ) (m : Nat) (hm : m ≤ 8) (hm2 : f_wk (a_F X) = nI m) (hok : f_ok (a_F X)) (w g s n : Int32) : KI l Z yX4_moods cX4_moods 5 .int 7 170 [.ref (B 0), .int w, .int g, .int s, .int n] (w_M Z B X D) (fun r w2 => ∃ D2, r = (o_moods X w g s n).1 ∧ w2 = w_M Z B (o_moods X w g s n).2 D2) := by
  refine ki_of (by decide) [(0, .ref (B 0)), (1, .int w), (2, .int g), (3, .int s), (4, .int n)] (Nat.le_of_ble_eq_true rfl) rfl ?_
  intro M e1 e2 K Rt
  subst e1 e2
  refine q_aload_n K 0 dX4_moods_0 rfl ?_
  refine q_iload_n K 1 dX4_moods_1 rfl ?_
  refine q_iload_n K 2 dX4_moods_2 rfl ?_
  refine q_iload_n K 3 dX4_moods_3 rfl ?_
  refine q_iload K 4 dX4_moods_4 rfl ?_
  refine q_wI (q0 := 0) (As := [.int w, .int g, .int s, .int n]) (rest := []) K kv_X4_isAsked (c_X4_isAsked (k_l M) (k_Z M) B X D m hm hm2 w g s n) rfl rfl ml_X4_152 rfl rfl (Nat.le_of_ble_eq_true rfl) ⟨Nat.le_of_ble_eq_true rfl, Nat.le_of_ble_eq_true rfl⟩ dX4_moods_6 (fun r_2 w2 h_1 => ?_)
  obtain ⟨e_r_2, rfl⟩ := h_1
  refine q_if_eq 25 K dX4_moods_9 (by decide) (fun c_3 => ?_) (fun c_3 => ?_)
  · have c_3 : ¬ (isWish X w g s n) := (kn_eq e_r_2).mp c_3
    refine q_aload_n K 0 dX4_moods_25 rfl ?_
    refine q_ldc K dX4_moods_26 ct_X4_40 ?_
    refine q_eqi (r_fin 0) (by decide) ?_
    refine q_wI (q0 := 0) (As := [.int (r_fin 0)]) (rest := []) K kv_X4_finds (c_X4_finds (k_l M) (k_Z M) B X D 0 (by omega)) rfl rfl ml_X4_48 rfl rfl (Nat.le_of_ble_eq_true rfl) ⟨Nat.le_of_ble_eq_true rfl, Nat.le_of_ble_eq_true rfl⟩ dX4_moods_28 (fun r_5 w2 h_4 => ?_)
    obtain ⟨e_r_5, rfl⟩ := h_4
    refine q_eqi (r_fin 0) e_r_5 ?_
    refine q_ws (ws' := w_M (k_Z M) B (a_F X, a_K X, a_kp X, fd_up (a_fd X) 0, a_tp X, a_S X) D) rfl ?_
    exact Rt _ _ (r_fin 0) (w_M (k_Z M) B (a_F X, a_K X, a_kp X, fd_up (a_fd X) 0, a_tp X, a_S X) D) dX4_moods_31 rfl (⟨D, by simp only [o_moods, a_fin, if_neg c_3, e_r_2] <;> rfl, by simp only [o_moods, a_fin, if_neg c_3] <;> rfl⟩)
  · have c_3 : isWish X w g s n := (kn_ne e_r_2).mp c_3
    obtain ⟨q1, q2, q3, q4⟩ := id c_3
    obtain ⟨u, h_u, e_u⟩ := isW_nat hm hm2 q1
    obtain ⟨v, h_v, e_v⟩ := kn_rng (n := 7) q2 rfl
    obtain ⟨k, h_k, e_k⟩ := kn_rng (n := 40) q4 rfl
    subst e_u e_v e_k
    refine q_aload_n K 0 dX4_moods_12 rfl ?_
    refine q_iload_n K 1 dX4_moods_13 rfl ?_
    refine q_iconst 3 K dX4_moods_14 rfl ?_
    refine q_iload_n K 2 dX4_moods_15 rfl ?_
    refine q_iload_n K 3 dX4_moods_16 rfl ?_
    refine q_iload K 4 dX4_moods_17 rfl ?_
    refine q_wI (q0 := 0) (As := [.int (nI u), .int 3, .int (nI v), .int s, .int (nI k)]) (rest := []) K kv_X4_withWhich (c_X4_withWhich3 (k_l M) (k_Z M) B X D m hm hm2 hok u (by omega) v (by omega) s k (by omega)) rfl rfl ml_X4_156 rfl rfl (Nat.le_of_ble_eq_true rfl) ⟨Nat.le_of_ble_eq_true rfl, Nat.le_of_ble_eq_true rfl⟩ dX4_moods_19 (fun r_7 w2 h_6 => ?_)
    obtain ⟨D_8, e_r_7, rfl⟩ := h_6
    refine q_eqi (f_vset (a_F X) 3 u v s k 10) e_r_7 ?_
    refine q_goto 31 K dX4_moods_22 (by decide) ?_
    exact Rt _ _ (f_vset (a_F X) 3 u v s k 10) (w_M (k_Z M) B X D_8) dX4_moods_31 rfl (⟨D_8, by simp only [o_moods, a_fin, if_pos c_3, e_r_2, nI_clamp (n := u) (by omega), nI_clamp (n := v) (by omega), nI_clamp (n := k) (by omega)] <;> rfl, by simp only [o_moods, a_fin, if_pos c_3, nI_clamp (n := u) (by omega), nI_clamp (n := v) (by omega), nI_clamp (n := k) (by omega)] <;> rfl⟩)
theorem kv_X4_moods : k_iv yX4_moods cX4_moods 5 (some .int) 4 := ⟨⟨im_X4_moods, se_X4_moods⟩, in_X4, co_X4_moods, by decide +kernel⟩
set_option maxHeartbeats 4000000 in
set_option maxRecDepth 100000 in
theorem c_X4_start (l : Launch) (Z : kz_Z) (B : Nat → Nat) (X : AS) (D : DJ) (m : Nat) (hm : m ≤ 8) (hm2 : f_wk (a_F X) = nI m) (hok : f_ok (a_F X)) (w g s n : Int32) : KI l Z yX4_start cX4_start 5 .int 7 170 [.ref (B 0), .int w, .int g, .int s, .int n] (w_M Z B X D) (fun r w2 => ∃ D2, r = (o_start X w g s n).1 ∧ w2 = w_M Z B (o_start X w g s n).2 D2) := by
  refine ki_of (by decide) [(0, .ref (B 0)), (1, .int w), (2, .int g), (3, .int s), (4, .int n)] (Nat.le_of_ble_eq_true rfl) rfl ?_
  intro M e1 e2 K Rt
  subst e1 e2
  refine q_aload_n K 0 dX4_start_0 rfl ?_
  refine q_iload_n K 1 dX4_start_1 rfl ?_
  refine q_iload_n K 2 dX4_start_2 rfl ?_
  refine q_iload_n K 3 dX4_start_3 rfl ?_
  refine q_iload K 4 dX4_start_4 rfl ?_
  refine q_wI (q0 := 0) (As := [.int w, .int g, .int s, .int n]) (rest := []) K kv_X4_isAsked (c_X4_isAsked (k_l M) (k_Z M) B X D m hm hm2 w g s n) rfl rfl ml_X4_152 rfl rfl (Nat.le_of_ble_eq_true rfl) ⟨Nat.le_of_ble_eq_true rfl, Nat.le_of_ble_eq_true rfl⟩ dX4_start_6 (fun r_2 w2 h_1 => ?_)
  obtain ⟨e_r_2, rfl⟩ := h_1
  refine q_if_eq 32 K dX4_start_9 (by decide) (fun c_3 => ?_) (fun c_3 => ?_)
  · have c_3 : ¬ (isWish X w g s n) := (kn_eq e_r_2).mp c_3
    refine q_aload_n K 0 dX4_start_32 rfl ?_
    refine q_ldc K dX4_start_33 ct_X4_40 ?_
    refine q_eqi (r_fin 0) (by decide) ?_
    refine q_wI (q0 := 0) (As := [.int (r_fin 0)]) (rest := []) K kv_X4_finds (c_X4_finds (k_l M) (k_Z M) B X D 0 (by omega)) rfl rfl ml_X4_48 rfl rfl (Nat.le_of_ble_eq_true rfl) ⟨Nat.le_of_ble_eq_true rfl, Nat.le_of_ble_eq_true rfl⟩ dX4_start_35 (fun r_5 w2 h_4 => ?_)
    obtain ⟨e_r_5, rfl⟩ := h_4
    refine q_eqi (r_fin 0) e_r_5 ?_
    refine q_ws (ws' := w_M (k_Z M) B (a_F X, a_K X, a_kp X, fd_up (a_fd X) 0, a_tp X, a_S X) D) rfl ?_
    exact Rt _ _ (r_fin 0) (w_M (k_Z M) B (a_F X, a_K X, a_kp X, fd_up (a_fd X) 0, a_tp X, a_S X) D) dX4_start_38 rfl (⟨D, by simp only [o_start, a_fin, if_neg c_3, e_r_2] <;> rfl, by simp only [o_start, a_fin, if_neg c_3] <;> rfl⟩)
  · have c_3 : isWish X w g s n := (kn_ne e_r_2).mp c_3
    obtain ⟨q1, q2, q3, q4⟩ := id c_3
    obtain ⟨u, h_u, e_u⟩ := isW_nat hm hm2 q1
    obtain ⟨v, h_v, e_v⟩ := kn_rng (n := 7) q2 rfl
    obtain ⟨k, h_k, e_k⟩ := kn_rng (n := 40) q4 rfl
    subst e_u e_v e_k
    refine q_aload_n K 0 dX4_start_12 rfl ?_
    refine q_aload_n K 0 dX4_start_13 rfl ?_
    refine q_iload_n K 1 dX4_start_14 rfl ?_
    refine q_iconst 1 K dX4_start_15 rfl ?_
    refine q_iload_n K 2 dX4_start_16 rfl ?_
    refine q_iload_n K 3 dX4_start_17 rfl ?_
    refine q_iload K 4 dX4_start_18 rfl ?_
    refine q_wI (q0 := 0) (As := [.int (nI u), .int 1, .int (nI v), .int s, .int (nI k)]) (rest := [.ref (B 0)]) K kv_X4_withWhich (c_X4_withWhich1 (k_l M) (k_Z M) B X D m hm hm2 hok u (by omega) v (by omega) s k (by omega)) rfl rfl ml_X4_156 rfl rfl (Nat.le_of_ble_eq_true rfl) ⟨Nat.le_of_ble_eq_true rfl, Nat.le_of_ble_eq_true rfl⟩ dX4_start_20 (fun r_7 w2 h_6 => ?_)
    obtain ⟨D_8, e_r_7, rfl⟩ := h_6
    refine q_eqi (f_vset (a_F X) 1 u v s k 9) e_r_7 ?_
    obtain ⟨t, ht, et⟩ : ∃ t : Nat, t < 512 ∧ (f_vset (a_F X) 1 u v s k 9) = nI t := f_vset_nat _ _ _ _ _ _ 9 (by omega)
    refine q_eqi (nI t) et ?_
    refine q_cp (rest := [.ref (B 0)]) K ks_X4_lowest (c_X4_lowest (k_l M) (k_Z M) t ht) ml_X4_160 rfl rfl (Nat.le_of_ble_eq_true rfl) ⟨Nat.le_of_ble_eq_true rfl, Nat.le_of_ble_eq_true rfl⟩ dX4_start_23 (fun r_9 e_r_9 => ?_)
    by_cases h0 : t = 0
    · rw [if_pos h0] at e_r_9
      refine q_eqi (-1) e_r_9 ?_
      have e0 : f_vset (a_F X) 1 u v s k 9 = 0 := et.trans (by rw [h0]; rfl)
      refine q_wI (q0 := 0) (As := [.int (-1)]) (rest := []) K kv_X4_orNone (c_X4_orNone (k_l M) (k_Z M) B X D_8 (-1)) rfl rfl ml_X4_163 rfl rfl (Nat.le_of_ble_eq_true rfl) ⟨Nat.le_of_ble_eq_true rfl, Nat.le_of_ble_eq_true rfl⟩ dX4_start_26 (fun r_11 w2 h_10 => ?_)
      obtain ⟨-, e_r_11, rfl⟩ : _ ∧ _ ∧ _ := h_10.resolve_right (fun h9 => h9.1 (by decide))
      refine q_eqi (r_fin 3) e_r_11 ?_
      refine q_ws (ws' := w_M (k_Z M) B (a_F X, a_K X, a_kp X, fd_up (a_fd X) 3, a_tp X, a_S X) D_8) rfl ?_
      refine q_goto 38 K dX4_start_29 (by decide) ?_
      exact Rt _ _ (r_fin 3) (w_M (k_Z M) B (a_F X, a_K X, a_kp X, fd_up (a_fd X) 3, a_tp X, a_S X) D_8) dX4_start_38 rfl (⟨D_8, by simp only [o_start, a_fin, if_pos c_3, if_pos e0, e_r_2, nI_clamp (n := u) (by omega), nI_clamp (n := v) (by omega), nI_clamp (n := k) (by omega)] <;> rfl, by simp only [o_start, a_fin, if_pos c_3, if_pos e0, nI_clamp (n := u) (by omega), nI_clamp (n := v) (by omega), nI_clamp (n := k) (by omega)] <;> rfl⟩)
    · rw [if_neg h0] at e_r_9
      obtain ⟨z, hz, hz1, -⟩ := r_lowE ht
      rw [(hz1 h0).1] at e_r_9
      refine q_eqi (nI z) e_r_9 ?_
      have e0 : ¬ f_vset (a_F X) 1 u v s k 9 = 0 := by rw [et]; exact nI_ne0 (by omega) (by omega)
      have e1 : nI z = j_ntz (f_vset (a_F X) 1 u v s k 9) := by rw [et, (hz1 h0).1]
      refine q_wI (q0 := 0) (As := [.int (nI z)]) (rest := []) K kv_X4_orNone (c_X4_orNone (k_l M) (k_Z M) B X D_8 (nI z)) rfl rfl ml_X4_163 rfl rfl (Nat.le_of_ble_eq_true rfl) ⟨Nat.le_of_ble_eq_true rfl, Nat.le_of_ble_eq_true rfl⟩ dX4_start_26 (fun r_13 w2 h_12 => ?_)
      obtain ⟨-, e_r_13, rfl⟩ : _ ∧ _ ∧ _ := h_12.resolve_left (fun h9 => (nI_pos (by omega)) h9.1)
      refine q_eqi (nI z) e_r_13 ?_
      refine q_ws (ws' := w_M (k_Z M) B X D_8) rfl ?_
      refine q_goto 38 K dX4_start_29 (by decide) ?_
      exact Rt _ _ (nI z) (w_M (k_Z M) B X D_8) dX4_start_38 rfl (⟨D_8, by simp only [o_start, a_fin, if_pos c_3, if_neg e0, e_r_2, ← e1, nI_clamp (n := u) (by omega), nI_clamp (n := v) (by omega), nI_clamp (n := k) (by omega)] <;> rfl, by simp only [o_start, a_fin, if_pos c_3, if_neg e0, nI_clamp (n := u) (by omega), nI_clamp (n := v) (by omega), nI_clamp (n := k) (by omega)] <;> rfl⟩)
theorem kv_X4_start : k_iv yX4_start cX4_start 5 (some .int) 4 := ⟨⟨im_X4_start, se_X4_start⟩, in_X4, co_X4_start, by decide +kernel⟩
set_option maxHeartbeats 4000000 in
set_option maxRecDepth 100000 in
theorem c_X4_windFor (l : Launch) (Z : kz_Z) (B : Nat → Nat) (X : AS) (D : DJ) (m : Nat) (hm : m ≤ 8) (hm2 : f_wk (a_F X) = nI m) (hok : f_ok (a_F X)) (field v n : Int32) : KI l Z yX4_windFor cX4_windFor 7 .int 6 142 [.ref (B 0), .int field, .int v, .int n] (w_M Z B X D) (fun r w2 => ∃ D2, r = (o_windFor X field v n).1 ∧ w2 = w_M Z B (o_windFor X field v n).2 D2) := by
  refine ki_of (by decide) [(0, .ref (B 0)), (1, .int field), (2, .int v), (3, .int n)] (Nat.le_of_ble_eq_true rfl) rfl ?_
  intro M e1 e2 K Rt
  subst e1 e2
  refine q_iload_n K 1 dX4_windFor_0 rfl ?_
  refine q_cp (rest := []) K ks_X4_isField (c_X4_isField (k_l M) (k_Z M) field) ml_X4_52 rfl rfl (Nat.le_of_ble_eq_true rfl) ⟨Nat.le_of_ble_eq_true rfl, Nat.le_of_ble_eq_true rfl⟩ dX4_windFor_1 (fun r_1 e_r_1 => ?_)
  refine q_if_eq 31 K dX4_windFor_4 (by decide) (fun c_2 => ?_) (fun c_2 => ?_)
  · have c_2 : ¬ (inR field 0 8) := (kn_eq e_r_1).mp c_2
    refine q_aload_n K 0 dX4_windFor_31 rfl ?_
    refine q_ldc K dX4_windFor_32 ct_X4_40 ?_
    refine q_eqi (r_fin 0) (by decide) ?_
    refine q_wI (q0 := 0) (As := [.int (r_fin 0)]) (rest := []) K kv_X4_finds (c_X4_finds (k_l M) (k_Z M) B X D 0 (by omega)) rfl rfl ml_X4_48 rfl rfl (Nat.le_of_ble_eq_true rfl) ⟨Nat.le_of_ble_eq_true rfl, Nat.le_of_ble_eq_true rfl⟩ dX4_windFor_34 (fun r_4 w2 h_3 => ?_)
    obtain ⟨e_r_4, rfl⟩ := h_3
    refine q_eqi (r_fin 0) e_r_4 ?_
    refine q_ws (ws' := w_M (k_Z M) B (a_F X, a_K X, a_kp X, fd_up (a_fd X) 0, a_tp X, a_S X) D) rfl ?_
    exact Rt _ _ (r_fin 0) (w_M (k_Z M) B (a_F X, a_K X, a_kp X, fd_up (a_fd X) 0, a_tp X, a_S X) D) dX4_windFor_37 rfl (⟨D, by simp only [o_windFor, a_fin, if_neg c_2, e_r_1] <;> rfl, by simp only [o_windFor, a_fin, if_neg c_2] <;> rfl⟩)
  · have c_2 : inR field 0 8 := (kn_ne e_r_1).mp c_2
    obtain ⟨f, h_f, e_f⟩ := kn_rng (n := 8) c_2 rfl
    subst e_f
    refine q_iload_n K 2 dX4_windFor_7 rfl ?_
    refine q_i2l K dX4_windFor_8 ?_
    refine q_lconst 0 K dX4_windFor_9 rfl ?_
    refine q_ldc2 K dX4_windFor_10 ct_X4_56 ?_
    refine q_cp (rest := []) K ks_X4_isIn (c_X4_isIn (k_l M) (k_Z M) v.toInt64 0 9999) ml_X4_43 rfl rfl (Nat.le_of_ble_eq_true rfl) ⟨Nat.le_of_ble_eq_true rfl, Nat.le_of_ble_eq_true rfl⟩ dX4_windFor_13 (fun r_5 e_r_5 => ?_)
    have e_r_5 : r_5 = if inR v 0 9999 then 1 else 0 := kn_if e_r_5 (kn_i64 (v := v) (lo := 0) (hi := 9999))
    refine q_if_eq 31 K dX4_windFor_16 (by decide) (fun c_6 => ?_) (fun c_6 => ?_)
    · have c_6 : ¬ (inR v 0 9999) := (kn_eq e_r_5).mp c_6
      refine q_aload_n K 0 dX4_windFor_31 rfl ?_
      refine q_ldc K dX4_windFor_32 ct_X4_40 ?_
      refine q_eqi (r_fin 0) (by decide) ?_
      refine q_wI (q0 := 0) (As := [.int (r_fin 0)]) (rest := []) K kv_X4_finds (c_X4_finds (k_l M) (k_Z M) B X D 0 (by omega)) rfl rfl ml_X4_48 rfl rfl (Nat.le_of_ble_eq_true rfl) ⟨Nat.le_of_ble_eq_true rfl, Nat.le_of_ble_eq_true rfl⟩ dX4_windFor_34 (fun r_8 w2 h_7 => ?_)
      obtain ⟨e_r_8, rfl⟩ := h_7
      refine q_eqi (r_fin 0) e_r_8 ?_
      refine q_ws (ws' := w_M (k_Z M) B (a_F X, a_K X, a_kp X, fd_up (a_fd X) 0, a_tp X, a_S X) D) rfl ?_
      exact Rt _ _ (r_fin 0) (w_M (k_Z M) B (a_F X, a_K X, a_kp X, fd_up (a_fd X) 0, a_tp X, a_S X) D) dX4_windFor_37 rfl (⟨D, by simp only [o_windFor, a_fin, if_pos c_2, if_neg c_6, e_r_1, e_r_5, nI_clamp (n := f) (by omega)] <;> rfl, by simp only [o_windFor, a_fin, if_pos c_2, if_neg c_6, nI_clamp (n := f) (by omega)] <;> rfl⟩)
    · have c_6 : inR v 0 9999 := (kn_ne e_r_5).mp c_6
      refine q_iload_n K 3 dX4_windFor_19 rfl ?_
      refine q_i2l K dX4_windFor_20 ?_
      refine q_lconst 0 K dX4_windFor_21 rfl ?_
      refine q_ldc2 K dX4_windFor_22 ct_X4_150 ?_
      refine q_cp (rest := []) K ks_X4_isIn (c_X4_isIn (k_l M) (k_Z M) n.toInt64 0 40) ml_X4_43 rfl rfl (Nat.le_of_ble_eq_true rfl) ⟨Nat.le_of_ble_eq_true rfl, Nat.le_of_ble_eq_true rfl⟩ dX4_windFor_25 (fun r_9 e_r_9 => ?_)
      have e_r_9 : r_9 = if inR n 0 40 then 1 else 0 := kn_if e_r_9 (kn_i64 (v := n) (lo := 0) (hi := 40))
      refine q_if_ne 38 K dX4_windFor_28 (by decide) (fun c_10 => ?_) (fun c_10 => ?_)
      · have c_10 : inR n 0 40 := (kn_ne e_r_9).mp c_10
        obtain ⟨k, h_k, e_k⟩ := kn_rng (n := 40) c_10 rfl
        subst e_k
        refine q_aload_n K 0 dX4_windFor_38 rfl ?_
        refine q_get (.ref (B 1)) K ws_X4 0 rfl rfl 0 (by decide) fl_X4_7 rfl dX4_windFor_39 ?_
        refine q_iconst 3 K dX4_windFor_42 rfl ?_
        refine q_iald K 1 rfl (vp_in_nI (n := 3) (N := 71) (by omega) (by omega)) dX4_windFor_43 ?_
        refine q_eqi (f_wd (a_F X)) rfl ?_
        refine q_istore (lv' := [(4, .int (f_wd (a_F X))), (0, .ref (B 0)), (1, .int (nI f)), (2, .int v), (3, .int (nI k))]) K dX4_windFor_44 (by decide) rfl ?_
        refine q_iconst (-1) K dX4_windFor_46 rfl ?_
        refine q_istore (lv' := [(5, .int (-1)), (4, .int (f_wd (a_F X))), (0, .ref (B 0)), (1, .int (nI f)), (2, .int v), (3, .int (nI k))]) K dX4_windFor_47 (by decide) rfl ?_
        refine q_iconst 0 K dX4_windFor_49 rfl ?_
        refine q_ws (ws' := w_M (k_Z M) B (f_setwd (a_F X) (f_wd (a_F X)), a_K X, a_kp X, a_fd X, a_tp X, a_S X) D) rfl ?_
        refine q_istore (lv' := [(6, .int 0), (5, .int (-1)), (4, .int (f_wd (a_F X))), (0, .ref (B 0)), (1, .int (nI f)), (2, .int v), (3, .int (nI k))]) K dX4_windFor_50 (by decide) rfl ?_
        refine q_loop (α := Nat × (Int32 × Int32 × DJ)) (fun n9 x9 => (x9.1 + n9 = 10) ∧ ((x9.2.1 = -1 ∧ o_find (p_windFor (a_F X) f v k) 10 0 = o_find (p_windFor (a_F X) f v k) n9 x9.1) ∨ (∃ y : Nat, y < 10 ∧ x9.2.1 = nI y ∧ o_find (p_windFor (a_F X) f v k) 10 0 = y))) 52 (fun x9 => [(6, .int (nI x9.1)), (5, .int x9.2.1), (4, .int (f_wd (a_F X))), (0, .ref (B 0)), (1, .int (nI f)), (2, .int v), (3, .int (nI k))]) (fun x9 => w_M (k_Z M) B (f_setwd (a_F X) x9.2.2.1, a_K X, a_kp X, a_fd X, a_tp X, a_S X) x9.2.2.2) (fun n_11 x9 hI_12 ih_13 => ?_) 10 (0, (-1, f_wd (a_F X), D)) ⟨rfl, Or.inl ⟨rfl, rfl⟩⟩
        obtain ⟨i, ⟨b1, wd1, D1⟩⟩ := x9
        dsimp only at hI_12 ih_13 ⊢
        obtain ⟨hI, hB⟩ := hI_12
        refine q_iload K 0 dX4_windFor_52 rfl ?_
        refine q_bipush 9 K dX4_windFor_54 rfl ?_
        refine q_icmp_gt 98 K dX4_windFor_56 (by decide) (fun c_14 => ?_) (fun c_14 => ?_)
        · have c_14n : 9 < i := (nI_ltI (a := 9) (b := i) (by omega) (by omega)).mp c_14
          rcases hB with ⟨rfl, hF⟩ | ⟨y, hy, rfl, hF⟩
          · rw [show n_11 = 0 by omega] at hF
            have hF : o_find (p_windFor (a_F X) f v k) 10 0 = 10 := hF.trans (show i = 10 by omega)
            refine q_aload_n K 3 dX4_windFor_98 rfl ?_
            refine q_get (.ref (B 1)) K ws_X4 0 rfl rfl 0 (by decide) fl_X4_7 rfl dX4_windFor_99 ?_
            refine q_iconst 3 K dX4_windFor_102 rfl ?_
            refine q_iload K 2 dX4_windFor_103 rfl ?_
            refine q_iast (ws' := w_M (k_Z M) B (f_setwd (f_setwd (a_F X) wd1) (f_wd (a_F X)), a_K X, a_kp X, a_fd X, a_tp X, a_S X) D1) K 1 rfl (vp_in_nI (n := 3) (N := 71) (by omega) (by omega)) (by rw [show (3 : Int32).toNatClampNeg = 3 from rfl, up_3 _ _]; rfl) dX4_windFor_105 ?_
            refine q_ws (ws' := w_M (k_Z M) B X D1) rfl ?_
            refine q_aload_n K 3 dX4_windFor_106 rfl ?_
            refine q_iload K 1 dX4_windFor_107 rfl ?_
            refine q_wI (q0 := 0) (As := [.int (-1)]) (rest := []) K kv_X4_orNone (c_X4_orNone (k_l M) (k_Z M) B X D1 (-1)) rfl rfl ml_X4_163 rfl rfl (Nat.le_of_ble_eq_true rfl) ⟨Nat.le_of_ble_eq_true rfl, Nat.le_of_ble_eq_true rfl⟩ dX4_windFor_109 (fun r_16 w2 h_15 => ?_)
            obtain ⟨-, e_r_16, rfl⟩ : _ ∧ _ ∧ _ := h_15.resolve_right (fun h9 => h9.1 (by decide))
            refine q_eqi (r_fin 3) e_r_16 ?_
            refine q_ws (ws' := w_M (k_Z M) B (a_F X, a_K X, a_kp X, fd_up (a_fd X) 3, a_tp X, a_S X) D1) rfl ?_
            exact Rt _ _ (r_fin 3) (w_M (k_Z M) B (a_F X, a_K X, a_kp X, fd_up (a_fd X) 3, a_tp X, a_S X) D1) dX4_windFor_112 rfl (⟨D1, by simp only [o_windFor, a_fin, if_pos c_2, if_pos c_6, if_pos c_10, if_pos c_14, nI_clamp (n := f) (by omega), nI_clamp (n := k) (by omega), hF, o_none, if_neg (show ¬ 10 < 10 by omega)] <;> rfl, by simp only [o_windFor, a_fin, if_pos c_2, if_pos c_6, if_pos c_10, if_pos c_14, nI_clamp (n := f) (by omega), nI_clamp (n := k) (by omega), hF, o_none, if_neg (show ¬ 10 < 10 by omega)] <;> rfl⟩)
          · refine q_aload_n K 3 dX4_windFor_98 rfl ?_
            refine q_get (.ref (B 1)) K ws_X4 0 rfl rfl 0 (by decide) fl_X4_7 rfl dX4_windFor_99 ?_
            refine q_iconst 3 K dX4_windFor_102 rfl ?_
            refine q_iload K 2 dX4_windFor_103 rfl ?_
            refine q_iast (ws' := w_M (k_Z M) B (f_setwd (f_setwd (a_F X) wd1) (f_wd (a_F X)), a_K X, a_kp X, a_fd X, a_tp X, a_S X) D1) K 1 rfl (vp_in_nI (n := 3) (N := 71) (by omega) (by omega)) (by rw [show (3 : Int32).toNatClampNeg = 3 from rfl, up_3 _ _]; rfl) dX4_windFor_105 ?_
            refine q_ws (ws' := w_M (k_Z M) B X D1) rfl ?_
            refine q_aload_n K 3 dX4_windFor_106 rfl ?_
            refine q_iload K 1 dX4_windFor_107 rfl ?_
            refine q_wI (q0 := 0) (As := [.int (nI y)]) (rest := []) K kv_X4_orNone (c_X4_orNone (k_l M) (k_Z M) B X D1 (nI y)) rfl rfl ml_X4_163 rfl rfl (Nat.le_of_ble_eq_true rfl) ⟨Nat.le_of_ble_eq_true rfl, Nat.le_of_ble_eq_true rfl⟩ dX4_windFor_109 (fun r_18 w2 h_17 => ?_)
            obtain ⟨-, e_r_18, rfl⟩ : _ ∧ _ ∧ _ := h_17.resolve_left (fun h9 => (nI_pos (by omega)) h9.1)
            refine q_eqi (nI y) e_r_18 ?_
            refine q_ws (ws' := w_M (k_Z M) B X D1) rfl ?_
            exact Rt _ _ (nI y) (w_M (k_Z M) B X D1) dX4_windFor_112 rfl (⟨D1, by simp only [o_windFor, a_fin, if_pos c_2, if_pos c_6, if_pos c_10, if_pos c_14, nI_clamp (n := f) (by omega), nI_clamp (n := k) (by omega), hF, o_none, if_pos hy] <;> rfl, by simp only [o_windFor, a_fin, if_pos c_2, if_pos c_6, if_pos c_10, if_pos c_14, nI_clamp (n := f) (by omega), nI_clamp (n := k) (by omega), hF, o_none, if_pos hy] <;> rfl⟩)
        · have c_14n : ¬ (9 < i) := fun h9 => c_14 ((nI_ltI (a := 9) (b := i) (by omega) (by omega)).mpr h9)
          refine q_iload K 1 dX4_windFor_59 rfl ?_
          refine q_if_ge 98 K dX4_windFor_61 (by decide) (fun c_19 => ?_) (fun c_19 => ?_)
          · rcases hB with ⟨rfl, hF⟩ | ⟨y, hy, rfl, hF⟩
            · exact absurd c_19 (by decide)
            · refine q_aload_n K 3 dX4_windFor_98 rfl ?_
              refine q_get (.ref (B 1)) K ws_X4 0 rfl rfl 0 (by decide) fl_X4_7 rfl dX4_windFor_99 ?_
              refine q_iconst 3 K dX4_windFor_102 rfl ?_
              refine q_iload K 2 dX4_windFor_103 rfl ?_
              refine q_iast (ws' := w_M (k_Z M) B (f_setwd (f_setwd (a_F X) wd1) (f_wd (a_F X)), a_K X, a_kp X, a_fd X, a_tp X, a_S X) D1) K 1 rfl (vp_in_nI (n := 3) (N := 71) (by omega) (by omega)) (by rw [show (3 : Int32).toNatClampNeg = 3 from rfl, up_3 _ _]; rfl) dX4_windFor_105 ?_
              refine q_ws (ws' := w_M (k_Z M) B X D1) rfl ?_
              refine q_aload_n K 3 dX4_windFor_106 rfl ?_
              refine q_iload K 1 dX4_windFor_107 rfl ?_
              refine q_wI (q0 := 0) (As := [.int (nI y)]) (rest := []) K kv_X4_orNone (c_X4_orNone (k_l M) (k_Z M) B X D1 (nI y)) rfl rfl ml_X4_163 rfl rfl (Nat.le_of_ble_eq_true rfl) ⟨Nat.le_of_ble_eq_true rfl, Nat.le_of_ble_eq_true rfl⟩ dX4_windFor_109 (fun r_21 w2 h_20 => ?_)
              obtain ⟨-, e_r_21, rfl⟩ : _ ∧ _ ∧ _ := h_20.resolve_left (fun h9 => (nI_pos (by omega)) h9.1)
              refine q_eqi (nI y) e_r_21 ?_
              refine q_ws (ws' := w_M (k_Z M) B X D1) rfl ?_
              exact Rt _ _ (nI y) (w_M (k_Z M) B X D1) dX4_windFor_112 rfl (⟨D1, by simp only [o_windFor, a_fin, if_pos c_2, if_pos c_6, if_pos c_10, if_neg c_14, if_pos c_19, nI_clamp (n := f) (by omega), nI_clamp (n := k) (by omega), hF, o_none, if_pos hy] <;> rfl, by simp only [o_windFor, a_fin, if_pos c_2, if_pos c_6, if_pos c_10, if_neg c_14, if_pos c_19, nI_clamp (n := f) (by omega), nI_clamp (n := k) (by omega), hF, o_none, if_pos hy] <;> rfl⟩)
          · obtain ⟨eb, hF⟩ := hB.resolve_right (fun ⟨y, hy, hy2, _⟩ => c_19 (hy2 ▸ nI_pos' (by omega)))
            refine q_aload_n K 3 dX4_windFor_64 rfl ?_
            refine q_get (.ref (B 1)) K ws_X4 0 rfl rfl 0 (by decide) fl_X4_7 rfl dX4_windFor_65 ?_
            refine q_iconst 3 K dX4_windFor_68 rfl ?_
            refine q_iload K 0 dX4_windFor_69 rfl ?_
            refine q_iast (ws' := w_M (k_Z M) B (f_setwd (f_setwd (a_F X) wd1) (nI i), a_K X, a_kp X, a_fd X, a_tp X, a_S X) D1) K 1 rfl (vp_in_nI (n := 3) (N := 71) (by omega) (by omega)) (by rw [show (3 : Int32).toNatClampNeg = 3 from rfl, up_3 _ _]; rfl) dX4_windFor_71 ?_
            refine q_ws (ws' := w_M (k_Z M) B (f_setwd (a_F X) (nI i), a_K X, a_kp X, a_fd X, a_tp X, a_S X) D1) rfl ?_
            refine q_aload_n K 3 dX4_windFor_72 rfl ?_
            refine q_iconst 4 K dX4_windFor_73 rfl ?_
            refine q_iload_n K 4 dX4_windFor_74 rfl ?_
            refine q_iadd K dX4_windFor_75 ?_
            refine q_eqi (nI (4 + f)) (kn_add 4 f) ?_
            refine q_iload_n K 6 dX4_windFor_76 rfl ?_
            refine q_wI (q0 := 0) (As := [.int (nI (4 + f)), .int (nI k)]) (rest := []) K kv_X4_thenAt (c_X4_thenAt (k_l M) (k_Z M) B (f_setwd (a_F X) (nI i), a_K X, a_kp X, a_fd X, a_tp X, a_S X) D1 m hm hm2 hok (4 + f) (by omega) k (by omega)) rfl rfl ml_X4_147 rfl rfl (Nat.le_of_ble_eq_true rfl) ⟨Nat.le_of_ble_eq_true rfl, Nat.le_of_ble_eq_true rfl⟩ dX4_windFor_77 (fun r_23 w2 h_22 => ?_)
            obtain ⟨D_24, e_r_23, rfl⟩ := h_22
            refine q_eqi (f_bs (f_hoursC goA (f_setwd (a_F X) (nI i)) k) f) ((e_r_23.trans (rw_bs _ (by omega))).trans (hC_bs (F := f_setwd (a_F X) (nI i)) hm hm2 _ _)) ?_
            refine q_ws (ws' := w_M (k_Z M) B (f_setwd (a_F X) (nI i), a_K X, a_kp X, a_fd X, a_tp X, a_S X) D_24) rfl ?_
            refine q_iload_n K 5 dX4_windFor_80 rfl ?_
            refine q_icmp_gt 89 K dX4_windFor_81 (by decide) (fun c_25 => ?_) (fun c_25 => ?_)
            · refine q_iconst (-1) K dX4_windFor_89 rfl ?_
              refine q_istore (lv' := [(5, .int (-1)), (6, .int (nI i)), (4, .int (f_wd (a_F X))), (0, .ref (B 0)), (1, .int (nI f)), (2, .int v), (3, .int (nI k))]) K dX4_windFor_90 (by decide) rfl ?_
              refine q_iinc (nI (i + 1)) (lv' := [(6, .int (nI (i + 1))), (5, .int (-1)), (4, .int (f_wd (a_F X))), (0, .ref (B 0)), (1, .int (nI f)), (2, .int v), (3, .int (nI k))]) K 1 dX4_windFor_92 rfl (kn_inc i) (by decide) rfl ?_
              refine q_goto 52 K dX4_windFor_95 (by decide) ?_
              exact ih_13 (n_11 - 1) (i + 1, -1, nI i, D_24) (by omega) ⟨by show i + 1 + (n_11 - 1) = 10; omega, Or.inl ⟨rfl, by rw [hF, show n_11 = (n_11 - 1) + 1 by omega, o_find, if_neg (by rw [p_windFor, decide_eq_true c_25]; decide)] <;> rfl⟩⟩
            · refine q_iload K 0 dX4_windFor_84 rfl ?_
              refine q_goto 90 K dX4_windFor_86 (by decide) ?_
              refine q_istore (lv' := [(5, .int (nI i)), (6, .int (nI i)), (4, .int (f_wd (a_F X))), (0, .ref (B 0)), (1, .int (nI f)), (2, .int v), (3, .int (nI k))]) K dX4_windFor_90 (by decide) rfl ?_
              refine q_iinc (nI (i + 1)) (lv' := [(6, .int (nI (i + 1))), (5, .int (nI i)), (4, .int (f_wd (a_F X))), (0, .ref (B 0)), (1, .int (nI f)), (2, .int v), (3, .int (nI k))]) K 1 dX4_windFor_92 rfl (kn_inc i) (by decide) rfl ?_
              refine q_goto 52 K dX4_windFor_95 (by decide) ?_
              exact ih_13 (n_11 - 1) (i + 1, nI i, nI i, D_24) (by omega) ⟨by show i + 1 + (n_11 - 1) = 10; omega, Or.inr ⟨i, by omega, rfl, by rw [hF, show n_11 = (n_11 - 1) + 1 by omega, o_find, if_pos (by rw [p_windFor, decide_eq_false c_25] <;> rfl)]⟩⟩
      · have c_10 : ¬ (inR n 0 40) := (kn_eq e_r_9).mp c_10
        refine q_aload_n K 0 dX4_windFor_31 rfl ?_
        refine q_ldc K dX4_windFor_32 ct_X4_40 ?_
        refine q_eqi (r_fin 0) (by decide) ?_
        refine q_wI (q0 := 0) (As := [.int (r_fin 0)]) (rest := []) K kv_X4_finds (c_X4_finds (k_l M) (k_Z M) B X D 0 (by omega)) rfl rfl ml_X4_48 rfl rfl (Nat.le_of_ble_eq_true rfl) ⟨Nat.le_of_ble_eq_true rfl, Nat.le_of_ble_eq_true rfl⟩ dX4_windFor_34 (fun r_27 w2 h_26 => ?_)
        obtain ⟨e_r_27, rfl⟩ := h_26
        refine q_eqi (r_fin 0) e_r_27 ?_
        refine q_ws (ws' := w_M (k_Z M) B (a_F X, a_K X, a_kp X, fd_up (a_fd X) 0, a_tp X, a_S X) D) rfl ?_
        exact Rt _ _ (r_fin 0) (w_M (k_Z M) B (a_F X, a_K X, a_kp X, fd_up (a_fd X) 0, a_tp X, a_S X) D) dX4_windFor_37 rfl (⟨D, by simp only [o_windFor, a_fin, if_pos c_2, if_pos c_6, if_neg c_10, e_r_1, e_r_5, e_r_9, nI_clamp (n := f) (by omega)] <;> rfl, by simp only [o_windFor, a_fin, if_pos c_2, if_pos c_6, if_neg c_10, nI_clamp (n := f) (by omega)] <;> rfl⟩)
theorem kv_X4_windFor : k_iv yX4_windFor cX4_windFor 7 (some .int) 3 := ⟨⟨im_X4_windFor, se_X4_windFor⟩, in_X4, co_X4_windFor, by decide +kernel⟩
