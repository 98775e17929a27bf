set_option maxHeartbeats 4000000 in
set_option maxRecDepth 100000 in
theorem c_X2_init (l : Launch) (Z : kz_Z) (u : Nat × Nat) (h0 : Nat) : KN l Z u yX2_init cX2_init 1 3 66 5 611 [.ref h0] ([(h0, .inr (2, [.null, .int 0, .null, .null, .null, .null, .int 0]))]) (fun w2 => ∃ c : Nat → Nat, c 0 = h0 ∧ w2 = w_T Z c (t_of (fun _ => 0, 0) (fun _ => 0, fun _ => 0, fun _ => 0, 0))) := by
  refine kn_of (by decide) rfl [(0, .ref h0)] (Nat.le_of_ble_eq_true rfl) rfl ?_
  intro M e1 e2 K0 hnm hcl hsl hX Rt
  subst e1 e2
  have K := kK_up K0 (n := 0) (k := 0) (Nat.zero_le _) (Nat.zero_le _)
  refine q_aload_n K 0 dX2_init_0 rfl ?_
  refine q_objinit K ml_X2_3 (Nat.le_of_ble_eq_true rfl) (Nat.le_of_ble_eq_true rfl) dX2_init_1 ?_
  refine q_aload_n K 0 dX2_init_4 rfl ?_
  refine q_bipush 120 K dX2_init_5 rfl ?_
  refine q_newb (N := 120) K (by decide) rfl (by decide) (by rw [hcl]; decide) (by rw [hsl]; decide) dX2_init_7 (fun q_1 => ?_)
  have K := kK_up K0 (n := 1) (k := 120) (by rw [hcl]; decide) (by rw [hsl]; decide)
  refine q_ws (ws' := [(h0, .inr (2, [.null, .int 0, .null, .null, .null, .null, .int 0])), (q_1, .inl ((k_Z M).2.1 2, 120, .inl (fun _ => 0)))]) rfl ?_
  refine q_putF (ty := .array .byte) (ws' := [(h0, .inr (2, [.ref q_1, .int 0, .null, .null, .null, .null, .int 0])), (q_1, .inl ((k_Z M).2.1 2, 120, .inl (fun _ => 0)))]) K hnm ws_X2 tyX2 tyX2_ok nmX2 0 rfl rfl 0 (by decide) fl_X2_9 rfl rfl (by decide +kernel) rfl rfl (Nat.le_of_ble_eq_true rfl) rfl dX2_init_9 ?_
  refine q_aload_n K 0 dX2_init_12 rfl ?_
  refine q_iconst 0 K dX2_init_13 rfl ?_
  refine q_put (ty := .int) (ws' := [(h0, .inr (2, [.ref q_1, .int 0, .null, .null, .null, .null, .int 0])), (q_1, .inl ((k_Z M).2.1 2, 120, .inl (fun _ => 0)))]) K ws_X2 tyX2 tyX2_ok nmX2 0 rfl rfl 1 (by decide) fl_X2_15 rfl (by decide +kernel) rfl rfl (Nat.le_of_ble_eq_true rfl) rfl dX2_init_14 ?_
  refine q_aload_n K 0 dX2_init_17 rfl ?_
  refine q_ldcS K hX.2.1 dX2_init_18 ?_
  refine q_crV (rest := [.ref h0]) K hX (c_toCharArray (k_l M) (k_Z M) u) rfl kv_toCharArray ml_X2_21 (Nat.le_of_ble_eq_true rfl) ⟨Nat.le_of_ble_eq_true rfl, Nat.le_of_ble_eq_true rfl⟩ (by rw [hcl]; decide) (by rw [hsl]; decide) dX2_init_20 (fun q_3 w2 h_2 => ?_)
  obtain rfl := h_2
  have K := kK_up K0 (n := 2) (k := 248) (by rw [hcl]; decide) (by rw [hsl]; decide)
  refine q_ws (ws' := [(q_3, .inl ((k_Z M).2.1 3, 128, .inl k_word)), (h0, .inr (2, [.ref q_1, .int 0, .null, .null, .null, .null, .int 0])), (q_1, .inl ((k_Z M).2.1 2, 120, .inl (fun _ => 0)))]) rfl ?_
  refine q_putF (ty := .array .char) (ws' := [(q_3, .inl ((k_Z M).2.1 3, 128, .inl k_word)), (h0, .inr (2, [.ref q_1, .int 0, .ref q_3, .null, .null, .null, .int 0])), (q_1, .inl ((k_Z M).2.1 2, 120, .inl (fun _ => 0)))]) K hnm ws_X2 tyX2 tyX2_ok nmX2 1 rfl rfl 2 (by decide) fl_X2_27 rfl rfl (by decide +kernel) rfl rfl (Nat.le_of_ble_eq_true rfl) rfl dX2_init_23 ?_
  refine q_aload_n K 0 dX2_init_26 rfl ?_
  refine q_bipush 121 K dX2_init_27 rfl ?_
  refine q_newi (N := 121) K (by decide) rfl (by decide) (by rw [hcl]; decide) (by rw [hsl]; decide) dX2_init_29 (fun q_4 => ?_)
  have K := kK_up K0 (n := 3) (k := 369) (by rw [hcl]; decide) (by rw [hsl]; decide)
  refine q_ws (ws' := [(q_3, .inl ((k_Z M).2.1 3, 128, .inl k_word)), (h0, .inr (2, [.ref q_1, .int 0, .ref q_3, .null, .null, .null, .int 0])), (q_1, .inl ((k_Z M).2.1 2, 120, .inl (fun _ => 0))), (q_4, .inl ((k_Z M).2.1 0, 121, .inl (fun _ => 0)))]) rfl ?_
  refine q_putF (ty := .array .int) (ws' := [(q_3, .inl ((k_Z M).2.1 3, 128, .inl k_word)), (h0, .inr (2, [.ref q_1, .int 0, .ref q_3, .ref q_4, .null, .null, .int 0])), (q_1, .inl ((k_Z M).2.1 2, 120, .inl (fun _ => 0))), (q_4, .inl ((k_Z M).2.1 0, 121, .inl (fun _ => 0)))]) K hnm ws_X2 tyX2 tyX2_ok nmX2 1 rfl rfl 3 (by decide) fl_X2_31 rfl rfl (by decide +kernel) rfl rfl (Nat.le_of_ble_eq_true rfl) rfl dX2_init_31 ?_
  refine q_aload_n K 0 dX2_init_34 rfl ?_
  refine q_bipush 121 K dX2_init_35 rfl ?_
  refine q_newi (N := 121) K (by decide) rfl (by decide) (by rw [hcl]; decide) (by rw [hsl]; decide) dX2_init_37 (fun q_5 => ?_)
  have K := kK_up K0 (n := 4) (k := 490) (by rw [hcl]; decide) (by rw [hsl]; decide)
  refine q_ws (ws' := [(q_3, .inl ((k_Z M).2.1 3, 128, .inl k_word)), (h0, .inr (2, [.ref q_1, .int 0, .ref q_3, .ref q_4, .null, .null, .int 0])), (q_1, .inl ((k_Z M).2.1 2, 120, .inl (fun _ => 0))), (q_4, .inl ((k_Z M).2.1 0, 121, .inl (fun _ => 0))), (q_5, .inl ((k_Z M).2.1 0, 121, .inl (fun _ => 0)))]) rfl ?_
  refine q_putF (ty := .array .int) (ws' := [(q_3, .inl ((k_Z M).2.1 3, 128, .inl k_word)), (h0, .inr (2, [.ref q_1, .int 0, .ref q_3, .ref q_4, .ref q_5, .null, .int 0])), (q_1, .inl ((k_Z M).2.1 2, 120, .inl (fun _ => 0))), (q_4, .inl ((k_Z M).2.1 0, 121, .inl (fun _ => 0))), (q_5, .inl ((k_Z M).2.1 0, 121, .inl (fun _ => 0)))]) K hnm ws_X2 tyX2 tyX2_ok nmX2 1 rfl rfl 4 (by decide) fl_X2_35 rfl rfl (by decide +kernel) rfl rfl (Nat.le_of_ble_eq_true rfl) rfl dX2_init_39 ?_
  refine q_aload_n K 0 dX2_init_42 rfl ?_
  refine q_bipush 121 K dX2_init_43 rfl ?_
  refine q_newi (N := 121) K (by decide) rfl (by decide) (by rw [hcl]; decide) (by rw [hsl]; decide) dX2_init_45 (fun q_6 => ?_)
  have K := kK_up K0 (n := 5) (k := 611) (by rw [hcl]; decide) (by rw [hsl]; decide)
  refine q_ws (ws' := [(q_3, .inl ((k_Z M).2.1 3, 128, .inl k_word)), (h0, .inr (2, [.ref q_1, .int 0, .ref q_3, .ref q_4, .ref q_5, .null, .int 0])), (q_1, .inl ((k_Z M).2.1 2, 120, .inl (fun _ => 0))), (q_4, .inl ((k_Z M).2.1 0, 121, .inl (fun _ => 0))), (q_5, .inl ((k_Z M).2.1 0, 121, .inl (fun _ => 0))), (q_6, .inl ((k_Z M).2.1 0, 121, .inl (fun _ => 0)))]) rfl ?_
  refine q_putF (ty := .array .int) (ws' := [(q_3, .inl ((k_Z M).2.1 3, 128, .inl k_word)), (h0, .inr (2, [.ref q_1, .int 0, .ref q_3, .ref q_4, .ref q_5, .ref q_6, .int 0])), (q_1, .inl ((k_Z M).2.1 2, 120, .inl (fun _ => 0))), (q_4, .inl ((k_Z M).2.1 0, 121, .inl (fun _ => 0))), (q_5, .inl ((k_Z M).2.1 0, 121, .inl (fun _ => 0))), (q_6, .inl ((k_Z M).2.1 0, 121, .inl (fun _ => 0)))]) K hnm ws_X2 tyX2 tyX2_ok nmX2 1 rfl rfl 5 (by decide) fl_X2_38 rfl rfl (by decide +kernel) rfl rfl (Nat.le_of_ble_eq_true rfl) rfl dX2_init_47 ?_
  refine q_aload_n K 0 dX2_init_50 rfl ?_
  refine q_iconst 0 K dX2_init_51 rfl ?_
  refine q_put (ty := .int) (ws' := [(q_3, .inl ((k_Z M).2.1 3, 128, .inl k_word)), (h0, .inr (2, [.ref q_1, .int 0, .ref q_3, .ref q_4, .ref q_5, .ref q_6, .int 0])), (q_1, .inl ((k_Z M).2.1 2, 120, .inl (fun _ => 0))), (q_4, .inl ((k_Z M).2.1 0, 121, .inl (fun _ => 0))), (q_5, .inl ((k_Z M).2.1 0, 121, .inl (fun _ => 0))), (q_6, .inl ((k_Z M).2.1 0, 121, .inl (fun _ => 0)))]) K ws_X2 tyX2 tyX2_ok nmX2 1 rfl rfl 6 (by decide) fl_X2_41 rfl (by decide +kernel) rfl rfl (Nat.le_of_ble_eq_true rfl) rfl dX2_init_52 ?_
  refine q_perm (ws' := [(h0, .inr (2, [.ref q_1, .int 0, .ref q_3, .ref q_4, .ref q_5, .ref q_6, .int 0])), (q_1, .inl ((k_Z M).2.1 2, 120, .inl (fun _ => 0))), (q_3, .inl ((k_Z M).2.1 3, 128, .inl k_word)), (q_4, .inl ((k_Z M).2.1 0, 121, .inl (fun _ => 0))), (q_5, .inl ((k_Z M).2.1 0, 121, .inl (fun _ => 0))), (q_6, .inl ((k_Z M).2.1 0, 121, .inl (fun _ => 0)))]) (k_pick [1, 2, 0, 3, 4, 5] (show (List.range 6).Perm _ by decide) rfl) ?_
  refine q_ext (ws' := [(h0, .inr (2, [.ref q_1, .int 0, .ref q_3, .ref q_4, .ref q_5, .ref q_6, .int 0])), (q_1, .inl ((k_Z M).2.1 2, 120, .inl (t_by (t_of (fun _ => 0, 0) (fun _ => 0, fun _ => 0, fun _ => 0, 0))))), (q_3, .inl ((k_Z M).2.1 3, 128, .inl k_word)), (q_4, .inl ((k_Z M).2.1 0, 121, .inl (fun _ => 0))), (q_5, .inl ((k_Z M).2.1 0, 121, .inl (fun _ => 0))), (q_6, .inl ((k_Z M).2.1 0, 121, .inl (fun _ => 0)))]) 1 (t_by (t_of (fun _ => 0, 0) (fun _ => 0, fun _ => 0, fun _ => 0, 0))) rfl (fun k hk => rfl) rfl ?_
  exact Rt _ _ ([(h0, .inr (2, [.ref q_1, .int 0, .ref q_3, .ref q_4, .ref q_5, .ref q_6, .int 0])), (q_1, .inl ((k_Z M).2.1 2, 120, .inl (t_by (t_of (fun _ => 0, 0) (fun _ => 0, fun _ => 0, fun _ => 0, 0))))), (q_3, .inl ((k_Z M).2.1 3, 128, .inl k_word)), (q_4, .inl ((k_Z M).2.1 0, 121, .inl (fun _ => 0))), (q_5, .inl ((k_Z M).2.1 0, 121, .inl (fun _ => 0))), (q_6, .inl ((k_Z M).2.1 0, 121, .inl (fun _ => 0)))]) dX2_init_55 (⟨(fun k => match k with | 0 => h0 | 1 => q_1 | 2 => q_3 | 3 => q_4 | 4 => q_5 | _ => q_6), rfl, rfl⟩)
set_option maxHeartbeats 4000000 in
set_option maxRecDepth 100000 in
theorem c_X3_init (l : Launch) (Z : kz_Z) (u : Nat × Nat) (h0 : Nat) : KN l Z u yX3_init cX3_init 2 4 86 46 1041 [.ref h0] ([(h0, .inr (3, [.null, .null, .null, .int 0, .null, .null, .null]))]) (fun w2 => ∃ (A : Nat → Nat → Nat) (T : FS) (J : TJ), A 0 0 = h0 ∧ w2 = w_C Z A x_new T J) := by
  refine kn_of (by decide) rfl [(0, .ref h0)] (Nat.le_of_ble_eq_true rfl) rfl ?_
  intro M e1 e2 K0 hnm hcl hsl hX Rt
  subst e1 e2
  have K := kK_up K0 (n := 0) (k := 0) (Nat.zero_le _) (Nat.zero_le _)
  refine q_aload_n K 0 dX3_init_0 rfl ?_
  refine q_objinit K ml_X3_3 (Nat.le_of_ble_eq_true rfl) (Nat.le_of_ble_eq_true rfl) dX3_init_1 ?_
  refine q_aload_n K 0 dX3_init_4 rfl ?_
  refine q_new (ci := 0) [.null, .null, .null, .null, .int 0, .int 0, .int 0, .int 0] K ws_X0 tyX0 tyX0_ok cl_X3_9 it_X0 in_X0 rfl (fun j hj => by rcases (show j = 0 ∨ j = 1 ∨ j = 2 ∨ j = 3 ∨ j = 4 ∨ j = 5 ∨ j = 6 ∨ j = 7 by omega) with rfl | rfl | rfl | rfl | rfl | rfl | rfl | rfl <;> rfl) (by rw [hcl]; decide) (by rw [hsl]; decide) dX3_init_5 (fun q_1 => ?_)
  have K := kK_up K0 (n := 1) (k := 8) (by rw [hcl]; decide) (by rw [hsl]; decide)
  refine q_ws (ws' := [(h0, .inr (3, [.null, .null, .null, .int 0, .null, .null, .null]))] ++ ([(q_1, .inr (0, [.null, .null, .null, .null, .int 0, .int 0, .int 0, .int 0]))])) rfl ?_
  refine q_dup K dX3_init_8 rfl ?_
  refine q_cn (rest := [.ref q_1, .ref h0]) K hX (c_X0_init (k_l M) (k_Z M) u q_1) rfl im_X0_init in_X0 co_X0_init (by decide +kernel) ([(h0, .inr (3, [.null, .null, .null, .int 0, .null, .null, .null]))]) [] rfl ml_X3_11 (Nat.le_of_ble_eq_true rfl) ⟨Nat.le_of_ble_eq_true rfl, Nat.le_of_ble_eq_true rfl⟩ (by rw [hcl]; decide) (by rw [hsl]; decide) dX3_init_9 (fun w2 h_2 => ?_)
  obtain ⟨a_3, rfl, rfl⟩ := h_2
  have K := kK_up K0 (n := 10) (k := 80) (by rw [hcl]; decide) (by rw [hsl]; decide)
  refine q_ws (ws' := [(h0, .inr (3, [.null, .null, .null, .int 0, .null, .null, .null]))] ++ (w_F (k_Z M) a_3 f_new)) rfl ?_
  refine q_putF (ty := .object "GateManners$Farm") (ws' := [(h0, .inr (3, [.ref (a_3 0), .null, .null, .int 0, .null, .null, .null]))] ++ (w_F (k_Z M) a_3 f_new)) K hnm ws_X3 tyX3 tyX3_ok nmX3 0 rfl rfl 0 (by decide) fl_X3_12 rfl rfl (by decide +kernel) rfl rfl (Nat.le_of_ble_eq_true rfl) rfl dX3_init_12 ?_
  refine q_aload_n K 0 dX3_init_15 rfl ?_
  refine q_new (ci := 0) [.null, .null, .null, .null, .int 0, .int 0, .int 0, .int 0] K ws_X0 tyX0 tyX0_ok cl_X3_9 it_X0 in_X0 rfl (fun j hj => by rcases (show j = 0 ∨ j = 1 ∨ j = 2 ∨ j = 3 ∨ j = 4 ∨ j = 5 ∨ j = 6 ∨ j = 7 by omega) with rfl | rfl | rfl | rfl | rfl | rfl | rfl | rfl <;> rfl) (by rw [hcl]; decide) (by rw [hsl]; decide) dX3_init_16 (fun q_4 => ?_)
  have K := kK_up K0 (n := 11) (k := 88) (by rw [hcl]; decide) (by rw [hsl]; decide)
  refine q_ws (ws' := [(h0, .inr (3, [.ref (a_3 0), .null, .null, .int 0, .null, .null, .null]))] ++ (w_F (k_Z M) a_3 f_new ++ ([(q_4, .inr (0, [.null, .null, .null, .null, .int 0, .int 0, .int 0, .int 0]))]))) rfl ?_
  refine q_dup K dX3_init_19 rfl ?_
  refine q_cn (rest := [.ref q_4, .ref h0]) K hX (c_X0_init (k_l M) (k_Z M) u q_4) rfl im_X0_init in_X0 co_X0_init (by decide +kernel) ([(h0, .inr (3, [.ref (a_3 0), .null, .null, .int 0, .null, .null, .null]))] ++ (w_F (k_Z M) a_3 f_new)) [] rfl ml_X3_11 (Nat.le_of_ble_eq_true rfl) ⟨Nat.le_of_ble_eq_true rfl, Nat.le_of_ble_eq_true rfl⟩ (by rw [hcl]; decide) (by rw [hsl]; decide) dX3_init_20 (fun w2 h_5 => ?_)
  obtain ⟨a_6, rfl, rfl⟩ := h_5
  have K := kK_up K0 (n := 20) (k := 160) (by rw [hcl]; decide) (by rw [hsl]; decide)
  refine q_ws (ws' := [(h0, .inr (3, [.ref (a_3 0), .null, .null, .int 0, .null, .null, .null]))] ++ (w_F (k_Z M) a_3 f_new ++ (w_F (k_Z M) a_6 f_new))) rfl ?_
  refine q_putF (ty := .object "GateManners$Farm") (ws' := [(h0, .inr (3, [.ref (a_3 0), .ref (a_6 0), .null, .int 0, .null, .null, .null]))] ++ (w_F (k_Z M) a_3 f_new ++ (w_F (k_Z M) a_6 f_new))) K hnm ws_X3 tyX3 tyX3_ok nmX3 0 rfl rfl 1 (by decide) fl_X3_16 rfl rfl (by decide +kernel) rfl rfl (Nat.le_of_ble_eq_true rfl) rfl dX3_init_23 ?_
  refine q_aload_n K 0 dX3_init_26 rfl ?_
  refine q_new (ci := 0) [.null, .null, .null, .null, .int 0, .int 0, .int 0, .int 0] K ws_X0 tyX0 tyX0_ok cl_X3_9 it_X0 in_X0 rfl (fun j hj => by rcases (show j = 0 ∨ j = 1 ∨ j = 2 ∨ j = 3 ∨ j = 4 ∨ j = 5 ∨ j = 6 ∨ j = 7 by omega) with rfl | rfl | rfl | rfl | rfl | rfl | rfl | rfl <;> rfl) (by rw [hcl]; decide) (by rw [hsl]; decide) dX3_init_27 (fun q_7 => ?_)
  have K := kK_up K0 (n := 21) (k := 168) (by rw [hcl]; decide) (by rw [hsl]; decide)
  refine q_ws (ws' := [(h0, .inr (3, [.ref (a_3 0), .ref (a_6 0), .null, .int 0, .null, .null, .null]))] ++ (w_F (k_Z M) a_3 f_new ++ (w_F (k_Z M) a_6 f_new ++ ([(q_7, .inr (0, [.null, .null, .null, .null, .int 0, .int 0, .int 0, .int 0]))])))) rfl ?_
  refine q_dup K dX3_init_30 rfl ?_
  refine q_cn (rest := [.ref q_7, .ref h0]) K hX (c_X0_init (k_l M) (k_Z M) u q_7) rfl im_X0_init in_X0 co_X0_init (by decide +kernel) ([(h0, .inr (3, [.ref (a_3 0), .ref (a_6 0), .null, .int 0, .null, .null, .null]))] ++ (w_F (k_Z M) a_3 f_new ++ (w_F (k_Z M) a_6 f_new))) [] rfl ml_X3_11 (Nat.le_of_ble_eq_true rfl) ⟨Nat.le_of_ble_eq_true rfl, Nat.le_of_ble_eq_true rfl⟩ (by rw [hcl]; decide) (by rw [hsl]; decide) dX3_init_31 (fun w2 h_8 => ?_)
  obtain ⟨a_9, rfl, rfl⟩ := h_8
  have K := kK_up K0 (n := 30) (k := 240) (by rw [hcl]; decide) (by rw [hsl]; decide)
  refine q_ws (ws' := [(h0, .inr (3, [.ref (a_3 0), .ref (a_6 0), .null, .int 0, .null, .null, .null]))] ++ (w_F (k_Z M) a_3 f_new ++ (w_F (k_Z M) a_6 f_new ++ (w_F (k_Z M) a_9 f_new)))) rfl ?_
  refine q_putF (ty := .object "GateManners$Farm") (ws' := [(h0, .inr (3, [.ref (a_3 0), .ref (a_6 0), .ref (a_9 0), .int 0, .null, .null, .null]))] ++ (w_F (k_Z M) a_3 f_new ++ (w_F (k_Z M) a_6 f_new ++ (w_F (k_Z M) a_9 f_new)))) K hnm ws_X3 tyX3 tyX3_ok nmX3 0 rfl rfl 2 (by decide) fl_X3_19 rfl rfl (by decide +kernel) rfl rfl (Nat.le_of_ble_eq_true rfl) rfl dX3_init_34 ?_
  refine q_aload_n K 0 dX3_init_37 rfl ?_
  refine q_iconst 0 K dX3_init_38 rfl ?_
  refine q_put (ty := .boolean) (ws' := [(h0, .inr (3, [.ref (a_3 0), .ref (a_6 0), .ref (a_9 0), .int 0, .null, .null, .null]))] ++ (w_F (k_Z M) a_3 f_new ++ (w_F (k_Z M) a_6 f_new ++ (w_F (k_Z M) a_9 f_new)))) K ws_X3 tyX3 tyX3_ok nmX3 0 rfl rfl 3 (by decide) fl_X3_22 rfl (by decide +kernel) rfl rfl (Nat.le_of_ble_eq_true rfl) rfl dX3_init_39 ?_
  refine q_aload_n K 0 dX3_init_42 rfl ?_
  refine q_new (ci := 2) [.null, .int 0, .null, .null, .null, .null, .int 0] K ws_X2 tyX2 tyX2_ok cl_X3_26 it_X2 in_X2 rfl (fun j hj => by rcases (show j = 0 ∨ j = 1 ∨ j = 2 ∨ j = 3 ∨ j = 4 ∨ j = 5 ∨ j = 6 by omega) with rfl | rfl | rfl | rfl | rfl | rfl | rfl <;> rfl) (by rw [hcl]; decide) (by rw [hsl]; decide) dX3_init_43 (fun q_10 => ?_)
  have K := kK_up K0 (n := 31) (k := 247) (by rw [hcl]; decide) (by rw [hsl]; decide)
  refine q_ws (ws' := [(h0, .inr (3, [.ref (a_3 0), .ref (a_6 0), .ref (a_9 0), .int 0, .null, .null, .null]))] ++ (w_F (k_Z M) a_3 f_new ++ (w_F (k_Z M) a_6 f_new ++ (w_F (k_Z M) a_9 f_new ++ ([(q_10, .inr (2, [.null, .int 0, .null, .null, .null, .null, .int 0]))]))))) rfl ?_
  refine q_dup K dX3_init_46 rfl ?_
  refine q_cnN (rest := [.ref q_10, .ref h0]) K hX (c_X2_init (k_l M) (k_Z M) u q_10) rfl im_X2_init in_X2 co_X2_init (by decide +kernel) ([(h0, .inr (3, [.ref (a_3 0), .ref (a_6 0), .ref (a_9 0), .int 0, .null, .null, .null]))] ++ (w_F (k_Z M) a_3 f_new ++ (w_F (k_Z M) a_6 f_new ++ (w_F (k_Z M) a_9 f_new)))) [] rfl hX.2.2.1 (Nat.le_of_ble_eq_true rfl) ⟨Nat.le_of_ble_eq_true rfl, Nat.le_of_ble_eq_true rfl⟩ (by rw [hcl]; decide) (by rw [hsl]; decide) dX3_init_47 (fun w2 h_11 => ?_)
  obtain ⟨a_12, rfl, rfl⟩ := h_11
  have K := kK_up K0 (n := 36) (k := 858) (by rw [hcl]; decide) (by rw [hsl]; decide)
  refine q_ws (ws' := [(h0, .inr (3, [.ref (a_3 0), .ref (a_6 0), .ref (a_9 0), .int 0, .null, .null, .null]))] ++ (w_F (k_Z M) a_3 f_new ++ (w_F (k_Z M) a_6 f_new ++ (w_F (k_Z M) a_9 f_new ++ (w_T (k_Z M) a_12 (t_of (fun _ => 0, 0) (fun _ => 0, fun _ => 0, fun _ => 0, 0))))))) rfl ?_
  refine q_putF (ty := .object "GateManners$Tape") (ws' := [(h0, .inr (3, [.ref (a_3 0), .ref (a_6 0), .ref (a_9 0), .int 0, .ref (a_12 0), .null, .null]))] ++ (w_F (k_Z M) a_3 f_new ++ (w_F (k_Z M) a_6 f_new ++ (w_F (k_Z M) a_9 f_new ++ (w_T (k_Z M) a_12 (t_of (fun _ => 0, 0) (fun _ => 0, fun _ => 0, fun _ => 0, 0))))))) K hnm ws_X3 tyX3 tyX3_ok nmX3 0 rfl rfl 4 (by decide) fl_X3_29 rfl rfl (by decide +kernel) rfl rfl (Nat.le_of_ble_eq_true rfl) rfl dX3_init_50 ?_
  refine q_aload_n K 0 dX3_init_53 rfl ?_
  refine q_iconst 4 K dX3_init_54 rfl ?_
  refine q_newo (N := 4) K hX cl_X3_33 (by decide) rfl (by decide) (by rw [hcl]; decide) (by rw [hsl]; decide) dX3_init_55 (fun q_13 => ?_)
  have K := kK_up K0 (n := 37) (k := 862) (by rw [hcl]; decide) (by rw [hsl]; decide)
  refine q_ws (ws' := [(h0, .inr (3, [.ref (a_3 0), .ref (a_6 0), .ref (a_9 0), .int 0, .ref (a_12 0), .null, .null]))] ++ (w_F (k_Z M) a_3 f_new ++ (w_F (k_Z M) a_6 f_new ++ (w_F (k_Z M) a_9 f_new ++ (w_T (k_Z M) a_12 (t_of (fun _ => 0, 0) (fun _ => 0, fun _ => 0, fun _ => 0, 0)) ++ ([(q_13, .inl ((k_Z M).2.1 4, 4, .inr (.inr (.inr (.inr (fun _ => none))))))])))))) rfl ?_
  refine q_putF (ty := .array (.object "GateManners$Sheet")) (ws' := [(h0, .inr (3, [.ref (a_3 0), .ref (a_6 0), .ref (a_9 0), .int 0, .ref (a_12 0), .ref q_13, .null]))] ++ (w_F (k_Z M) a_3 f_new ++ (w_F (k_Z M) a_6 f_new ++ (w_F (k_Z M) a_9 f_new ++ (w_T (k_Z M) a_12 (t_of (fun _ => 0, 0) (fun _ => 0, fun _ => 0, fun _ => 0, 0)) ++ ([(q_13, .inl ((k_Z M).2.1 4, 4, .inr (.inr (.inr (.inr (fun _ => none))))))])))))) K hnm ws_X3 tyX3 tyX3_ok nmX3 0 rfl rfl 5 (by decide) fl_X3_35 rfl rfl (by decide +kernel) rfl rfl (Nat.le_of_ble_eq_true rfl) rfl dX3_init_58 ?_
  refine q_iconst 0 K dX3_init_61 rfl ?_
  refine q_istore_n (lv' := [(1, .int 0), (0, .ref h0)]) K dX3_init_62 (by decide) rfl ?_
  refine q_iload_n K 0 dX3_init_63 rfl ?_
  refine q_iconst 4 K dX3_init_64 rfl ?_
  refine q_icmp_ge 87 K dX3_init_65 (by decide) (fun c_0 => absurd c_0 (by decide)) (fun c_0 => ?_)
  refine q_aload_n K 1 dX3_init_68 rfl ?_
  refine q_get (.ref q_13) K ws_X3 0 rfl rfl 5 (by decide) fl_X3_35 rfl dX3_init_69 ?_
  refine q_iload_n K 0 dX3_init_72 rfl ?_
  refine q_new (ci := 1) [.null, .int 0, .int 0] K ws_X1 tyX1 tyX1_ok cl_X3_33 it_X1 in_X1 rfl (fun j hj => by rcases (show j = 0 ∨ j = 1 ∨ j = 2 by omega) with rfl | rfl | rfl <;> rfl) (by rw [hcl]; decide) (by rw [hsl]; decide) dX3_init_73 (fun q_14 => ?_)
  have K := kK_up K0 (n := 38) (k := 865) (by rw [hcl]; decide) (by rw [hsl]; decide)
  refine q_ws (ws' := [(h0, .inr (3, [.ref (a_3 0), .ref (a_6 0), .ref (a_9 0), .int 0, .ref (a_12 0), .ref q_13, .null]))] ++ (w_F (k_Z M) a_3 f_new ++ (w_F (k_Z M) a_6 f_new ++ (w_F (k_Z M) a_9 f_new ++ (w_T (k_Z M) a_12 (t_of (fun _ => 0, 0) (fun _ => 0, fun _ => 0, fun _ => 0, 0)) ++ ([(q_13, .inl ((k_Z M).2.1 4, 4, .inr (.inr (.inr (.inr (fun _ => none))))))] ++ ([(q_14, .inr (1, [.null, .int 0, .int 0]))]))))))) rfl ?_
  refine q_dup K dX3_init_76 rfl ?_
  refine q_cnN (rest := [.ref q_14, .int 0, .ref q_13]) K hX (c_X1_init (k_l M) (k_Z M) u q_14) rfl im_X1_init in_X1 co_X1_init (by decide +kernel) ([(h0, .inr (3, [.ref (a_3 0), .ref (a_6 0), .ref (a_9 0), .int 0, .ref (a_12 0), .ref q_13, .null]))] ++ (w_F (k_Z M) a_3 f_new ++ (w_F (k_Z M) a_6 f_new ++ (w_F (k_Z M) a_9 f_new ++ (w_T (k_Z M) a_12 (t_of (fun _ => 0, 0) (fun _ => 0, fun _ => 0, fun _ => 0, 0)) ++ ([(q_13, .inl ((k_Z M).2.1 4, 4, .inr (.inr (.inr (.inr (fun _ => none))))))])))))) [] rfl hX.2.2.2.1 (Nat.le_of_ble_eq_true rfl) ⟨Nat.le_of_ble_eq_true rfl, Nat.le_of_ble_eq_true rfl⟩ (by rw [hcl]; decide) (by rw [hsl]; decide) dX3_init_77 (fun w2 h_15 => ?_)
  obtain ⟨a_16, rfl, rfl⟩ := h_15
  have K := kK_up K0 (n := 39) (k := 905) (by rw [hcl]; decide) (by rw [hsl]; decide)
  refine q_ws (ws' := [(h0, .inr (3, [.ref (a_3 0), .ref (a_6 0), .ref (a_9 0), .int 0, .ref (a_12 0), .ref q_13, .null]))] ++ (w_F (k_Z M) a_3 f_new ++ (w_F (k_Z M) a_6 f_new ++ (w_F (k_Z M) a_9 f_new ++ (w_T (k_Z M) a_12 (t_of (fun _ => 0, 0) (fun _ => 0, fun _ => 0, fun _ => 0, 0)) ++ ([(q_13, .inl ((k_Z M).2.1 4, 4, .inr (.inr (.inr (.inr (fun _ => none))))))] ++ (w_S (k_Z M) a_16 s_new))))))) rfl ?_
  refine q_aast (ws' := [(h0, .inr (3, [.ref (a_3 0), .ref (a_6 0), .ref (a_9 0), .int 0, .ref (a_12 0), .ref q_13, .null]))] ++ (w_F (k_Z M) a_3 f_new ++ (w_F (k_Z M) a_6 f_new ++ (w_F (k_Z M) a_9 f_new ++ (w_T (k_Z M) a_12 (t_of (fun _ => 0, 0) (fun _ => 0, fun _ => 0, fun _ => 0, 0)) ++ ([(q_13, .inl ((k_Z M).2.1 4, 4, .inr (.inr (.inr (.inr (va_up (fun _ => none) 0 (some (a_16 0))))))))] ++ (w_S (k_Z M) a_16 s_new))))))) K 37 rfl (qk := 38) rfl (vp_in_nI (n := 0) (N := 4) (by omega) (by omega)) rfl dX3_init_80 ?_
  refine q_iinc 1 (lv' := [(1, .int 1), (0, .ref h0)]) K 0 dX3_init_81 rfl rfl (by decide) rfl ?_
  refine q_goto 63 K dX3_init_84 (by decide) ?_
  refine q_iload_n K 0 dX3_init_63 rfl ?_
  refine q_iconst 4 K dX3_init_64 rfl ?_
  refine q_icmp_ge 87 K dX3_init_65 (by decide) (fun c_0 => absurd c_0 (by decide)) (fun c_0 => ?_)
  refine q_aload_n K 1 dX3_init_68 rfl ?_
  refine q_get (.ref q_13) K ws_X3 0 rfl rfl 5 (by decide) fl_X3_35 rfl dX3_init_69 ?_
  refine q_iload_n K 0 dX3_init_72 rfl ?_
  refine q_new (ci := 1) [.null, .int 0, .int 0] K ws_X1 tyX1 tyX1_ok cl_X3_33 it_X1 in_X1 rfl (fun j hj => by rcases (show j = 0 ∨ j = 1 ∨ j = 2 by omega) with rfl | rfl | rfl <;> rfl) (by rw [hcl]; decide) (by rw [hsl]; decide) dX3_init_73 (fun q_17 => ?_)
  have K := kK_up K0 (n := 40) (k := 908) (by rw [hcl]; decide) (by rw [hsl]; decide)
  refine q_ws (ws' := [(h0, .inr (3, [.ref (a_3 0), .ref (a_6 0), .ref (a_9 0), .int 0, .ref (a_12 0), .ref q_13, .null]))] ++ (w_F (k_Z M) a_3 f_new ++ (w_F (k_Z M) a_6 f_new ++ (w_F (k_Z M) a_9 f_new ++ (w_T (k_Z M) a_12 (t_of (fun _ => 0, 0) (fun _ => 0, fun _ => 0, fun _ => 0, 0)) ++ ([(q_13, .inl ((k_Z M).2.1 4, 4, .inr (.inr (.inr (.inr (va_up (fun _ => none) 0 (some (a_16 0))))))))] ++ (w_S (k_Z M) a_16 s_new ++ ([(q_17, .inr (1, [.null, .int 0, .int 0]))])))))))) rfl ?_
  refine q_dup K dX3_init_76 rfl ?_
  refine q_cnN (rest := [.ref q_17, .int 1, .ref q_13]) K hX (c_X1_init (k_l M) (k_Z M) u q_17) rfl im_X1_init in_X1 co_X1_init (by decide +kernel) ([(h0, .inr (3, [.ref (a_3 0), .ref (a_6 0), .ref (a_9 0), .int 0, .ref (a_12 0), .ref q_13, .null]))] ++ (w_F (k_Z M) a_3 f_new ++ (w_F (k_Z M) a_6 f_new ++ (w_F (k_Z M) a_9 f_new ++ (w_T (k_Z M) a_12 (t_of (fun _ => 0, 0) (fun _ => 0, fun _ => 0, fun _ => 0, 0)) ++ ([(q_13, .inl ((k_Z M).2.1 4, 4, .inr (.inr (.inr (.inr (va_up (fun _ => none) 0 (some (a_16 0))))))))] ++ (w_S (k_Z M) a_16 s_new))))))) [] rfl hX.2.2.2.1 (Nat.le_of_ble_eq_true rfl) ⟨Nat.le_of_ble_eq_true rfl, Nat.le_of_ble_eq_true rfl⟩ (by rw [hcl]; decide) (by rw [hsl]; decide) dX3_init_77 (fun w2 h_18 => ?_)
  obtain ⟨a_19, rfl, rfl⟩ := h_18
  have K := kK_up K0 (n := 41) (k := 948) (by rw [hcl]; decide) (by rw [hsl]; decide)
  refine q_ws (ws' := [(h0, .inr (3, [.ref (a_3 0), .ref (a_6 0), .ref (a_9 0), .int 0, .ref (a_12 0), .ref q_13, .null]))] ++ (w_F (k_Z M) a_3 f_new ++ (w_F (k_Z M) a_6 f_new ++ (w_F (k_Z M) a_9 f_new ++ (w_T (k_Z M) a_12 (t_of (fun _ => 0, 0) (fun _ => 0, fun _ => 0, fun _ => 0, 0)) ++ ([(q_13, .inl ((k_Z M).2.1 4, 4, .inr (.inr (.inr (.inr (va_up (fun _ => none) 0 (some (a_16 0))))))))] ++ (w_S (k_Z M) a_16 s_new ++ (w_S (k_Z M) a_19 s_new)))))))) rfl ?_
  refine q_aast (ws' := [(h0, .inr (3, [.ref (a_3 0), .ref (a_6 0), .ref (a_9 0), .int 0, .ref (a_12 0), .ref q_13, .null]))] ++ (w_F (k_Z M) a_3 f_new ++ (w_F (k_Z M) a_6 f_new ++ (w_F (k_Z M) a_9 f_new ++ (w_T (k_Z M) a_12 (t_of (fun _ => 0, 0) (fun _ => 0, fun _ => 0, fun _ => 0, 0)) ++ ([(q_13, .inl ((k_Z M).2.1 4, 4, .inr (.inr (.inr (.inr (va_up (va_up (fun _ => none) 0 (some (a_16 0))) 1 (some (a_19 0))))))))] ++ (w_S (k_Z M) a_16 s_new ++ (w_S (k_Z M) a_19 s_new)))))))) K 37 rfl (qk := 40) rfl (vp_in_nI (n := 1) (N := 4) (by omega) (by omega)) rfl dX3_init_80 ?_
  refine q_iinc 2 (lv' := [(1, .int 2), (0, .ref h0)]) K 0 dX3_init_81 rfl rfl (by decide) rfl ?_
  refine q_goto 63 K dX3_init_84 (by decide) ?_
  refine q_iload_n K 0 dX3_init_63 rfl ?_
  refine q_iconst 4 K dX3_init_64 rfl ?_
  refine q_icmp_ge 87 K dX3_init_65 (by decide) (fun c_0 => absurd c_0 (by decide)) (fun c_0 => ?_)
  refine q_aload_n K 1 dX3_init_68 rfl ?_
  refine q_get (.ref q_13) K ws_X3 0 rfl rfl 5 (by decide) fl_X3_35 rfl dX3_init_69 ?_
  refine q_iload_n K 0 dX3_init_72 rfl ?_
  refine q_new (ci := 1) [.null, .int 0, .int 0] K ws_X1 tyX1 tyX1_ok cl_X3_33 it_X1 in_X1 rfl (fun j hj => by rcases (show j = 0 ∨ j = 1 ∨ j = 2 by omega) with rfl | rfl | rfl <;> rfl) (by rw [hcl]; decide) (by rw [hsl]; decide) dX3_init_73 (fun q_20 => ?_)
  have K := kK_up K0 (n := 42) (k := 951) (by rw [hcl]; decide) (by rw [hsl]; decide)
  refine q_ws (ws' := [(h0, .inr (3, [.ref (a_3 0), .ref (a_6 0), .ref (a_9 0), .int 0, .ref (a_12 0), .ref q_13, .null]))] ++ (w_F (k_Z M) a_3 f_new ++ (w_F (k_Z M) a_6 f_new ++ (w_F (k_Z M) a_9 f_new ++ (w_T (k_Z M) a_12 (t_of (fun _ => 0, 0) (fun _ => 0, fun _ => 0, fun _ => 0, 0)) ++ ([(q_13, .inl ((k_Z M).2.1 4, 4, .inr (.inr (.inr (.inr (va_up (va_up (fun _ => none) 0 (some (a_16 0))) 1 (some (a_19 0))))))))] ++ (w_S (k_Z M) a_16 s_new ++ (w_S (k_Z M) a_19 s_new ++ ([(q_20, .inr (1, [.null, .int 0, .int 0]))]))))))))) rfl ?_
  refine q_dup K dX3_init_76 rfl ?_
  refine q_cnN (rest := [.ref q_20, .int 2, .ref q_13]) K hX (c_X1_init (k_l M) (k_Z M) u q_20) rfl im_X1_init in_X1 co_X1_init (by decide +kernel) ([(h0, .inr (3, [.ref (a_3 0), .ref (a_6 0), .ref (a_9 0), .int 0, .ref (a_12 0), .ref q_13, .null]))] ++ (w_F (k_Z M) a_3 f_new ++ (w_F (k_Z M) a_6 f_new ++ (w_F (k_Z M) a_9 f_new ++ (w_T (k_Z M) a_12 (t_of (fun _ => 0, 0) (fun _ => 0, fun _ => 0, fun _ => 0, 0)) ++ ([(q_13, .inl ((k_Z M).2.1 4, 4, .inr (.inr (.inr (.inr (va_up (va_up (fun _ => none) 0 (some (a_16 0))) 1 (some (a_19 0))))))))] ++ (w_S (k_Z M) a_16 s_new ++ (w_S (k_Z M) a_19 s_new)))))))) [] rfl hX.2.2.2.1 (Nat.le_of_ble_eq_true rfl) ⟨Nat.le_of_ble_eq_true rfl, Nat.le_of_ble_eq_true rfl⟩ (by rw [hcl]; decide) (by rw [hsl]; decide) dX3_init_77 (fun w2 h_21 => ?_)
  obtain ⟨a_22, rfl, rfl⟩ := h_21
  have K := kK_up K0 (n := 43) (k := 991) (by rw [hcl]; decide) (by rw [hsl]; decide)
  refine q_ws (ws' := [(h0, .inr (3, [.ref (a_3 0), .ref (a_6 0), .ref (a_9 0), .int 0, .ref (a_12 0), .ref q_13, .null]))] ++ (w_F (k_Z M) a_3 f_new ++ (w_F (k_Z M) a_6 f_new ++ (w_F (k_Z M) a_9 f_new ++ (w_T (k_Z M) a_12 (t_of (fun _ => 0, 0) (fun _ => 0, fun _ => 0, fun _ => 0, 0)) ++ ([(q_13, .inl ((k_Z M).2.1 4, 4, .inr (.inr (.inr (.inr (va_up (va_up (fun _ => none) 0 (some (a_16 0))) 1 (some (a_19 0))))))))] ++ (w_S (k_Z M) a_16 s_new ++ (w_S (k_Z M) a_19 s_new ++ (w_S (k_Z M) a_22 s_new))))))))) rfl ?_
  refine q_aast (ws' := [(h0, .inr (3, [.ref (a_3 0), .ref (a_6 0), .ref (a_9 0), .int 0, .ref (a_12 0), .ref q_13, .null]))] ++ (w_F (k_Z M) a_3 f_new ++ (w_F (k_Z M) a_6 f_new ++ (w_F (k_Z M) a_9 f_new ++ (w_T (k_Z M) a_12 (t_of (fun _ => 0, 0) (fun _ => 0, fun _ => 0, fun _ => 0, 0)) ++ ([(q_13, .inl ((k_Z M).2.1 4, 4, .inr (.inr (.inr (.inr (va_up (va_up (va_up (fun _ => none) 0 (some (a_16 0))) 1 (some (a_19 0))) 2 (some (a_22 0))))))))] ++ (w_S (k_Z M) a_16 s_new ++ (w_S (k_Z M) a_19 s_new ++ (w_S (k_Z M) a_22 s_new))))))))) K 37 rfl (qk := 42) rfl (vp_in_nI (n := 2) (N := 4) (by omega) (by omega)) rfl dX3_init_80 ?_
  refine q_iinc 3 (lv' := [(1, .int 3), (0, .ref h0)]) K 0 dX3_init_81 rfl rfl (by decide) rfl ?_
  refine q_goto 63 K dX3_init_84 (by decide) ?_
  refine q_iload_n K 0 dX3_init_63 rfl ?_
  refine q_iconst 4 K dX3_init_64 rfl ?_
  refine q_icmp_ge 87 K dX3_init_65 (by decide) (fun c_0 => absurd c_0 (by decide)) (fun c_0 => ?_)
  refine q_aload_n K 1 dX3_init_68 rfl ?_
  refine q_get (.ref q_13) K ws_X3 0 rfl rfl 5 (by decide) fl_X3_35 rfl dX3_init_69 ?_
  refine q_iload_n K 0 dX3_init_72 rfl ?_
  refine q_new (ci := 1) [.null, .int 0, .int 0] K ws_X1 tyX1 tyX1_ok cl_X3_33 it_X1 in_X1 rfl (fun j hj => by rcases (show j = 0 ∨ j = 1 ∨ j = 2 by omega) with rfl | rfl | rfl <;> rfl) (by rw [hcl]; decide) (by rw [hsl]; decide) dX3_init_73 (fun q_23 => ?_)
  have K := kK_up K0 (n := 44) (k := 994) (by rw [hcl]; decide) (by rw [hsl]; decide)
  refine q_ws (ws' := [(h0, .inr (3, [.ref (a_3 0), .ref (a_6 0), .ref (a_9 0), .int 0, .ref (a_12 0), .ref q_13, .null]))] ++ (w_F (k_Z M) a_3 f_new ++ (w_F (k_Z M) a_6 f_new ++ (w_F (k_Z M) a_9 f_new ++ (w_T (k_Z M) a_12 (t_of (fun _ => 0, 0) (fun _ => 0, fun _ => 0, fun _ => 0, 0)) ++ ([(q_13, .inl ((k_Z M).2.1 4, 4, .inr (.inr (.inr (.inr (va_up (va_up (va_up (fun _ => none) 0 (some (a_16 0))) 1 (some (a_19 0))) 2 (some (a_22 0))))))))] ++ (w_S (k_Z M) a_16 s_new ++ (w_S (k_Z M) a_19 s_new ++ (w_S (k_Z M) a_22 s_new ++ ([(q_23, .inr (1, [.null, .int 0, .int 0]))])))))))))) rfl ?_
  refine q_dup K dX3_init_76 rfl ?_
  refine q_cnN (rest := [.ref q_23, .int 3, .ref q_13]) K hX (c_X1_init (k_l M) (k_Z M) u q_23) rfl im_X1_init in_X1 co_X1_init (by decide +kernel) ([(h0, .inr (3, [.ref (a_3 0), .ref (a_6 0), .ref (a_9 0), .int 0, .ref (a_12 0), .ref q_13, .null]))] ++ (w_F (k_Z M) a_3 f_new ++ (w_F (k_Z M) a_6 f_new ++ (w_F (k_Z M) a_9 f_new ++ (w_T (k_Z M) a_12 (t_of (fun _ => 0, 0) (fun _ => 0, fun _ => 0, fun _ => 0, 0)) ++ ([(q_13, .inl ((k_Z M).2.1 4, 4, .inr (.inr (.inr (.inr (va_up (va_up (va_up (fun _ => none) 0 (some (a_16 0))) 1 (some (a_19 0))) 2 (some (a_22 0))))))))] ++ (w_S (k_Z M) a_16 s_new ++ (w_S (k_Z M) a_19 s_new ++ (w_S (k_Z M) a_22 s_new))))))))) [] rfl hX.2.2.2.1 (Nat.le_of_ble_eq_true rfl) ⟨Nat.le_of_ble_eq_true rfl, Nat.le_of_ble_eq_true rfl⟩ (by rw [hcl]; decide) (by rw [hsl]; decide) dX3_init_77 (fun w2 h_24 => ?_)
  obtain ⟨a_25, rfl, rfl⟩ := h_24
  have K := kK_up K0 (n := 45) (k := 1034) (by rw [hcl]; decide) (by rw [hsl]; decide)
  refine q_ws (ws' := [(h0, .inr (3, [.ref (a_3 0), .ref (a_6 0), .ref (a_9 0), .int 0, .ref (a_12 0), .ref q_13, .null]))] ++ (w_F (k_Z M) a_3 f_new ++ (w_F (k_Z M) a_6 f_new ++ (w_F (k_Z M) a_9 f_new ++ (w_T (k_Z M) a_12 (t_of (fun _ => 0, 0) (fun _ => 0, fun _ => 0, fun _ => 0, 0)) ++ ([(q_13, .inl ((k_Z M).2.1 4, 4, .inr (.inr (.inr (.inr (va_up (va_up (va_up (fun _ => none) 0 (some (a_16 0))) 1 (some (a_19 0))) 2 (some (a_22 0))))))))] ++ (w_S (k_Z M) a_16 s_new ++ (w_S (k_Z M) a_19 s_new ++ (w_S (k_Z M) a_22 s_new ++ (w_S (k_Z M) a_25 s_new)))))))))) rfl ?_
  refine q_aast (ws' := [(h0, .inr (3, [.ref (a_3 0), .ref (a_6 0), .ref (a_9 0), .int 0, .ref (a_12 0), .ref q_13, .null]))] ++ (w_F (k_Z M) a_3 f_new ++ (w_F (k_Z M) a_6 f_new ++ (w_F (k_Z M) a_9 f_new ++ (w_T (k_Z M) a_12 (t_of (fun _ => 0, 0) (fun _ => 0, fun _ => 0, fun _ => 0, 0)) ++ ([(q_13, .inl ((k_Z M).2.1 4, 4, .inr (.inr (.inr (.inr (va_up (va_up (va_up (va_up (fun _ => none) 0 (some (a_16 0))) 1 (some (a_19 0))) 2 (some (a_22 0))) 3 (some (a_25 0))))))))] ++ (w_S (k_Z M) a_16 s_new ++ (w_S (k_Z M) a_19 s_new ++ (w_S (k_Z M) a_22 s_new ++ (w_S (k_Z M) a_25 s_new)))))))))) K 37 rfl (qk := 44) rfl (vp_in_nI (n := 3) (N := 4) (by omega) (by omega)) rfl dX3_init_80 ?_
  refine q_iinc 4 (lv' := [(1, .int 4), (0, .ref h0)]) K 0 dX3_init_81 rfl rfl (by decide) rfl ?_
  refine q_goto 63 K dX3_init_84 (by decide) ?_
  refine q_iload_n K 0 dX3_init_63 rfl ?_
  refine q_iconst 4 K dX3_init_64 rfl ?_
  refine q_icmp_ge 87 K dX3_init_65 (by decide) (fun c_0 => ?_) (fun c_0 => absurd c_0 (by decide))
  refine q_aload_n K 1 dX3_init_87 rfl ?_
  refine q_bipush 7 K dX3_init_88 rfl ?_
  refine q_newi (N := 7) K (by decide) rfl (by decide) (by rw [hcl]; decide) (by rw [hsl]; decide) dX3_init_90 (fun q_26 => ?_)
  have K := kK_up K0 (n := 46) (k := 1041) (by rw [hcl]; decide) (by rw [hsl]; decide)
  refine q_ws (ws' := [(h0, .inr (3, [.ref (a_3 0), .ref (a_6 0), .ref (a_9 0), .int 0, .ref (a_12 0), .ref q_13, .null]))] ++ (w_F (k_Z M) a_3 f_new ++ (w_F (k_Z M) a_6 f_new ++ (w_F (k_Z M) a_9 f_new ++ (w_T (k_Z M) a_12 (t_of (fun _ => 0, 0) (fun _ => 0, fun _ => 0, fun _ => 0, 0)) ++ ([(q_13, .inl ((k_Z M).2.1 4, 4, .inr (.inr (.inr (.inr (va_up (va_up (va_up (va_up (fun _ => none) 0 (some (a_16 0))) 1 (some (a_19 0))) 2 (some (a_22 0))) 3 (some (a_25 0))))))))] ++ (w_S (k_Z M) a_16 s_new ++ (w_S (k_Z M) a_19 s_new ++ (w_S (k_Z M) a_22 s_new ++ (w_S (k_Z M) a_25 s_new ++ ([(q_26, .inl ((k_Z M).2.1 0, 7, .inl (fun _ => 0)))]))))))))))) rfl ?_
  refine q_putF (ty := .array .int) (ws' := [(h0, .inr (3, [.ref (a_3 0), .ref (a_6 0), .ref (a_9 0), .int 0, .ref (a_12 0), .ref q_13, .ref q_26]))] ++ (w_F (k_Z M) a_3 f_new ++ (w_F (k_Z M) a_6 f_new ++ (w_F (k_Z M) a_9 f_new ++ (w_T (k_Z M) a_12 (t_of (fun _ => 0, 0) (fun _ => 0, fun _ => 0, fun _ => 0, 0)) ++ ([(q_13, .inl ((k_Z M).2.1 4, 4, .inr (.inr (.inr (.inr (va_up (va_up (va_up (va_up (fun _ => none) 0 (some (a_16 0))) 1 (some (a_19 0))) 2 (some (a_22 0))) 3 (some (a_25 0))))))))] ++ (w_S (k_Z M) a_16 s_new ++ (w_S (k_Z M) a_19 s_new ++ (w_S (k_Z M) a_22 s_new ++ (w_S (k_Z M) a_25 s_new ++ ([(q_26, .inl ((k_Z M).2.1 0, 7, .inl (fun _ => 0)))]))))))))))) K hnm ws_X3 tyX3 tyX3_ok nmX3 0 rfl rfl 6 (by decide) fl_X3_40 rfl rfl (by decide +kernel) rfl rfl (Nat.le_of_ble_eq_true rfl) rfl dX3_init_92 ?_
  refine q_perm (ws' := [(h0, .inr (3, [.ref (a_3 0), .ref (a_6 0), .ref (a_9 0), .int 0, .ref (a_12 0), .ref q_13, .ref q_26])), (q_13, .inl ((k_Z M).2.1 4, 4, .inr (.inr (.inr (.inr (va_up (va_up (va_up (va_up (fun _ => none) 0 (some (a_16 0))) 1 (some (a_19 0))) 2 (some (a_22 0))) 3 (some (a_25 0)))))))), (q_26, .inl ((k_Z M).2.1 0, 7, .inl (fun _ => 0)))] ++ (w_F (k_Z M) a_3 f_new ++ (w_F (k_Z M) a_6 f_new ++ (w_F (k_Z M) a_9 f_new ++ (w_T (k_Z M) a_12 (t_of (fun _ => 0, 0) (fun _ => 0, fun _ => 0, fun _ => 0, 0)) ++ (w_S (k_Z M) a_16 s_new ++ (w_S (k_Z M) a_19 s_new ++ (w_S (k_Z M) a_22 s_new ++ (w_S (k_Z M) a_25 s_new))))))))) (k_pick [0, 37, 46, 1, 2, 3, 4, 5, 6, 7, 8, 9, 10, 11, 12, 13, 14, 15, 16, 17, 18, 19, 20, 21, 22, 23, 24, 25, 26, 27, 28, 29, 30, 31, 32, 33, 34, 35, 36, 38, 39, 40, 41, 42, 43, 44, 45] (show (List.range 47).Perm _ by decide) rfl) ?_
  refine q_extq (ws' := [(h0, .inr (3, [.ref (a_3 0), .ref (a_6 0), .ref (a_9 0), .int 0, .ref (a_12 0), .ref q_13, .ref q_26])), (q_13, .inl ((k_Z M).2.1 4, 4, .inr (.inr (.inr (.inr (fun k => some ((fun i => ([fun j => match j with | 0 => h0 | 1 => q_13 | _ => q_26, a_3, a_6, a_9, a_12, a_16, a_19, a_22, a_25] : List (Nat → Nat)).getD i a_25) (5 + k) 0))))))), (q_26, .inl ((k_Z M).2.1 0, 7, .inl (fun _ => 0)))] ++ (w_F (k_Z M) a_3 f_new ++ (w_F (k_Z M) a_6 f_new ++ (w_F (k_Z M) a_9 f_new ++ (w_T (k_Z M) a_12 (t_of (fun _ => 0, 0) (fun _ => 0, fun _ => 0, fun _ => 0, 0)) ++ (w_S (k_Z M) a_16 s_new ++ (w_S (k_Z M) a_19 s_new ++ (w_S (k_Z M) a_22 s_new ++ (w_S (k_Z M) a_25 s_new))))))))) 1 (fun k => some ((fun i => ([fun j => match j with | 0 => h0 | 1 => q_13 | _ => q_26, a_3, a_6, a_9, a_12, a_16, a_19, a_22, a_25] : List (Nat → Nat)).getD i a_25) (5 + k) 0)) rfl (fun k hk => by rcases (show k = 0 ∨ k = 1 ∨ k = 2 ∨ k = 3 by omega) with rfl | rfl | rfl | rfl <;> rfl) rfl ?_
  exact Rt _ _ ([(h0, .inr (3, [.ref (a_3 0), .ref (a_6 0), .ref (a_9 0), .int 0, .ref (a_12 0), .ref q_13, .ref q_26])), (q_13, .inl ((k_Z M).2.1 4, 4, .inr (.inr (.inr (.inr (fun k => some ((fun i => ([fun j => match j with | 0 => h0 | 1 => q_13 | _ => q_26, a_3, a_6, a_9, a_12, a_16, a_19, a_22, a_25] : List (Nat → Nat)).getD i a_25) (5 + k) 0))))))), (q_26, .inl ((k_Z M).2.1 0, 7, .inl (fun _ => 0)))] ++ (w_F (k_Z M) a_3 f_new ++ (w_F (k_Z M) a_6 f_new ++ (w_F (k_Z M) a_9 f_new ++ (w_T (k_Z M) a_12 (t_of (fun _ => 0, 0) (fun _ => 0, fun _ => 0, fun _ => 0, 0)) ++ (w_S (k_Z M) a_16 s_new ++ (w_S (k_Z M) a_19 s_new ++ (w_S (k_Z M) a_22 s_new ++ (w_S (k_Z M) a_25 s_new))))))))) dX3_init_95 (⟨(fun i => ([fun j => match j with | 0 => h0 | 1 => q_13 | _ => q_26, a_3, a_6, a_9, a_12, a_16, a_19, a_22, a_25] : List (Nat → Nat)).getD i a_25), f_new, (fun _ => 0, fun _ => 0, fun _ => 0, 0), rfl, rfl⟩)
