def hd0 : Nat → Nat → Int32
  | 0 => fun _ => 0
  | i + 1 => upd (hd0 i) i (-1)
def f_new : FS := (fun _ => 0, fun _ => 0, fun _ => 0, fun _ => 0, fun _ => 0, fun _ => 0, fun _ => 0, hd0 10, 0, 0, 0, 1)
def f_zero : FS := (fun _ => 0, fun _ => 0, fun _ => 0, fun _ => 0, fun _ => 0, fun _ => 0, fun _ => 0, fun _ => 0, 0, 0, 0, 0)
def s_new : SS := (fun _ => 0, 0, 0)
def x_new : AS := (f_new, f_new, 0, fun _ => 0, (fun _ => 0, 0), fun _ => s_new)
def x_newM : AS := (f_new, f_zero, 0, fun _ => 0, (fun _ => 0, 0), fun _ => s_new)
def d_new : DJ := (fun _ => 0, fun _ => 0, fun _ => 0, 0, 0, 0, 0, 0)
set_option maxHeartbeats 4000000 in
set_option maxRecDepth 100000 in
theorem c_X0_init (l : Launch) (Z : kz_Z) (u : Nat × Nat) (h0 : Nat) : KN l Z u yX0_init cX0_init 2 1 12 9 72 [.ref h0] ([(h0, .inr (0, [.null, .null, .null, .null, .int 0, .int 0, .int 0, .int 0]))]) (fun w2 => ∃ a : Nat → Nat, a 0 = h0 ∧ w2 = w_F Z a f_new) := by
  refine kn_of (by decide) rfl [(0, .ref h0)] (Nat.le_of_ble_eq_true rfl) rfl ?_
  intro M e1 e2 K0 hnm hcl hsl hX Rt
  subst e1 e2
  have K := kK_up K0 (n := 0) (k := 0) (Nat.zero_le _) (Nat.zero_le _)
  refine q_aload_n K 0 dX0_init_0 rfl ?_
  refine q_objinit K ml_X0_3 (Nat.le_of_ble_eq_true rfl) (Nat.le_of_ble_eq_true rfl) dX0_init_1 ?_
  refine q_aload_n K 0 dX0_init_4 rfl ?_
  refine q_bipush 9 K dX0_init_5 rfl ?_
  refine q_newi (N := 9) K (by decide) rfl (by decide) (by rw [hcl]; decide) (by rw [hsl]; decide) dX0_init_7 (fun q_1 => ?_)
  have K := kK_up K0 (n := 1) (k := 9) (by rw [hcl]; decide) (by rw [hsl]; decide)
  refine q_ws (ws' := [(h0, .inr (0, [.null, .null, .null, .null, .int 0, .int 0, .int 0, .int 0])), (q_1, .inl ((k_Z M).2.1 0, 9, .inl (fun _ => 0)))]) rfl ?_
  refine q_putF (ty := .array .int) (ws' := [(h0, .inr (0, [.ref q_1, .null, .null, .null, .int 0, .int 0, .int 0, .int 0])), (q_1, .inl ((k_Z M).2.1 0, 9, .inl (fun _ => 0)))]) K hnm ws_X0 tyX0 tyX0_ok nmX0 0 rfl rfl 0 (by decide) fl_X0_9 rfl rfl (by decide +kernel) rfl rfl (Nat.le_of_ble_eq_true rfl) rfl dX0_init_9 ?_
  refine q_aload_n K 0 dX0_init_12 rfl ?_
  refine q_bipush 8 K dX0_init_13 rfl ?_
  refine q_newi (N := 8) K (by decide) rfl (by decide) (by rw [hcl]; decide) (by rw [hsl]; decide) dX0_init_15 (fun q_2 => ?_)
  have K := kK_up K0 (n := 2) (k := 17) (by rw [hcl]; decide) (by rw [hsl]; decide)
  refine q_ws (ws' := [(h0, .inr (0, [.ref q_1, .null, .null, .null, .int 0, .int 0, .int 0, .int 0])), (q_1, .inl ((k_Z M).2.1 0, 9, .inl (fun _ => 0))), (q_2, .inl ((k_Z M).2.1 0, 8, .inl (fun _ => 0)))]) rfl ?_
  refine q_putF (ty := .array .int) (ws' := [(h0, .inr (0, [.ref q_1, .ref q_2, .null, .null, .int 0, .int 0, .int 0, .int 0])), (q_1, .inl ((k_Z M).2.1 0, 9, .inl (fun _ => 0))), (q_2, .inl ((k_Z M).2.1 0, 8, .inl (fun _ => 0)))]) K hnm ws_X0 tyX0 tyX0_ok nmX0 0 rfl rfl 1 (by decide) fl_X0_15 rfl rfl (by decide +kernel) rfl rfl (Nat.le_of_ble_eq_true rfl) rfl dX0_init_17 ?_
  refine q_aload_n K 0 dX0_init_20 rfl ?_
  refine q_iconst 5 K dX0_init_21 rfl ?_
  refine q_bipush 8 K dX0_init_22 rfl ?_
  refine q_mna K hX cl_X0_18 (by rw [hcl]; decide) (by rw [hsl]; decide) dX0_init_24 (fun q_3 r_4 => ?_)
  have K := kK_up K0 (n := 8) (k := 62) (by rw [hcl]; decide) (by rw [hsl]; decide)
  refine q_ws (ws' := [(h0, .inr (0, [.ref q_1, .ref q_2, .null, .null, .int 0, .int 0, .int 0, .int 0])), (q_1, .inl ((k_Z M).2.1 0, 9, .inl (fun _ => 0))), (q_2, .inl ((k_Z M).2.1 0, 8, .inl (fun _ => 0))), (q_3, .inl ((k_Z M).2.1 1, 5, .inr (.inr (.inr (.inr (fun i => if i < 5 then some (r_4 i) else none)))))), (r_4 0, .inl ((k_Z M).2.1 0, 8, .inl (fun _ => 0))), (r_4 1, .inl ((k_Z M).2.1 0, 8, .inl (fun _ => 0))), (r_4 2, .inl ((k_Z M).2.1 0, 8, .inl (fun _ => 0))), (r_4 3, .inl ((k_Z M).2.1 0, 8, .inl (fun _ => 0))), (r_4 4, .inl ((k_Z M).2.1 0, 8, .inl (fun _ => 0)))]) rfl ?_
  refine q_putF (ty := .array (.array .int)) (ws' := [(h0, .inr (0, [.ref q_1, .ref q_2, .ref q_3, .null, .int 0, .int 0, .int 0, .int 0])), (q_1, .inl ((k_Z M).2.1 0, 9, .inl (fun _ => 0))), (q_2, .inl ((k_Z M).2.1 0, 8, .inl (fun _ => 0))), (q_3, .inl ((k_Z M).2.1 1, 5, .inr (.inr (.inr (.inr (fun i => if i < 5 then some (r_4 i) else none)))))), (r_4 0, .inl ((k_Z M).2.1 0, 8, .inl (fun _ => 0))), (r_4 1, .inl ((k_Z M).2.1 0, 8, .inl (fun _ => 0))), (r_4 2, .inl ((k_Z M).2.1 0, 8, .inl (fun _ => 0))), (r_4 3, .inl ((k_Z M).2.1 0, 8, .inl (fun _ => 0))), (r_4 4, .inl ((k_Z M).2.1 0, 8, .inl (fun _ => 0)))]) K hnm ws_X0 tyX0 tyX0_ok nmX0 0 rfl rfl 2 (by decide) fl_X0_20 rfl rfl (by decide +kernel) rfl rfl (Nat.le_of_ble_eq_true rfl) rfl dX0_init_28 ?_
  refine q_aload_n K 0 dX0_init_31 rfl ?_
  refine q_bipush 10 K dX0_init_32 rfl ?_
  refine q_newi (N := 10) K (by decide) rfl (by decide) (by rw [hcl]; decide) (by rw [hsl]; decide) dX0_init_34 (fun q_5 => ?_)
  have K := kK_up K0 (n := 9) (k := 72) (by rw [hcl]; decide) (by rw [hsl]; decide)
  refine q_ws (ws' := [(h0, .inr (0, [.ref q_1, .ref q_2, .ref q_3, .null, .int 0, .int 0, .int 0, .int 0])), (q_1, .inl ((k_Z M).2.1 0, 9, .inl (fun _ => 0))), (q_2, .inl ((k_Z M).2.1 0, 8, .inl (fun _ => 0))), (q_3, .inl ((k_Z M).2.1 1, 5, .inr (.inr (.inr (.inr (fun i => if i < 5 then some (r_4 i) else none)))))), (r_4 0, .inl ((k_Z M).2.1 0, 8, .inl (fun _ => 0))), (r_4 1, .inl ((k_Z M).2.1 0, 8, .inl (fun _ => 0))), (r_4 2, .inl ((k_Z M).2.1 0, 8, .inl (fun _ => 0))), (r_4 3, .inl ((k_Z M).2.1 0, 8, .inl (fun _ => 0))), (r_4 4, .inl ((k_Z M).2.1 0, 8, .inl (fun _ => 0))), (q_5, .inl ((k_Z M).2.1 0, 10, .inl (fun _ => 0)))]) rfl ?_
  refine q_putF (ty := .array .int) (ws' := [(h0, .inr (0, [.ref q_1, .ref q_2, .ref q_3, .ref q_5, .int 0, .int 0, .int 0, .int 0])), (q_1, .inl ((k_Z M).2.1 0, 9, .inl (fun _ => 0))), (q_2, .inl ((k_Z M).2.1 0, 8, .inl (fun _ => 0))), (q_3, .inl ((k_Z M).2.1 1, 5, .inr (.inr (.inr (.inr (fun i => if i < 5 then some (r_4 i) else none)))))), (r_4 0, .inl ((k_Z M).2.1 0, 8, .inl (fun _ => 0))), (r_4 1, .inl ((k_Z M).2.1 0, 8, .inl (fun _ => 0))), (r_4 2, .inl ((k_Z M).2.1 0, 8, .inl (fun _ => 0))), (r_4 3, .inl ((k_Z M).2.1 0, 8, .inl (fun _ => 0))), (r_4 4, .inl ((k_Z M).2.1 0, 8, .inl (fun _ => 0))), (q_5, .inl ((k_Z M).2.1 0, 10, .inl (fun _ => 0)))]) K hnm ws_X0 tyX0 tyX0_ok nmX0 0 rfl rfl 3 (by decide) fl_X0_23 rfl rfl (by decide +kernel) rfl rfl (Nat.le_of_ble_eq_true rfl) rfl dX0_init_36 ?_
  refine q_aload_n K 0 dX0_init_39 rfl ?_
  refine q_iconst 0 K dX0_init_40 rfl ?_
  refine q_put (ty := .int) (ws' := [(h0, .inr (0, [.ref q_1, .ref q_2, .ref q_3, .ref q_5, .int 0, .int 0, .int 0, .int 0])), (q_1, .inl ((k_Z M).2.1 0, 9, .inl (fun _ => 0))), (q_2, .inl ((k_Z M).2.1 0, 8, .inl (fun _ => 0))), (q_3, .inl ((k_Z M).2.1 1, 5, .inr (.inr (.inr (.inr (fun i => if i < 5 then some (r_4 i) else none)))))), (r_4 0, .inl ((k_Z M).2.1 0, 8, .inl (fun _ => 0))), (r_4 1, .inl ((k_Z M).2.1 0, 8, .inl (fun _ => 0))), (r_4 2, .inl ((k_Z M).2.1 0, 8, .inl (fun _ => 0))), (r_4 3, .inl ((k_Z M).2.1 0, 8, .inl (fun _ => 0))), (r_4 4, .inl ((k_Z M).2.1 0, 8, .inl (fun _ => 0))), (q_5, .inl ((k_Z M).2.1 0, 10, .inl (fun _ => 0)))]) K ws_X0 tyX0 tyX0_ok nmX0 0 rfl rfl 4 (by decide) fl_X0_26 rfl (by decide +kernel) rfl rfl (Nat.le_of_ble_eq_true rfl) rfl dX0_init_41 ?_
  refine q_aload_n K 0 dX0_init_44 rfl ?_
  refine q_iconst 0 K dX0_init_45 rfl ?_
  refine q_put (ty := .int) (ws' := [(h0, .inr (0, [.ref q_1, .ref q_2, .ref q_3, .ref q_5, .int 0, .int 0, .int 0, .int 0])), (q_1, .inl ((k_Z M).2.1 0, 9, .inl (fun _ => 0))), (q_2, .inl ((k_Z M).2.1 0, 8, .inl (fun _ => 0))), (q_3, .inl ((k_Z M).2.1 1, 5, .inr (.inr (.inr (.inr (fun i => if i < 5 then some (r_4 i) else none)))))), (r_4 0, .inl ((k_Z M).2.1 0, 8, .inl (fun _ => 0))), (r_4 1, .inl ((k_Z M).2.1 0, 8, .inl (fun _ => 0))), (r_4 2, .inl ((k_Z M).2.1 0, 8, .inl (fun _ => 0))), (r_4 3, .inl ((k_Z M).2.1 0, 8, .inl (fun _ => 0))), (r_4 4, .inl ((k_Z M).2.1 0, 8, .inl (fun _ => 0))), (q_5, .inl ((k_Z M).2.1 0, 10, .inl (fun _ => 0)))]) K ws_X0 tyX0 tyX0_ok nmX0 0 rfl rfl 5 (by decide) fl_X0_30 rfl (by decide +kernel) rfl rfl (Nat.le_of_ble_eq_true rfl) rfl dX0_init_46 ?_
  refine q_aload_n K 0 dX0_init_49 rfl ?_
  refine q_iconst 0 K dX0_init_50 rfl ?_
  refine q_put (ty := .int) (ws' := [(h0, .inr (0, [.ref q_1, .ref q_2, .ref q_3, .ref q_5, .int 0, .int 0, .int 0, .int 0])), (q_1, .inl ((k_Z M).2.1 0, 9, .inl (fun _ => 0))), (q_2, .inl ((k_Z M).2.1 0, 8, .inl (fun _ => 0))), (q_3, .inl ((k_Z M).2.1 1, 5, .inr (.inr (.inr (.inr (fun i => if i < 5 then some (r_4 i) else none)))))), (r_4 0, .inl ((k_Z M).2.1 0, 8, .inl (fun _ => 0))), (r_4 1, .inl ((k_Z M).2.1 0, 8, .inl (fun _ => 0))), (r_4 2, .inl ((k_Z M).2.1 0, 8, .inl (fun _ => 0))), (r_4 3, .inl ((k_Z M).2.1 0, 8, .inl (fun _ => 0))), (r_4 4, .inl ((k_Z M).2.1 0, 8, .inl (fun _ => 0))), (q_5, .inl ((k_Z M).2.1 0, 10, .inl (fun _ => 0)))]) K ws_X0 tyX0 tyX0_ok nmX0 0 rfl rfl 6 (by decide) fl_X0_33 rfl (by decide +kernel) rfl rfl (Nat.le_of_ble_eq_true rfl) rfl dX0_init_51 ?_
  refine q_aload_n K 0 dX0_init_54 rfl ?_
  refine q_iconst 1 K dX0_init_55 rfl ?_
  refine q_put (ty := .int) (ws' := [(h0, .inr (0, [.ref q_1, .ref q_2, .ref q_3, .ref q_5, .int 0, .int 0, .int 0, .int 1])), (q_1, .inl ((k_Z M).2.1 0, 9, .inl (fun _ => 0))), (q_2, .inl ((k_Z M).2.1 0, 8, .inl (fun _ => 0))), (q_3, .inl ((k_Z M).2.1 1, 5, .inr (.inr (.inr (.inr (fun i => if i < 5 then some (r_4 i) else none)))))), (r_4 0, .inl ((k_Z M).2.1 0, 8, .inl (fun _ => 0))), (r_4 1, .inl ((k_Z M).2.1 0, 8, .inl (fun _ => 0))), (r_4 2, .inl ((k_Z M).2.1 0, 8, .inl (fun _ => 0))), (r_4 3, .inl ((k_Z M).2.1 0, 8, .inl (fun _ => 0))), (r_4 4, .inl ((k_Z M).2.1 0, 8, .inl (fun _ => 0))), (q_5, .inl ((k_Z M).2.1 0, 10, .inl (fun _ => 0)))]) K ws_X0 tyX0 tyX0_ok nmX0 0 rfl rfl 7 (by decide) fl_X0_36 rfl (by decide +kernel) rfl rfl (Nat.le_of_ble_eq_true rfl) rfl dX0_init_56 ?_
  refine q_iconst 0 K dX0_init_59 rfl ?_
  refine q_istore_n (lv' := [(1, .int 0), (0, .ref h0)]) K dX0_init_60 (by decide) rfl ?_
  refine q_iload_n K 0 dX0_init_61 rfl ?_
  refine q_bipush 10 K dX0_init_62 rfl ?_
  refine q_icmp_ge 80 K dX0_init_64 (by decide) (fun c_0 => absurd c_0 (by decide)) (fun c_0 => ?_)
  refine q_aload_n K 1 dX0_init_67 rfl ?_
  refine q_get (.ref q_5) K ws_X0 0 rfl rfl 3 (by decide) fl_X0_23 rfl dX0_init_68 ?_
  refine q_iload_n K 0 dX0_init_71 rfl ?_
  refine q_iconst (-1) K dX0_init_72 rfl ?_
  refine q_iast (ws' := [(h0, .inr (0, [.ref q_1, .ref q_2, .ref q_3, .ref q_5, .int 0, .int 0, .int 0, .int 1])), (q_1, .inl ((k_Z M).2.1 0, 9, .inl (fun _ => 0))), (q_2, .inl ((k_Z M).2.1 0, 8, .inl (fun _ => 0))), (q_3, .inl ((k_Z M).2.1 1, 5, .inr (.inr (.inr (.inr (fun i => if i < 5 then some (r_4 i) else none)))))), (r_4 0, .inl ((k_Z M).2.1 0, 8, .inl (fun _ => 0))), (r_4 1, .inl ((k_Z M).2.1 0, 8, .inl (fun _ => 0))), (r_4 2, .inl ((k_Z M).2.1 0, 8, .inl (fun _ => 0))), (r_4 3, .inl ((k_Z M).2.1 0, 8, .inl (fun _ => 0))), (r_4 4, .inl ((k_Z M).2.1 0, 8, .inl (fun _ => 0))), (q_5, .inl ((k_Z M).2.1 0, 10, .inl (upd (fun _ => 0) 0 (-1))))]) K 9 rfl (vp_in_nI (n := 0) (N := 10) (by omega) (by omega)) rfl dX0_init_73 ?_
  refine q_iinc 1 (lv' := [(1, .int 1), (0, .ref h0)]) K 0 dX0_init_74 rfl rfl (by decide) rfl ?_
  refine q_goto 61 K dX0_init_77 (by decide) ?_
  refine q_iload_n K 0 dX0_init_61 rfl ?_
  refine q_bipush 10 K dX0_init_62 rfl ?_
  refine q_icmp_ge 80 K dX0_init_64 (by decide) (fun c_0 => absurd c_0 (by decide)) (fun c_0 => ?_)
  refine q_aload_n K 1 dX0_init_67 rfl ?_
  refine q_get (.ref q_5) K ws_X0 0 rfl rfl 3 (by decide) fl_X0_23 rfl dX0_init_68 ?_
  refine q_iload_n K 0 dX0_init_71 rfl ?_
  refine q_iconst (-1) K dX0_init_72 rfl ?_
  refine q_iast (ws' := [(h0, .inr (0, [.ref q_1, .ref q_2, .ref q_3, .ref q_5, .int 0, .int 0, .int 0, .int 1])), (q_1, .inl ((k_Z M).2.1 0, 9, .inl (fun _ => 0))), (q_2, .inl ((k_Z M).2.1 0, 8, .inl (fun _ => 0))), (q_3, .inl ((k_Z M).2.1 1, 5, .inr (.inr (.inr (.inr (fun i => if i < 5 then some (r_4 i) else none)))))), (r_4 0, .inl ((k_Z M).2.1 0, 8, .inl (fun _ => 0))), (r_4 1, .inl ((k_Z M).2.1 0, 8, .inl (fun _ => 0))), (r_4 2, .inl ((k_Z M).2.1 0, 8, .inl (fun _ => 0))), (r_4 3, .inl ((k_Z M).2.1 0, 8, .inl (fun _ => 0))), (r_4 4, .inl ((k_Z M).2.1 0, 8, .inl (fun _ => 0))), (q_5, .inl ((k_Z M).2.1 0, 10, .inl (upd (upd (fun _ => 0) 0 (-1)) 1 (-1))))]) K 9 rfl (vp_in_nI (n := 1) (N := 10) (by omega) (by omega)) rfl dX0_init_73 ?_
  refine q_iinc 2 (lv' := [(1, .int 2), (0, .ref h0)]) K 0 dX0_init_74 rfl rfl (by decide) rfl ?_
  refine q_goto 61 K dX0_init_77 (by decide) ?_
  refine q_iload_n K 0 dX0_init_61 rfl ?_
  refine q_bipush 10 K dX0_init_62 rfl ?_
  refine q_icmp_ge 80 K dX0_init_64 (by decide) (fun c_0 => absurd c_0 (by decide)) (fun c_0 => ?_)
  refine q_aload_n K 1 dX0_init_67 rfl ?_
  refine q_get (.ref q_5) K ws_X0 0 rfl rfl 3 (by decide) fl_X0_23 rfl dX0_init_68 ?_
  refine q_iload_n K 0 dX0_init_71 rfl ?_
  refine q_iconst (-1) K dX0_init_72 rfl ?_
  refine q_iast (ws' := [(h0, .inr (0, [.ref q_1, .ref q_2, .ref q_3, .ref q_5, .int 0, .int 0, .int 0, .int 1])), (q_1, .inl ((k_Z M).2.1 0, 9, .inl (fun _ => 0))), (q_2, .inl ((k_Z M).2.1 0, 8, .inl (fun _ => 0))), (q_3, .inl ((k_Z M).2.1 1, 5, .inr (.inr (.inr (.inr (fun i => if i < 5 then some (r_4 i) else none)))))), (r_4 0, .inl ((k_Z M).2.1 0, 8, .inl (fun _ => 0))), (r_4 1, .inl ((k_Z M).2.1 0, 8, .inl (fun _ => 0))), (r_4 2, .inl ((k_Z M).2.1 0, 8, .inl (fun _ => 0))), (r_4 3, .inl ((k_Z M).2.1 0, 8, .inl (fun _ => 0))), (r_4 4, .inl ((k_Z M).2.1 0, 8, .inl (fun _ => 0))), (q_5, .inl ((k_Z M).2.1 0, 10, .inl (upd (upd (upd (fun _ => 0) 0 (-1)) 1 (-1)) 2 (-1))))]) K 9 rfl (vp_in_nI (n := 2) (N := 10) (by omega) (by omega)) rfl dX0_init_73 ?_
  refine q_iinc 3 (lv' := [(1, .int 3), (0, .ref h0)]) K 0 dX0_init_74 rfl rfl (by decide) rfl ?_
  refine q_goto 61 K dX0_init_77 (by decide) ?_
  refine q_iload_n K 0 dX0_init_61 rfl ?_
  refine q_bipush 10 K dX0_init_62 rfl ?_
  refine q_icmp_ge 80 K dX0_init_64 (by decide) (fun c_0 => absurd c_0 (by decide)) (fun c_0 => ?_)
  refine q_aload_n K 1 dX0_init_67 rfl ?_
  refine q_get (.ref q_5) K ws_X0 0 rfl rfl 3 (by decide) fl_X0_23 rfl dX0_init_68 ?_
  refine q_iload_n K 0 dX0_init_71 rfl ?_
  refine q_iconst (-1) K dX0_init_72 rfl ?_
  refine q_iast (ws' := [(h0, .inr (0, [.ref q_1, .ref q_2, .ref q_3, .ref q_5, .int 0, .int 0, .int 0, .int 1])), (q_1, .inl ((k_Z M).2.1 0, 9, .inl (fun _ => 0))), (q_2, .inl ((k_Z M).2.1 0, 8, .inl (fun _ => 0))), (q_3, .inl ((k_Z M).2.1 1, 5, .inr (.inr (.inr (.inr (fun i => if i < 5 then some (r_4 i) else none)))))), (r_4 0, .inl ((k_Z M).2.1 0, 8, .inl (fun _ => 0))), (r_4 1, .inl ((k_Z M).2.1 0, 8, .inl (fun _ => 0))), (r_4 2, .inl ((k_Z M).2.1 0, 8, .inl (fun _ => 0))), (r_4 3, .inl ((k_Z M).2.1 0, 8, .inl (fun _ => 0))), (r_4 4, .inl ((k_Z M).2.1 0, 8, .inl (fun _ => 0))), (q_5, .inl ((k_Z M).2.1 0, 10, .inl (upd (upd (upd (upd (fun _ => 0) 0 (-1)) 1 (-1)) 2 (-1)) 3 (-1))))]) K 9 rfl (vp_in_nI (n := 3) (N := 10) (by omega) (by omega)) rfl dX0_init_73 ?_
  refine q_iinc 4 (lv' := [(1, .int 4), (0, .ref h0)]) K 0 dX0_init_74 rfl rfl (by decide) rfl ?_
  refine q_goto 61 K dX0_init_77 (by decide) ?_
  refine q_iload_n K 0 dX0_init_61 rfl ?_
  refine q_bipush 10 K dX0_init_62 rfl ?_
  refine q_icmp_ge 80 K dX0_init_64 (by decide) (fun c_0 => absurd c_0 (by decide)) (fun c_0 => ?_)
  refine q_aload_n K 1 dX0_init_67 rfl ?_
  refine q_get (.ref q_5) K ws_X0 0 rfl rfl 3 (by decide) fl_X0_23 rfl dX0_init_68 ?_
  refine q_iload_n K 0 dX0_init_71 rfl ?_
  refine q_iconst (-1) K dX0_init_72 rfl ?_
  refine q_iast (ws' := [(h0, .inr (0, [.ref q_1, .ref q_2, .ref q_3, .ref q_5, .int 0, .int 0, .int 0, .int 1])), (q_1, .inl ((k_Z M).2.1 0, 9, .inl (fun _ => 0))), (q_2, .inl ((k_Z M).2.1 0, 8, .inl (fun _ => 0))), (q_3, .inl ((k_Z M).2.1 1, 5, .inr (.inr (.inr (.inr (fun i => if i < 5 then some (r_4 i) else none)))))), (r_4 0, .inl ((k_Z M).2.1 0, 8, .inl (fun _ => 0))), (r_4 1, .inl ((k_Z M).2.1 0, 8, .inl (fun _ => 0))), (r_4 2, .inl ((k_Z M).2.1 0, 8, .inl (fun _ => 0))), (r_4 3, .inl ((k_Z M).2.1 0, 8, .inl (fun _ => 0))), (r_4 4, .inl ((k_Z M).2.1 0, 8, .inl (fun _ => 0))), (q_5, .inl ((k_Z M).2.1 0, 10, .inl (upd (upd (upd (upd (upd (fun _ => 0) 0 (-1)) 1 (-1)) 2 (-1)) 3 (-1)) 4 (-1))))]) K 9 rfl (vp_in_nI (n := 4) (N := 10) (by omega) (by omega)) rfl dX0_init_73 ?_
  refine q_iinc 5 (lv' := [(1, .int 5), (0, .ref h0)]) K 0 dX0_init_74 rfl rfl (by decide) rfl ?_
  refine q_goto 61 K dX0_init_77 (by decide) ?_
  refine q_iload_n K 0 dX0_init_61 rfl ?_
  refine q_bipush 10 K dX0_init_62 rfl ?_
  refine q_icmp_ge 80 K dX0_init_64 (by decide) (fun c_0 => absurd c_0 (by decide)) (fun c_0 => ?_)
  refine q_aload_n K 1 dX0_init_67 rfl ?_
  refine q_get (.ref q_5) K ws_X0 0 rfl rfl 3 (by decide) fl_X0_23 rfl dX0_init_68 ?_
  refine q_iload_n K 0 dX0_init_71 rfl ?_
  refine q_iconst (-1) K dX0_init_72 rfl ?_
  refine q_iast (ws' := [(h0, .inr (0, [.ref q_1, .ref q_2, .ref q_3, .ref q_5, .int 0, .int 0, .int 0, .int 1])), (q_1, .inl ((k_Z M).2.1 0, 9, .inl (fun _ => 0))), (q_2, .inl ((k_Z M).2.1 0, 8, .inl (fun _ => 0))), (q_3, .inl ((k_Z M).2.1 1, 5, .inr (.inr (.inr (.inr (fun i => if i < 5 then some (r_4 i) else none)))))), (r_4 0, .inl ((k_Z M).2.1 0, 8, .inl (fun _ => 0))), (r_4 1, .inl ((k_Z M).2.1 0, 8, .inl (fun _ => 0))), (r_4 2, .inl ((k_Z M).2.1 0, 8, .inl (fun _ => 0))), (r_4 3, .inl ((k_Z M).2.1 0, 8, .inl (fun _ => 0))), (r_4 4, .inl ((k_Z M).2.1 0, 8, .inl (fun _ => 0))), (q_5, .inl ((k_Z M).2.1 0, 10, .inl (upd (upd (upd (upd (upd (upd (fun _ => 0) 0 (-1)) 1 (-1)) 2 (-1)) 3 (-1)) 4 (-1)) 5 (-1))))]) K 9 rfl (vp_in_nI (n := 5) (N := 10) (by omega) (by omega)) rfl dX0_init_73 ?_
  refine q_iinc 6 (lv' := [(1, .int 6), (0, .ref h0)]) K 0 dX0_init_74 rfl rfl (by decide) rfl ?_
  refine q_goto 61 K dX0_init_77 (by decide) ?_
  refine q_iload_n K 0 dX0_init_61 rfl ?_
  refine q_bipush 10 K dX0_init_62 rfl ?_
  refine q_icmp_ge 80 K dX0_init_64 (by decide) (fun c_0 => absurd c_0 (by decide)) (fun c_0 => ?_)
  refine q_aload_n K 1 dX0_init_67 rfl ?_
  refine q_get (.ref q_5) K ws_X0 0 rfl rfl 3 (by decide) fl_X0_23 rfl dX0_init_68 ?_
  refine q_iload_n K 0 dX0_init_71 rfl ?_
  refine q_iconst (-1) K dX0_init_72 rfl ?_
  refine q_iast (ws' := [(h0, .inr (0, [.ref q_1, .ref q_2, .ref q_3, .ref q_5, .int 0, .int 0, .int 0, .int 1])), (q_1, .inl ((k_Z M).2.1 0, 9, .inl (fun _ => 0))), (q_2, .inl ((k_Z M).2.1 0, 8, .inl (fun _ => 0))), (q_3, .inl ((k_Z M).2.1 1, 5, .inr (.inr (.inr (.inr (fun i => if i < 5 then some (r_4 i) else none)))))), (r_4 0, .inl ((k_Z M).2.1 0, 8, .inl (fun _ => 0))), (r_4 1, .inl ((k_Z M).2.1 0, 8, .inl (fun _ => 0))), (r_4 2, .inl ((k_Z M).2.1 0, 8, .inl (fun _ => 0))), (r_4 3, .inl ((k_Z M).2.1 0, 8, .inl (fun _ => 0))), (r_4 4, .inl ((k_Z M).2.1 0, 8, .inl (fun _ => 0))), (q_5, .inl ((k_Z M).2.1 0, 10, .inl (upd (upd (upd (upd (upd (upd (upd (fun _ => 0) 0 (-1)) 1 (-1)) 2 (-1)) 3 (-1)) 4 (-1)) 5 (-1)) 6 (-1))))]) K 9 rfl (vp_in_nI (n := 6) (N := 10) (by omega) (by omega)) rfl dX0_init_73 ?_
  refine q_iinc 7 (lv' := [(1, .int 7), (0, .ref h0)]) K 0 dX0_init_74 rfl rfl (by decide) rfl ?_
  refine q_goto 61 K dX0_init_77 (by decide) ?_
  refine q_iload_n K 0 dX0_init_61 rfl ?_
  refine q_bipush 10 K dX0_init_62 rfl ?_
  refine q_icmp_ge 80 K dX0_init_64 (by decide) (fun c_0 => absurd c_0 (by decide)) (fun c_0 => ?_)
  refine q_aload_n K 1 dX0_init_67 rfl ?_
  refine q_get (.ref q_5) K ws_X0 0 rfl rfl 3 (by decide) fl_X0_23 rfl dX0_init_68 ?_
  refine q_iload_n K 0 dX0_init_71 rfl ?_
  refine q_iconst (-1) K dX0_init_72 rfl ?_
  refine q_iast (ws' := [(h0, .inr (0, [.ref q_1, .ref q_2, .ref q_3, .ref q_5, .int 0, .int 0, .int 0, .int 1])), (q_1, .inl ((k_Z M).2.1 0, 9, .inl (fun _ => 0))), (q_2, .inl ((k_Z M).2.1 0, 8, .inl (fun _ => 0))), (q_3, .inl ((k_Z M).2.1 1, 5, .inr (.inr (.inr (.inr (fun i => if i < 5 then some (r_4 i) else none)))))), (r_4 0, .inl ((k_Z M).2.1 0, 8, .inl (fun _ => 0))), (r_4 1, .inl ((k_Z M).2.1 0, 8, .inl (fun _ => 0))), (r_4 2, .inl ((k_Z M).2.1 0, 8, .inl (fun _ => 0))), (r_4 3, .inl ((k_Z M).2.1 0, 8, .inl (fun _ => 0))), (r_4 4, .inl ((k_Z M).2.1 0, 8, .inl (fun _ => 0))), (q_5, .inl ((k_Z M).2.1 0, 10, .inl (upd (upd (upd (upd (upd (upd (upd (upd (fun _ => 0) 0 (-1)) 1 (-1)) 2 (-1)) 3 (-1)) 4 (-1)) 5 (-1)) 6 (-1)) 7 (-1))))]) K 9 rfl (vp_in_nI (n := 7) (N := 10) (by omega) (by omega)) rfl dX0_init_73 ?_
  refine q_iinc 8 (lv' := [(1, .int 8), (0, .ref h0)]) K 0 dX0_init_74 rfl rfl (by decide) rfl ?_
  refine q_goto 61 K dX0_init_77 (by decide) ?_
  refine q_iload_n K 0 dX0_init_61 rfl ?_
  refine q_bipush 10 K dX0_init_62 rfl ?_
  refine q_icmp_ge 80 K dX0_init_64 (by decide) (fun c_0 => absurd c_0 (by decide)) (fun c_0 => ?_)
  refine q_aload_n K 1 dX0_init_67 rfl ?_
  refine q_get (.ref q_5) K ws_X0 0 rfl rfl 3 (by decide) fl_X0_23 rfl dX0_init_68 ?_
  refine q_iload_n K 0 dX0_init_71 rfl ?_
  refine q_iconst (-1) K dX0_init_72 rfl ?_
  refine q_iast (ws' := [(h0, .inr (0, [.ref q_1, .ref q_2, .ref q_3, .ref q_5, .int 0, .int 0, .int 0, .int 1])), (q_1, .inl ((k_Z M).2.1 0, 9, .inl (fun _ => 0))), (q_2, .inl ((k_Z M).2.1 0, 8, .inl (fun _ => 0))), (q_3, .inl ((k_Z M).2.1 1, 5, .inr (.inr (.inr (.inr (fun i => if i < 5 then some (r_4 i) else none)))))), (r_4 0, .inl ((k_Z M).2.1 0, 8, .inl (fun _ => 0))), (r_4 1, .inl ((k_Z M).2.1 0, 8, .inl (fun _ => 0))), (r_4 2, .inl ((k_Z M).2.1 0, 8, .inl (fun _ => 0))), (r_4 3, .inl ((k_Z M).2.1 0, 8, .inl (fun _ => 0))), (r_4 4, .inl ((k_Z M).2.1 0, 8, .inl (fun _ => 0))), (q_5, .inl ((k_Z M).2.1 0, 10, .inl (upd (upd (upd (upd (upd (upd (upd (upd (upd (fun _ => 0) 0 (-1)) 1 (-1)) 2 (-1)) 3 (-1)) 4 (-1)) 5 (-1)) 6 (-1)) 7 (-1)) 8 (-1))))]) K 9 rfl (vp_in_nI (n := 8) (N := 10) (by omega) (by omega)) rfl dX0_init_73 ?_
  refine q_iinc 9 (lv' := [(1, .int 9), (0, .ref h0)]) K 0 dX0_init_74 rfl rfl (by decide) rfl ?_
  refine q_goto 61 K dX0_init_77 (by decide) ?_
  refine q_iload_n K 0 dX0_init_61 rfl ?_
  refine q_bipush 10 K dX0_init_62 rfl ?_
  refine q_icmp_ge 80 K dX0_init_64 (by decide) (fun c_0 => absurd c_0 (by decide)) (fun c_0 => ?_)
  refine q_aload_n K 1 dX0_init_67 rfl ?_
  refine q_get (.ref q_5) K ws_X0 0 rfl rfl 3 (by decide) fl_X0_23 rfl dX0_init_68 ?_
  refine q_iload_n K 0 dX0_init_71 rfl ?_
  refine q_iconst (-1) K dX0_init_72 rfl ?_
  refine q_iast (ws' := [(h0, .inr (0, [.ref q_1, .ref q_2, .ref q_3, .ref q_5, .int 0, .int 0, .int 0, .int 1])), (q_1, .inl ((k_Z M).2.1 0, 9, .inl (fun _ => 0))), (q_2, .inl ((k_Z M).2.1 0, 8, .inl (fun _ => 0))), (q_3, .inl ((k_Z M).2.1 1, 5, .inr (.inr (.inr (.inr (fun i => if i < 5 then some (r_4 i) else none)))))), (r_4 0, .inl ((k_Z M).2.1 0, 8, .inl (fun _ => 0))), (r_4 1, .inl ((k_Z M).2.1 0, 8, .inl (fun _ => 0))), (r_4 2, .inl ((k_Z M).2.1 0, 8, .inl (fun _ => 0))), (r_4 3, .inl ((k_Z M).2.1 0, 8, .inl (fun _ => 0))), (r_4 4, .inl ((k_Z M).2.1 0, 8, .inl (fun _ => 0))), (q_5, .inl ((k_Z M).2.1 0, 10, .inl (upd (upd (upd (upd (upd (upd (upd (upd (upd (upd (fun _ => 0) 0 (-1)) 1 (-1)) 2 (-1)) 3 (-1)) 4 (-1)) 5 (-1)) 6 (-1)) 7 (-1)) 8 (-1)) 9 (-1))))]) K 9 rfl (vp_in_nI (n := 9) (N := 10) (by omega) (by omega)) rfl dX0_init_73 ?_
  refine q_iinc 10 (lv' := [(1, .int 10), (0, .ref h0)]) K 0 dX0_init_74 rfl rfl (by decide) rfl ?_
  refine q_goto 61 K dX0_init_77 (by decide) ?_
  refine q_iload_n K 0 dX0_init_61 rfl ?_
  refine q_bipush 10 K dX0_init_62 rfl ?_
  refine q_icmp_ge 80 K dX0_init_64 (by decide) (fun c_0 => ?_) (fun c_0 => absurd c_0 (by decide))
  refine q_perm (ws' := [(h0, .inr (0, [.ref q_1, .ref q_2, .ref q_3, .ref q_5, .int 0, .int 0, .int 0, .int 1])), (q_1, .inl ((k_Z M).2.1 0, 9, .inl (fun _ => 0))), (q_2, .inl ((k_Z M).2.1 0, 8, .inl (fun _ => 0))), (q_3, .inl ((k_Z M).2.1 1, 5, .inr (.inr (.inr (.inr (fun i => if i < 5 then some (r_4 i) else none)))))), (q_5, .inl ((k_Z M).2.1 0, 10, .inl (upd (upd (upd (upd (upd (upd (upd (upd (upd (upd (fun _ => 0) 0 (-1)) 1 (-1)) 2 (-1)) 3 (-1)) 4 (-1)) 5 (-1)) 6 (-1)) 7 (-1)) 8 (-1)) 9 (-1)))), (r_4 0, .inl ((k_Z M).2.1 0, 8, .inl (fun _ => 0))), (r_4 1, .inl ((k_Z M).2.1 0, 8, .inl (fun _ => 0))), (r_4 2, .inl ((k_Z M).2.1 0, 8, .inl (fun _ => 0))), (r_4 3, .inl ((k_Z M).2.1 0, 8, .inl (fun _ => 0))), (r_4 4, .inl ((k_Z M).2.1 0, 8, .inl (fun _ => 0)))]) (k_pick [0, 1, 2, 3, 9, 4, 5, 6, 7, 8] (show (List.range 10).Perm _ by decide) rfl) ?_
  refine q_extq (ws' := [(h0, .inr (0, [.ref q_1, .ref q_2, .ref q_3, .ref q_5, .int 0, .int 0, .int 0, .int 1])), (q_1, .inl ((k_Z M).2.1 0, 9, .inl (fun _ => 0))), (q_2, .inl ((k_Z M).2.1 0, 8, .inl (fun _ => 0))), (q_3, .inl ((k_Z M).2.1 1, 5, .inr (.inr (.inr (.inr (fun k => some ((fun k => match k with | 0 => h0 | 1 => q_1 | 2 => q_2 | 3 => q_3 | 4 => q_5 | k + 5 => r_4 k) (5 + k)))))))), (q_5, .inl ((k_Z M).2.1 0, 10, .inl (upd (upd (upd (upd (upd (upd (upd (upd (upd (upd (fun _ => 0) 0 (-1)) 1 (-1)) 2 (-1)) 3 (-1)) 4 (-1)) 5 (-1)) 6 (-1)) 7 (-1)) 8 (-1)) 9 (-1)))), (r_4 0, .inl ((k_Z M).2.1 0, 8, .inl (fun _ => 0))), (r_4 1, .inl ((k_Z M).2.1 0, 8, .inl (fun _ => 0))), (r_4 2, .inl ((k_Z M).2.1 0, 8, .inl (fun _ => 0))), (r_4 3, .inl ((k_Z M).2.1 0, 8, .inl (fun _ => 0))), (r_4 4, .inl ((k_Z M).2.1 0, 8, .inl (fun _ => 0)))]) 3 (fun k => some ((fun k => match k with | 0 => h0 | 1 => q_1 | 2 => q_2 | 3 => q_3 | 4 => q_5 | k + 5 => r_4 k) (5 + k))) rfl (fun k hk => by rcases (show k = 0 ∨ k = 1 ∨ k = 2 ∨ k = 3 ∨ k = 4 by omega) with rfl | rfl | rfl | rfl | rfl <;> rfl) rfl ?_
  exact Rt _ _ ([(h0, .inr (0, [.ref q_1, .ref q_2, .ref q_3, .ref q_5, .int 0, .int 0, .int 0, .int 1])), (q_1, .inl ((k_Z M).2.1 0, 9, .inl (fun _ => 0))), (q_2, .inl ((k_Z M).2.1 0, 8, .inl (fun _ => 0))), (q_3, .inl ((k_Z M).2.1 1, 5, .inr (.inr (.inr (.inr (fun k => some ((fun k => match k with | 0 => h0 | 1 => q_1 | 2 => q_2 | 3 => q_3 | 4 => q_5 | k + 5 => r_4 k) (5 + k)))))))), (q_5, .inl ((k_Z M).2.1 0, 10, .inl (upd (upd (upd (upd (upd (upd (upd (upd (upd (upd (fun _ => 0) 0 (-1)) 1 (-1)) 2 (-1)) 3 (-1)) 4 (-1)) 5 (-1)) 6 (-1)) 7 (-1)) 8 (-1)) 9 (-1)))), (r_4 0, .inl ((k_Z M).2.1 0, 8, .inl (fun _ => 0))), (r_4 1, .inl ((k_Z M).2.1 0, 8, .inl (fun _ => 0))), (r_4 2, .inl ((k_Z M).2.1 0, 8, .inl (fun _ => 0))), (r_4 3, .inl ((k_Z M).2.1 0, 8, .inl (fun _ => 0))), (r_4 4, .inl ((k_Z M).2.1 0, 8, .inl (fun _ => 0)))]) dX0_init_80 (⟨(fun k => match k with | 0 => h0 | 1 => q_1 | 2 => q_2 | 3 => q_3 | 4 => q_5 | k + 5 => r_4 k), rfl, rfl⟩)
set_option maxHeartbeats 4000000 in
set_option maxRecDepth 100000 in
theorem c_X1_init (l : Launch) (Z : kz_Z) (u : Nat × Nat) (h0 : Nat) : KN l Z u yX1_init cX1_init 1 1 12 1 40 [.ref h0] ([(h0, .inr (1, [.null, .int 0, .int 0]))]) (fun w2 => ∃ b : Nat → Nat, b 0 = h0 ∧ w2 = w_S Z b s_new) := by
  refine kn_of (by decide) rfl [(0, .ref h0)] (Nat.le_of_ble_eq_true rfl) rfl ?_
  intro M e1 e2 K0 hnm hcl hsl hX Rt
  subst e1 e2
  have K := kK_up K0 (n := 0) (k := 0) (Nat.zero_le _) (Nat.zero_le _)
  refine q_aload_n K 0 dX1_init_0 rfl ?_
  refine q_objinit K ml_X1_3 (Nat.le_of_ble_eq_true rfl) (Nat.le_of_ble_eq_true rfl) dX1_init_1 ?_
  refine q_aload_n K 0 dX1_init_4 rfl ?_
  refine q_bipush 40 K dX1_init_5 rfl ?_
  refine q_newi (N := 40) K (by decide) rfl (by decide) (by rw [hcl]; decide) (by rw [hsl]; decide) dX1_init_7 (fun q_1 => ?_)
  have K := kK_up K0 (n := 1) (k := 40) (by rw [hcl]; decide) (by rw [hsl]; decide)
  refine q_ws (ws' := [(h0, .inr (1, [.null, .int 0, .int 0])), (q_1, .inl ((k_Z M).2.1 0, 40, .inl (fun _ => 0)))]) rfl ?_
  refine q_putF (ty := .array .int) (ws' := [(h0, .inr (1, [.ref q_1, .int 0, .int 0])), (q_1, .inl ((k_Z M).2.1 0, 40, .inl (fun _ => 0)))]) K hnm ws_X1 tyX1 tyX1_ok nmX1 0 rfl rfl 0 (by decide) fl_X1_9 rfl rfl (by decide +kernel) rfl rfl (Nat.le_of_ble_eq_true rfl) rfl dX1_init_9 ?_
  refine q_aload_n K 0 dX1_init_12 rfl ?_
  refine q_iconst 0 K dX1_init_13 rfl ?_
  refine q_put (ty := .int) (ws' := [(h0, .inr (1, [.ref q_1, .int 0, .int 0])), (q_1, .inl ((k_Z M).2.1 0, 40, .inl (fun _ => 0)))]) K ws_X1 tyX1 tyX1_ok nmX1 0 rfl rfl 1 (by decide) fl_X1_15 rfl (by decide +kernel) rfl rfl (Nat.le_of_ble_eq_true rfl) rfl dX1_init_14 ?_
  refine q_aload_n K 0 dX1_init_17 rfl ?_
  refine q_iconst 0 K dX1_init_18 rfl ?_
  refine q_put (ty := .int) (ws' := [(h0, .inr (1, [.ref q_1, .int 0, .int 0])), (q_1, .inl ((k_Z M).2.1 0, 40, .inl (fun _ => 0)))]) K ws_X1 tyX1 tyX1_ok nmX1 0 rfl rfl 2 (by decide) fl_X1_19 rfl (by decide +kernel) rfl rfl (Nat.le_of_ble_eq_true rfl) rfl dX1_init_19 ?_
  exact Rt _ _ ([(h0, .inr (1, [.ref q_1, .int 0, .int 0])), (q_1, .inl ((k_Z M).2.1 0, 40, .inl (fun _ => 0)))]) dX1_init_22 (⟨(fun k => match k with | 0 => h0 | _ => q_1), rfl, rfl⟩)
set_option maxHeartbeats 4000000 in
set_option maxRecDepth 100000 in
theorem c_X4_init (l : Launch) (Z : kz_Z) (u : Nat × Nat) (h0 : Nat) : KN l Z u yX4_init cX4_init 2 1 12 10 588 [.ref h0] ([(h0, .inr (4, [.null, .null, .null, .null, .int 0, .null, .null, .int 0, .null, .null, .null, .null, .int 0, .int 0, .int 0, .int 0, .int 0]))]) (fun w2 => ∃ B : Nat → Nat, B 0 = h0 ∧ w2 = w_M Z B x_newM d_new) := by
  refine kn_of (by decide) rfl [(0, .ref h0)] (Nat.le_of_ble_eq_true rfl) rfl ?_
  intro M e1 e2 K0 hnm hcl hsl hX Rt
  subst e1 e2
  have K := kK_up K0 (n := 0) (k := 0) (Nat.zero_le _) (Nat.zero_le _)
  refine q_aload_n K 0 dX4_init_0 rfl ?_
  refine q_objinit K ml_X4_1 (Nat.le_of_ble_eq_true rfl) (Nat.le_of_ble_eq_true rfl) dX4_init_1 ?_
  refine q_aload_n K 0 dX4_init_4 rfl ?_
  refine q_bipush 71 K dX4_init_5 rfl ?_
  refine q_newi (N := 71) K (by decide) rfl (by decide) (by rw [hcl]; decide) (by rw [hsl]; decide) dX4_init_7 (fun q_1 => ?_)
  have K := kK_up K0 (n := 1) (k := 71) (by rw [hcl]; decide) (by rw [hsl]; decide)
  refine q_ws (ws' := [(h0, .inr (4, [.null, .null, .null, .null, .int 0, .null, .null, .int 0, .null, .null, .null, .null, .int 0, .int 0, .int 0, .int 0, .int 0])), (q_1, .inl ((k_Z M).2.1 0, 71, .inl (fun _ => 0)))]) rfl ?_
  refine q_putF (ty := .array .int) (ws' := [(h0, .inr (4, [.ref q_1, .null, .null, .null, .int 0, .null, .null, .int 0, .null, .null, .null, .null, .int 0, .int 0, .int 0, .int 0, .int 0])), (q_1, .inl ((k_Z M).2.1 0, 71, .inl (fun _ => 0)))]) K hnm ws_X4 tyX4 tyX4_ok nmX4 0 rfl rfl 0 (by decide) fl_X4_7 rfl rfl (by decide +kernel) rfl rfl (Nat.le_of_ble_eq_true rfl) rfl dX4_init_9 ?_
  refine q_aload_n K 0 dX4_init_12 rfl ?_
  refine q_bipush 71 K dX4_init_13 rfl ?_
  refine q_newi (N := 71) K (by decide) rfl (by decide) (by rw [hcl]; decide) (by rw [hsl]; decide) dX4_init_15 (fun q_2 => ?_)
  have K := kK_up K0 (n := 2) (k := 142) (by rw [hcl]; decide) (by rw [hsl]; decide)
  refine q_ws (ws' := [(h0, .inr (4, [.ref q_1, .null, .null, .null, .int 0, .null, .null, .int 0, .null, .null, .null, .null, .int 0, .int 0, .int 0, .int 0, .int 0])), (q_1, .inl ((k_Z M).2.1 0, 71, .inl (fun _ => 0))), (q_2, .inl ((k_Z M).2.1 0, 71, .inl (fun _ => 0)))]) rfl ?_
  refine q_putF (ty := .array .int) (ws' := [(h0, .inr (4, [.ref q_1, .ref q_2, .null, .null, .int 0, .null, .null, .int 0, .null, .null, .null, .null, .int 0, .int 0, .int 0, .int 0, .int 0])), (q_1, .inl ((k_Z M).2.1 0, 71, .inl (fun _ => 0))), (q_2, .inl ((k_Z M).2.1 0, 71, .inl (fun _ => 0)))]) K hnm ws_X4 tyX4 tyX4_ok nmX4 0 rfl rfl 1 (by decide) fl_X4_13 rfl rfl (by decide +kernel) rfl rfl (Nat.le_of_ble_eq_true rfl) rfl dX4_init_17 ?_
  refine q_aload_n K 0 dX4_init_20 rfl ?_
  refine q_bipush 71 K dX4_init_21 rfl ?_
  refine q_newi (N := 71) K (by decide) rfl (by decide) (by rw [hcl]; decide) (by rw [hsl]; decide) dX4_init_23 (fun q_3 => ?_)
  have K := kK_up K0 (n := 3) (k := 213) (by rw [hcl]; decide) (by rw [hsl]; decide)
  refine q_ws (ws' := [(h0, .inr (4, [.ref q_1, .ref q_2, .null, .null, .int 0, .null, .null, .int 0, .null, .null, .null, .null, .int 0, .int 0, .int 0, .int 0, .int 0])), (q_1, .inl ((k_Z M).2.1 0, 71, .inl (fun _ => 0))), (q_2, .inl ((k_Z M).2.1 0, 71, .inl (fun _ => 0))), (q_3, .inl ((k_Z M).2.1 0, 71, .inl (fun _ => 0)))]) rfl ?_
  refine q_putF (ty := .array .int) (ws' := [(h0, .inr (4, [.ref q_1, .ref q_2, .ref q_3, .null, .int 0, .null, .null, .int 0, .null, .null, .null, .null, .int 0, .int 0, .int 0, .int 0, .int 0])), (q_1, .inl ((k_Z M).2.1 0, 71, .inl (fun _ => 0))), (q_2, .inl ((k_Z M).2.1 0, 71, .inl (fun _ => 0))), (q_3, .inl ((k_Z M).2.1 0, 71, .inl (fun _ => 0)))]) K hnm ws_X4 tyX4 tyX4_ok nmX4 0 rfl rfl 2 (by decide) fl_X4_16 rfl rfl (by decide +kernel) rfl rfl (Nat.le_of_ble_eq_true rfl) rfl dX4_init_25 ?_
  refine q_aload_n K 0 dX4_init_28 rfl ?_
  refine q_bipush 71 K dX4_init_29 rfl ?_
  refine q_newi (N := 71) K (by decide) rfl (by decide) (by rw [hcl]; decide) (by rw [hsl]; decide) dX4_init_31 (fun q_4 => ?_)
  have K := kK_up K0 (n := 4) (k := 284) (by rw [hcl]; decide) (by rw [hsl]; decide)
  refine q_ws (ws' := [(h0, .inr (4, [.ref q_1, .ref q_2, .ref q_3, .null, .int 0, .null, .null, .int 0, .null, .null, .null, .null, .int 0, .int 0, .int 0, .int 0, .int 0])), (q_1, .inl ((k_Z M).2.1 0, 71, .inl (fun _ => 0))), (q_2, .inl ((k_Z M).2.1 0, 71, .inl (fun _ => 0))), (q_3, .inl ((k_Z M).2.1 0, 71, .inl (fun _ => 0))), (q_4, .inl ((k_Z M).2.1 0, 71, .inl (fun _ => 0)))]) rfl ?_
  refine q_putF (ty := .array .int) (ws' := [(h0, .inr (4, [.ref q_1, .ref q_2, .ref q_3, .ref q_4, .int 0, .null, .null, .int 0, .null, .null, .null, .null, .int 0, .int 0, .int 0, .int 0, .int 0])), (q_1, .inl ((k_Z M).2.1 0, 71, .inl (fun _ => 0))), (q_2, .inl ((k_Z M).2.1 0, 71, .inl (fun _ => 0))), (q_3, .inl ((k_Z M).2.1 0, 71, .inl (fun _ => 0))), (q_4, .inl ((k_Z M).2.1 0, 71, .inl (fun _ => 0)))]) K hnm ws_X4 tyX4 tyX4_ok nmX4 0 rfl rfl 3 (by decide) fl_X4_19 rfl rfl (by decide +kernel) rfl rfl (Nat.le_of_ble_eq_true rfl) rfl dX4_init_33 ?_
  refine q_aload_n K 0 dX4_init_36 rfl ?_
  refine q_bipush 8 K dX4_init_37 rfl ?_
  refine q_newi (N := 8) K (by decide) rfl (by decide) (by rw [hcl]; decide) (by rw [hsl]; decide) dX4_init_39 (fun q_5 => ?_)
  have K := kK_up K0 (n := 5) (k := 292) (by rw [hcl]; decide) (by rw [hsl]; decide)
  refine q_ws (ws' := [(h0, .inr (4, [.ref q_1, .ref q_2, .ref q_3, .ref q_4, .int 0, .null, .null, .int 0, .null, .null, .null, .null, .int 0, .int 0, .int 0, .int 0, .int 0])), (q_1, .inl ((k_Z M).2.1 0, 71, .inl (fun _ => 0))), (q_2, .inl ((k_Z M).2.1 0, 71, .inl (fun _ => 0))), (q_3, .inl ((k_Z M).2.1 0, 71, .inl (fun _ => 0))), (q_4, .inl ((k_Z M).2.1 0, 71, .inl (fun _ => 0))), (q_5, .inl ((k_Z M).2.1 0, 8, .inl (fun _ => 0)))]) rfl ?_
  refine q_putF (ty := .array .int) (ws' := [(h0, .inr (4, [.ref q_1, .ref q_2, .ref q_3, .ref q_4, .int 0, .ref q_5, .null, .int 0, .null, .null, .null, .null, .int 0, .int 0, .int 0, .int 0, .int 0])), (q_1, .inl ((k_Z M).2.1 0, 71, .inl (fun _ => 0))), (q_2, .inl ((k_Z M).2.1 0, 71, .inl (fun _ => 0))), (q_3, .inl ((k_Z M).2.1 0, 71, .inl (fun _ => 0))), (q_4, .inl ((k_Z M).2.1 0, 71, .inl (fun _ => 0))), (q_5, .inl ((k_Z M).2.1 0, 8, .inl (fun _ => 0)))]) K hnm ws_X4 tyX4 tyX4_ok nmX4 0 rfl rfl 5 (by decide) fl_X4_22 rfl rfl (by decide +kernel) rfl rfl (Nat.le_of_ble_eq_true rfl) rfl dX4_init_41 ?_
  refine q_aload_n K 0 dX4_init_44 rfl ?_
  refine q_bipush 120 K dX4_init_45 rfl ?_
  refine q_newi (N := 120) K (by decide) rfl (by decide) (by rw [hcl]; decide) (by rw [hsl]; decide) dX4_init_47 (fun q_6 => ?_)
  have K := kK_up K0 (n := 6) (k := 412) (by rw [hcl]; decide) (by rw [hsl]; decide)
  refine q_ws (ws' := [(h0, .inr (4, [.ref q_1, .ref q_2, .ref q_3, .ref q_4, .int 0, .ref q_5, .null, .int 0, .null, .null, .null, .null, .int 0, .int 0, .int 0, .int 0, .int 0])), (q_1, .inl ((k_Z M).2.1 0, 71, .inl (fun _ => 0))), (q_2, .inl ((k_Z M).2.1 0, 71, .inl (fun _ => 0))), (q_3, .inl ((k_Z M).2.1 0, 71, .inl (fun _ => 0))), (q_4, .inl ((k_Z M).2.1 0, 71, .inl (fun _ => 0))), (q_5, .inl ((k_Z M).2.1 0, 8, .inl (fun _ => 0))), (q_6, .inl ((k_Z M).2.1 0, 120, .inl (fun _ => 0)))]) rfl ?_
  refine q_putF (ty := .array .int) (ws' := [(h0, .inr (4, [.ref q_1, .ref q_2, .ref q_3, .ref q_4, .int 0, .ref q_5, .ref q_6, .int 0, .null, .null, .null, .null, .int 0, .int 0, .int 0, .int 0, .int 0])), (q_1, .inl ((k_Z M).2.1 0, 71, .inl (fun _ => 0))), (q_2, .inl ((k_Z M).2.1 0, 71, .inl (fun _ => 0))), (q_3, .inl ((k_Z M).2.1 0, 71, .inl (fun _ => 0))), (q_4, .inl ((k_Z M).2.1 0, 71, .inl (fun _ => 0))), (q_5, .inl ((k_Z M).2.1 0, 8, .inl (fun _ => 0))), (q_6, .inl ((k_Z M).2.1 0, 120, .inl (fun _ => 0)))]) K hnm ws_X4 tyX4 tyX4_ok nmX4 0 rfl rfl 6 (by decide) fl_X4_25 rfl rfl (by decide +kernel) rfl rfl (Nat.le_of_ble_eq_true rfl) rfl dX4_init_49 ?_
  refine q_aload_n K 0 dX4_init_52 rfl ?_
  refine q_iconst 4 K dX4_init_53 rfl ?_
  refine q_newi (N := 4) K (by decide) rfl (by decide) (by rw [hcl]; decide) (by rw [hsl]; decide) dX4_init_54 (fun q_7 => ?_)
  have K := kK_up K0 (n := 7) (k := 416) (by rw [hcl]; decide) (by rw [hsl]; decide)
  refine q_ws (ws' := [(h0, .inr (4, [.ref q_1, .ref q_2, .ref q_3, .ref q_4, .int 0, .ref q_5, .ref q_6, .int 0, .null, .null, .null, .null, .int 0, .int 0, .int 0, .int 0, .int 0])), (q_1, .inl ((k_Z M).2.1 0, 71, .inl (fun _ => 0))), (q_2, .inl ((k_Z M).2.1 0, 71, .inl (fun _ => 0))), (q_3, .inl ((k_Z M).2.1 0, 71, .inl (fun _ => 0))), (q_4, .inl ((k_Z M).2.1 0, 71, .inl (fun _ => 0))), (q_5, .inl ((k_Z M).2.1 0, 8, .inl (fun _ => 0))), (q_6, .inl ((k_Z M).2.1 0, 120, .inl (fun _ => 0))), (q_7, .inl ((k_Z M).2.1 0, 4, .inl (fun _ => 0)))]) rfl ?_
  refine q_dup K dX4_init_56 rfl ?_
  refine q_iconst 0 K dX4_init_57 rfl ?_
  refine q_iconst (-1) K dX4_init_58 rfl ?_
  refine q_iast (ws' := [(h0, .inr (4, [.ref q_1, .ref q_2, .ref q_3, .ref q_4, .int 0, .ref q_5, .ref q_6, .int 0, .null, .null, .null, .null, .int 0, .int 0, .int 0, .int 0, .int 0])), (q_1, .inl ((k_Z M).2.1 0, 71, .inl (fun _ => 0))), (q_2, .inl ((k_Z M).2.1 0, 71, .inl (fun _ => 0))), (q_3, .inl ((k_Z M).2.1 0, 71, .inl (fun _ => 0))), (q_4, .inl ((k_Z M).2.1 0, 71, .inl (fun _ => 0))), (q_5, .inl ((k_Z M).2.1 0, 8, .inl (fun _ => 0))), (q_6, .inl ((k_Z M).2.1 0, 120, .inl (fun _ => 0))), (q_7, .inl ((k_Z M).2.1 0, 4, .inl (upd (fun _ => 0) 0 (-1))))]) K 7 rfl (vp_in_nI (n := 0) (N := 4) (by omega) (by omega)) rfl dX4_init_59 ?_
  refine q_dup K dX4_init_60 rfl ?_
  refine q_iconst 1 K dX4_init_61 rfl ?_
  refine q_iconst (-1) K dX4_init_62 rfl ?_
  refine q_iast (ws' := [(h0, .inr (4, [.ref q_1, .ref q_2, .ref q_3, .ref q_4, .int 0, .ref q_5, .ref q_6, .int 0, .null, .null, .null, .null, .int 0, .int 0, .int 0, .int 0, .int 0])), (q_1, .inl ((k_Z M).2.1 0, 71, .inl (fun _ => 0))), (q_2, .inl ((k_Z M).2.1 0, 71, .inl (fun _ => 0))), (q_3, .inl ((k_Z M).2.1 0, 71, .inl (fun _ => 0))), (q_4, .inl ((k_Z M).2.1 0, 71, .inl (fun _ => 0))), (q_5, .inl ((k_Z M).2.1 0, 8, .inl (fun _ => 0))), (q_6, .inl ((k_Z M).2.1 0, 120, .inl (fun _ => 0))), (q_7, .inl ((k_Z M).2.1 0, 4, .inl (upd (upd (fun _ => 0) 0 (-1)) 1 (-1))))]) K 7 rfl (vp_in_nI (n := 1) (N := 4) (by omega) (by omega)) rfl dX4_init_63 ?_
  refine q_dup K dX4_init_64 rfl ?_
  refine q_iconst 2 K dX4_init_65 rfl ?_
  refine q_iconst (-1) K dX4_init_66 rfl ?_
  refine q_iast (ws' := [(h0, .inr (4, [.ref q_1, .ref q_2, .ref q_3, .ref q_4, .int 0, .ref q_5, .ref q_6, .int 0, .null, .null, .null, .null, .int 0, .int 0, .int 0, .int 0, .int 0])), (q_1, .inl ((k_Z M).2.1 0, 71, .inl (fun _ => 0))), (q_2, .inl ((k_Z M).2.1 0, 71, .inl (fun _ => 0))), (q_3, .inl ((k_Z M).2.1 0, 71, .inl (fun _ => 0))), (q_4, .inl ((k_Z M).2.1 0, 71, .inl (fun _ => 0))), (q_5, .inl ((k_Z M).2.1 0, 8, .inl (fun _ => 0))), (q_6, .inl ((k_Z M).2.1 0, 120, .inl (fun _ => 0))), (q_7, .inl ((k_Z M).2.1 0, 4, .inl (upd (upd (upd (fun _ => 0) 0 (-1)) 1 (-1)) 2 (-1))))]) K 7 rfl (vp_in_nI (n := 2) (N := 4) (by omega) (by omega)) rfl dX4_init_67 ?_
  refine q_dup K dX4_init_68 rfl ?_
  refine q_iconst 3 K dX4_init_69 rfl ?_
  refine q_iconst (-1) K dX4_init_70 rfl ?_
  refine q_iast (ws' := [(h0, .inr (4, [.ref q_1, .ref q_2, .ref q_3, .ref q_4, .int 0, .ref q_5, .ref q_6, .int 0, .null, .null, .null, .null, .int 0, .int 0, .int 0, .int 0, .int 0])), (q_1, .inl ((k_Z M).2.1 0, 71, .inl (fun _ => 0))), (q_2, .inl ((k_Z M).2.1 0, 71, .inl (fun _ => 0))), (q_3, .inl ((k_Z M).2.1 0, 71, .inl (fun _ => 0))), (q_4, .inl ((k_Z M).2.1 0, 71, .inl (fun _ => 0))), (q_5, .inl ((k_Z M).2.1 0, 8, .inl (fun _ => 0))), (q_6, .inl ((k_Z M).2.1 0, 120, .inl (fun _ => 0))), (q_7, .inl ((k_Z M).2.1 0, 4, .inl (upd (upd (upd (upd (fun _ => 0) 0 (-1)) 1 (-1)) 2 (-1)) 3 (-1))))]) K 7 rfl (vp_in_nI (n := 3) (N := 4) (by omega) (by omega)) rfl dX4_init_71 ?_
  refine q_putF (ty := .array .int) (ws' := [(h0, .inr (4, [.ref q_1, .ref q_2, .ref q_3, .ref q_4, .int 0, .ref q_5, .ref q_6, .int 0, .ref q_7, .null, .null, .null, .int 0, .int 0, .int 0, .int 0, .int 0])), (q_1, .inl ((k_Z M).2.1 0, 71, .inl (fun _ => 0))), (q_2, .inl ((k_Z M).2.1 0, 71, .inl (fun _ => 0))), (q_3, .inl ((k_Z M).2.1 0, 71, .inl (fun _ => 0))), (q_4, .inl ((k_Z M).2.1 0, 71, .inl (fun _ => 0))), (q_5, .inl ((k_Z M).2.1 0, 8, .inl (fun _ => 0))), (q_6, .inl ((k_Z M).2.1 0, 120, .inl (fun _ => 0))), (q_7, .inl ((k_Z M).2.1 0, 4, .inl (upd (upd (upd (upd (fun _ => 0) 0 (-1)) 1 (-1)) 2 (-1)) 3 (-1))))]) K hnm ws_X4 tyX4 tyX4_ok nmX4 0 rfl rfl 8 (by decide) fl_X4_28 rfl rfl (by decide +kernel) rfl rfl (Nat.le_of_ble_eq_true rfl) rfl dX4_init_72 ?_
  refine q_aload_n K 0 dX4_init_75 rfl ?_
  refine q_iconst 4 K dX4_init_76 rfl ?_
  refine q_newi (N := 4) K (by decide) rfl (by decide) (by rw [hcl]; decide) (by rw [hsl]; decide) dX4_init_77 (fun q_8 => ?_)
  have K := kK_up K0 (n := 8) (k := 420) (by rw [hcl]; decide) (by rw [hsl]; decide)
  refine q_ws (ws' := [(h0, .inr (4, [.ref q_1, .ref q_2, .ref q_3, .ref q_4, .int 0, .ref q_5, .ref q_6, .int 0, .ref q_7, .null, .null, .null, .int 0, .int 0, .int 0, .int 0, .int 0])), (q_1, .inl ((k_Z M).2.1 0, 71, .inl (fun _ => 0))), (q_2, .inl ((k_Z M).2.1 0, 71, .inl (fun _ => 0))), (q_3, .inl ((k_Z M).2.1 0, 71, .inl (fun _ => 0))), (q_4, .inl ((k_Z M).2.1 0, 71, .inl (fun _ => 0))), (q_5, .inl ((k_Z M).2.1 0, 8, .inl (fun _ => 0))), (q_6, .inl ((k_Z M).2.1 0, 120, .inl (fun _ => 0))), (q_7, .inl ((k_Z M).2.1 0, 4, .inl (upd (upd (upd (upd (fun _ => 0) 0 (-1)) 1 (-1)) 2 (-1)) 3 (-1)))), (q_8, .inl ((k_Z M).2.1 0, 4, .inl (fun _ => 0)))]) rfl ?_
  refine q_putF (ty := .array .int) (ws' := [(h0, .inr (4, [.ref q_1, .ref q_2, .ref q_3, .ref q_4, .int 0, .ref q_5, .ref q_6, .int 0, .ref q_7, .ref q_8, .null, .null, .int 0, .int 0, .int 0, .int 0, .int 0])), (q_1, .inl ((k_Z M).2.1 0, 71, .inl (fun _ => 0))), (q_2, .inl ((k_Z M).2.1 0, 71, .inl (fun _ => 0))), (q_3, .inl ((k_Z M).2.1 0, 71, .inl (fun _ => 0))), (q_4, .inl ((k_Z M).2.1 0, 71, .inl (fun _ => 0))), (q_5, .inl ((k_Z M).2.1 0, 8, .inl (fun _ => 0))), (q_6, .inl ((k_Z M).2.1 0, 120, .inl (fun _ => 0))), (q_7, .inl ((k_Z M).2.1 0, 4, .inl (upd (upd (upd (upd (fun _ => 0) 0 (-1)) 1 (-1)) 2 (-1)) 3 (-1)))), (q_8, .inl ((k_Z M).2.1 0, 4, .inl (fun _ => 0)))]) K hnm ws_X4 tyX4 tyX4_ok nmX4 0 rfl rfl 9 (by decide) fl_X4_31 rfl rfl (by decide +kernel) rfl rfl (Nat.le_of_ble_eq_true rfl) rfl dX4_init_79 ?_
  refine q_aload_n K 0 dX4_init_82 rfl ?_
  refine q_sipush 160 K dX4_init_83 rfl ?_
  refine q_newi (N := 160) K (by decide) rfl (by decide) (by rw [hcl]; decide) (by rw [hsl]; decide) dX4_init_86 (fun q_9 => ?_)
  have K := kK_up K0 (n := 9) (k := 580) (by rw [hcl]; decide) (by rw [hsl]; decide)
  refine q_ws (ws' := [(h0, .inr (4, [.ref q_1, .ref q_2, .ref q_3, .ref q_4, .int 0, .ref q_5, .ref q_6, .int 0, .ref q_7, .ref q_8, .null, .null, .int 0, .int 0, .int 0, .int 0, .int 0])), (q_1, .inl ((k_Z M).2.1 0, 71, .inl (fun _ => 0))), (q_2, .inl ((k_Z M).2.1 0, 71, .inl (fun _ => 0))), (q_3, .inl ((k_Z M).2.1 0, 71, .inl (fun _ => 0))), (q_4, .inl ((k_Z M).2.1 0, 71, .inl (fun _ => 0))), (q_5, .inl ((k_Z M).2.1 0, 8, .inl (fun _ => 0))), (q_6, .inl ((k_Z M).2.1 0, 120, .inl (fun _ => 0))), (q_7, .inl ((k_Z M).2.1 0, 4, .inl (upd (upd (upd (upd (fun _ => 0) 0 (-1)) 1 (-1)) 2 (-1)) 3 (-1)))), (q_8, .inl ((k_Z M).2.1 0, 4, .inl (fun _ => 0))), (q_9, .inl ((k_Z M).2.1 0, 160, .inl (fun _ => 0)))]) rfl ?_
  refine q_putF (ty := .array .int) (ws' := [(h0, .inr (4, [.ref q_1, .ref q_2, .ref q_3, .ref q_4, .int 0, .ref q_5, .ref q_6, .int 0, .ref q_7, .ref q_8, .ref q_9, .null, .int 0, .int 0, .int 0, .int 0, .int 0])), (q_1, .inl ((k_Z M).2.1 0, 71, .inl (fun _ => 0))), (q_2, .inl ((k_Z M).2.1 0, 71, .inl (fun _ => 0))), (q_3, .inl ((k_Z M).2.1 0, 71, .inl (fun _ => 0))), (q_4, .inl ((k_Z M).2.1 0, 71, .inl (fun _ => 0))), (q_5, .inl ((k_Z M).2.1 0, 8, .inl (fun _ => 0))), (q_6, .inl ((k_Z M).2.1 0, 120, .inl (fun _ => 0))), (q_7, .inl ((k_Z M).2.1 0, 4, .inl (upd (upd (upd (upd (fun _ => 0) 0 (-1)) 1 (-1)) 2 (-1)) 3 (-1)))), (q_8, .inl ((k_Z M).2.1 0, 4, .inl (fun _ => 0))), (q_9, .inl ((k_Z M).2.1 0, 160, .inl (fun _ => 0)))]) K hnm ws_X4 tyX4 tyX4_ok nmX4 0 rfl rfl 10 (by decide) fl_X4_34 rfl rfl (by decide +kernel) rfl rfl (Nat.le_of_ble_eq_true rfl) rfl dX4_init_88 ?_
  refine q_aload_n K 0 dX4_init_91 rfl ?_
  refine q_bipush 8 K dX4_init_92 rfl ?_
  refine q_newi (N := 8) K (by decide) rfl (by decide) (by rw [hcl]; decide) (by rw [hsl]; decide) dX4_init_94 (fun q_10 => ?_)
  have K := kK_up K0 (n := 10) (k := 588) (by rw [hcl]; decide) (by rw [hsl]; decide)
  refine q_ws (ws' := [(h0, .inr (4, [.ref q_1, .ref q_2, .ref q_3, .ref q_4, .int 0, .ref q_5, .ref q_6, .int 0, .ref q_7, .ref q_8, .ref q_9, .null, .int 0, .int 0, .int 0, .int 0, .int 0])), (q_1, .inl ((k_Z M).2.1 0, 71, .inl (fun _ => 0))), (q_2, .inl ((k_Z M).2.1 0, 71, .inl (fun _ => 0))), (q_3, .inl ((k_Z M).2.1 0, 71, .inl (fun _ => 0))), (q_4, .inl ((k_Z M).2.1 0, 71, .inl (fun _ => 0))), (q_5, .inl ((k_Z M).2.1 0, 8, .inl (fun _ => 0))), (q_6, .inl ((k_Z M).2.1 0, 120, .inl (fun _ => 0))), (q_7, .inl ((k_Z M).2.1 0, 4, .inl (upd (upd (upd (upd (fun _ => 0) 0 (-1)) 1 (-1)) 2 (-1)) 3 (-1)))), (q_8, .inl ((k_Z M).2.1 0, 4, .inl (fun _ => 0))), (q_9, .inl ((k_Z M).2.1 0, 160, .inl (fun _ => 0))), (q_10, .inl ((k_Z M).2.1 0, 8, .inl (fun _ => 0)))]) rfl ?_
  refine q_putF (ty := .array .int) (ws' := [(h0, .inr (4, [.ref q_1, .ref q_2, .ref q_3, .ref q_4, .int 0, .ref q_5, .ref q_6, .int 0, .ref q_7, .ref q_8, .ref q_9, .ref q_10, .int 0, .int 0, .int 0, .int 0, .int 0])), (q_1, .inl ((k_Z M).2.1 0, 71, .inl (fun _ => 0))), (q_2, .inl ((k_Z M).2.1 0, 71, .inl (fun _ => 0))), (q_3, .inl ((k_Z M).2.1 0, 71, .inl (fun _ => 0))), (q_4, .inl ((k_Z M).2.1 0, 71, .inl (fun _ => 0))), (q_5, .inl ((k_Z M).2.1 0, 8, .inl (fun _ => 0))), (q_6, .inl ((k_Z M).2.1 0, 120, .inl (fun _ => 0))), (q_7, .inl ((k_Z M).2.1 0, 4, .inl (upd (upd (upd (upd (fun _ => 0) 0 (-1)) 1 (-1)) 2 (-1)) 3 (-1)))), (q_8, .inl ((k_Z M).2.1 0, 4, .inl (fun _ => 0))), (q_9, .inl ((k_Z M).2.1 0, 160, .inl (fun _ => 0))), (q_10, .inl ((k_Z M).2.1 0, 8, .inl (fun _ => 0)))]) K hnm ws_X4 tyX4 tyX4_ok nmX4 0 rfl rfl 11 (by decide) fl_X4_37 rfl rfl (by decide +kernel) rfl rfl (Nat.le_of_ble_eq_true rfl) rfl dX4_init_96 ?_
  refine q_aload_n K 0 dX4_init_99 rfl ?_
  refine q_get (.ref q_1) K ws_X4 0 rfl rfl 0 (by decide) fl_X4_7 rfl dX4_init_100 ?_
  refine q_iconst 2 K dX4_init_103 rfl ?_
  refine q_iconst 1 K dX4_init_104 rfl ?_
  refine q_iast (ws' := [(h0, .inr (4, [.ref q_1, .ref q_2, .ref q_3, .ref q_4, .int 0, .ref q_5, .ref q_6, .int 0, .ref q_7, .ref q_8, .ref q_9, .ref q_10, .int 0, .int 0, .int 0, .int 0, .int 0])), (q_1, .inl ((k_Z M).2.1 0, 71, .inl (upd (fun _ => 0) 2 1))), (q_2, .inl ((k_Z M).2.1 0, 71, .inl (fun _ => 0))), (q_3, .inl ((k_Z M).2.1 0, 71, .inl (fun _ => 0))), (q_4, .inl ((k_Z M).2.1 0, 71, .inl (fun _ => 0))), (q_5, .inl ((k_Z M).2.1 0, 8, .inl (fun _ => 0))), (q_6, .inl ((k_Z M).2.1 0, 120, .inl (fun _ => 0))), (q_7, .inl ((k_Z M).2.1 0, 4, .inl (upd (upd (upd (upd (fun _ => 0) 0 (-1)) 1 (-1)) 2 (-1)) 3 (-1)))), (q_8, .inl ((k_Z M).2.1 0, 4, .inl (fun _ => 0))), (q_9, .inl ((k_Z M).2.1 0, 160, .inl (fun _ => 0))), (q_10, .inl ((k_Z M).2.1 0, 8, .inl (fun _ => 0)))]) K 1 rfl (vp_in_nI (n := 2) (N := 71) (by omega) (by omega)) rfl dX4_init_105 ?_
  refine q_iconst 0 K dX4_init_106 rfl ?_
  refine q_istore_n (lv' := [(1, .int 0), (0, .ref h0)]) K dX4_init_107 (by decide) rfl ?_
  refine q_iload_n K 0 dX4_init_108 rfl ?_
  refine q_bipush 10 K dX4_init_109 rfl ?_
  refine q_icmp_ge 130 K dX4_init_111 (by decide) (fun c_0 => absurd c_0 (by decide)) (fun c_0 => ?_)
  refine q_aload_n K 1 dX4_init_114 rfl ?_
  refine q_get (.ref q_1) K ws_X4 0 rfl rfl 0 (by decide) fl_X4_7 rfl dX4_init_115 ?_
  refine q_bipush 61 K dX4_init_118 rfl ?_
  refine q_iload_n K 0 dX4_init_120 rfl ?_
  refine q_iadd K dX4_init_121 ?_
  refine q_eqi 61 rfl ?_
  refine q_iconst (-1) K dX4_init_122 rfl ?_
  refine q_iast (ws' := [(h0, .inr (4, [.ref q_1, .ref q_2, .ref q_3, .ref q_4, .int 0, .ref q_5, .ref q_6, .int 0, .ref q_7, .ref q_8, .ref q_9, .ref q_10, .int 0, .int 0, .int 0, .int 0, .int 0])), (q_1, .inl ((k_Z M).2.1 0, 71, .inl (upd (upd (fun _ => 0) 2 1) 61 (-1)))), (q_2, .inl ((k_Z M).2.1 0, 71, .inl (fun _ => 0))), (q_3, .inl ((k_Z M).2.1 0, 71, .inl (fun _ => 0))), (q_4, .inl ((k_Z M).2.1 0, 71, .inl (fun _ => 0))), (q_5, .inl ((k_Z M).2.1 0, 8, .inl (fun _ => 0))), (q_6, .inl ((k_Z M).2.1 0, 120, .inl (fun _ => 0))), (q_7, .inl ((k_Z M).2.1 0, 4, .inl (upd (upd (upd (upd (fun _ => 0) 0 (-1)) 1 (-1)) 2 (-1)) 3 (-1)))), (q_8, .inl ((k_Z M).2.1 0, 4, .inl (fun _ => 0))), (q_9, .inl ((k_Z M).2.1 0, 160, .inl (fun _ => 0))), (q_10, .inl ((k_Z M).2.1 0, 8, .inl (fun _ => 0)))]) K 1 rfl (vp_in_nI (n := 61) (N := 71) (by omega) (by omega)) rfl dX4_init_123 ?_
  refine q_iinc 1 (lv' := [(1, .int 1), (0, .ref h0)]) K 0 dX4_init_124 rfl rfl (by decide) rfl ?_
  refine q_goto 108 K dX4_init_127 (by decide) ?_
  refine q_iload_n K 0 dX4_init_108 rfl ?_
  refine q_bipush 10 K dX4_init_109 rfl ?_
  refine q_icmp_ge 130 K dX4_init_111 (by decide) (fun c_0 => absurd c_0 (by decide)) (fun c_0 => ?_)
  refine q_aload_n K 1 dX4_init_114 rfl ?_
  refine q_get (.ref q_1) K ws_X4 0 rfl rfl 0 (by decide) fl_X4_7 rfl dX4_init_115 ?_
  refine q_bipush 61 K dX4_init_118 rfl ?_
  refine q_iload_n K 0 dX4_init_120 rfl ?_
  refine q_iadd K dX4_init_121 ?_
  refine q_eqi 62 rfl ?_
  refine q_iconst (-1) K dX4_init_122 rfl ?_
  refine q_iast (ws' := [(h0, .inr (4, [.ref q_1, .ref q_2, .ref q_3, .ref q_4, .int 0, .ref q_5, .ref q_6, .int 0, .ref q_7, .ref q_8, .ref q_9, .ref q_10, .int 0, .int 0, .int 0, .int 0, .int 0])), (q_1, .inl ((k_Z M).2.1 0, 71, .inl (upd (upd (upd (fun _ => 0) 2 1) 61 (-1)) 62 (-1)))), (q_2, .inl ((k_Z M).2.1 0, 71, .inl (fun _ => 0))), (q_3, .inl ((k_Z M).2.1 0, 71, .inl (fun _ => 0))), (q_4, .inl ((k_Z M).2.1 0, 71, .inl (fun _ => 0))), (q_5, .inl ((k_Z M).2.1 0, 8, .inl (fun _ => 0))), (q_6, .inl ((k_Z M).2.1 0, 120, .inl (fun _ => 0))), (q_7, .inl ((k_Z M).2.1 0, 4, .inl (upd (upd (upd (upd (fun _ => 0) 0 (-1)) 1 (-1)) 2 (-1)) 3 (-1)))), (q_8, .inl ((k_Z M).2.1 0, 4, .inl (fun _ => 0))), (q_9, .inl ((k_Z M).2.1 0, 160, .inl (fun _ => 0))), (q_10, .inl ((k_Z M).2.1 0, 8, .inl (fun _ => 0)))]) K 1 rfl (vp_in_nI (n := 62) (N := 71) (by omega) (by omega)) rfl dX4_init_123 ?_
  refine q_iinc 2 (lv' := [(1, .int 2), (0, .ref h0)]) K 0 dX4_init_124 rfl rfl (by decide) rfl ?_
  refine q_goto 108 K dX4_init_127 (by decide) ?_
  refine q_iload_n K 0 dX4_init_108 rfl ?_
  refine q_bipush 10 K dX4_init_109 rfl ?_
  refine q_icmp_ge 130 K dX4_init_111 (by decide) (fun c_0 => absurd c_0 (by decide)) (fun c_0 => ?_)
  refine q_aload_n K 1 dX4_init_114 rfl ?_
  refine q_get (.ref q_1) K ws_X4 0 rfl rfl 0 (by decide) fl_X4_7 rfl dX4_init_115 ?_
  refine q_bipush 61 K dX4_init_118 rfl ?_
  refine q_iload_n K 0 dX4_init_120 rfl ?_
  refine q_iadd K dX4_init_121 ?_
  refine q_eqi 63 rfl ?_
  refine q_iconst (-1) K dX4_init_122 rfl ?_
  refine q_iast (ws' := [(h0, .inr (4, [.ref q_1, .ref q_2, .ref q_3, .ref q_4, .int 0, .ref q_5, .ref q_6, .int 0, .ref q_7, .ref q_8, .ref q_9, .ref q_10, .int 0, .int 0, .int 0, .int 0, .int 0])), (q_1, .inl ((k_Z M).2.1 0, 71, .inl (upd (upd (upd (upd (fun _ => 0) 2 1) 61 (-1)) 62 (-1)) 63 (-1)))), (q_2, .inl ((k_Z M).2.1 0, 71, .inl (fun _ => 0))), (q_3, .inl ((k_Z M).2.1 0, 71, .inl (fun _ => 0))), (q_4, .inl ((k_Z M).2.1 0, 71, .inl (fun _ => 0))), (q_5, .inl ((k_Z M).2.1 0, 8, .inl (fun _ => 0))), (q_6, .inl ((k_Z M).2.1 0, 120, .inl (fun _ => 0))), (q_7, .inl ((k_Z M).2.1 0, 4, .inl (upd (upd (upd (upd (fun _ => 0) 0 (-1)) 1 (-1)) 2 (-1)) 3 (-1)))), (q_8, .inl ((k_Z M).2.1 0, 4, .inl (fun _ => 0))), (q_9, .inl ((k_Z M).2.1 0, 160, .inl (fun _ => 0))), (q_10, .inl ((k_Z M).2.1 0, 8, .inl (fun _ => 0)))]) K 1 rfl (vp_in_nI (n := 63) (N := 71) (by omega) (by omega)) rfl dX4_init_123 ?_
  refine q_iinc 3 (lv' := [(1, .int 3), (0, .ref h0)]) K 0 dX4_init_124 rfl rfl (by decide) rfl ?_
  refine q_goto 108 K dX4_init_127 (by decide) ?_
  refine q_iload_n K 0 dX4_init_108 rfl ?_
  refine q_bipush 10 K dX4_init_109 rfl ?_
  refine q_icmp_ge 130 K dX4_init_111 (by decide) (fun c_0 => absurd c_0 (by decide)) (fun c_0 => ?_)
  refine q_aload_n K 1 dX4_init_114 rfl ?_
  refine q_get (.ref q_1) K ws_X4 0 rfl rfl 0 (by decide) fl_X4_7 rfl dX4_init_115 ?_
  refine q_bipush 61 K dX4_init_118 rfl ?_
  refine q_iload_n K 0 dX4_init_120 rfl ?_
  refine q_iadd K dX4_init_121 ?_
  refine q_eqi 64 rfl ?_
  refine q_iconst (-1) K dX4_init_122 rfl ?_
  refine q_iast (ws' := [(h0, .inr (4, [.ref q_1, .ref q_2, .ref q_3, .ref q_4, .int 0, .ref q_5, .ref q_6, .int 0, .ref q_7, .ref q_8, .ref q_9, .ref q_10, .int 0, .int 0, .int 0, .int 0, .int 0])), (q_1, .inl ((k_Z M).2.1 0, 71, .inl (upd (upd (upd (upd (upd (fun _ => 0) 2 1) 61 (-1)) 62 (-1)) 63 (-1)) 64 (-1)))), (q_2, .inl ((k_Z M).2.1 0, 71, .inl (fun _ => 0))), (q_3, .inl ((k_Z M).2.1 0, 71, .inl (fun _ => 0))), (q_4, .inl ((k_Z M).2.1 0, 71, .inl (fun _ => 0))), (q_5, .inl ((k_Z M).2.1 0, 8, .inl (fun _ => 0))), (q_6, .inl ((k_Z M).2.1 0, 120, .inl (fun _ => 0))), (q_7, .inl ((k_Z M).2.1 0, 4, .inl (upd (upd (upd (upd (fun _ => 0) 0 (-1)) 1 (-1)) 2 (-1)) 3 (-1)))), (q_8, .inl ((k_Z M).2.1 0, 4, .inl (fun _ => 0))), (q_9, .inl ((k_Z M).2.1 0, 160, .inl (fun _ => 0))), (q_10, .inl ((k_Z M).2.1 0, 8, .inl (fun _ => 0)))]) K 1 rfl (vp_in_nI (n := 64) (N := 71) (by omega) (by omega)) rfl dX4_init_123 ?_
  refine q_iinc 4 (lv' := [(1, .int 4), (0, .ref h0)]) K 0 dX4_init_124 rfl rfl (by decide) rfl ?_
  refine q_goto 108 K dX4_init_127 (by decide) ?_
  refine q_iload_n K 0 dX4_init_108 rfl ?_
  refine q_bipush 10 K dX4_init_109 rfl ?_
  refine q_icmp_ge 130 K dX4_init_111 (by decide) (fun c_0 => absurd c_0 (by decide)) (fun c_0 => ?_)
  refine q_aload_n K 1 dX4_init_114 rfl ?_
  refine q_get (.ref q_1) K ws_X4 0 rfl rfl 0 (by decide) fl_X4_7 rfl dX4_init_115 ?_
  refine q_bipush 61 K dX4_init_118 rfl ?_
  refine q_iload_n K 0 dX4_init_120 rfl ?_
  refine q_iadd K dX4_init_121 ?_
  refine q_eqi 65 rfl ?_
  refine q_iconst (-1) K dX4_init_122 rfl ?_
  refine q_iast (ws' := [(h0, .inr (4, [.ref q_1, .ref q_2, .ref q_3, .ref q_4, .int 0, .ref q_5, .ref q_6, .int 0, .ref q_7, .ref q_8, .ref q_9, .ref q_10, .int 0, .int 0, .int 0, .int 0, .int 0])), (q_1, .inl ((k_Z M).2.1 0, 71, .inl (upd (upd (upd (upd (upd (upd (fun _ => 0) 2 1) 61 (-1)) 62 (-1)) 63 (-1)) 64 (-1)) 65 (-1)))), (q_2, .inl ((k_Z M).2.1 0, 71, .inl (fun _ => 0))), (q_3, .inl ((k_Z M).2.1 0, 71, .inl (fun _ => 0))), (q_4, .inl ((k_Z M).2.1 0, 71, .inl (fun _ => 0))), (q_5, .inl ((k_Z M).2.1 0, 8, .inl (fun _ => 0))), (q_6, .inl ((k_Z M).2.1 0, 120, .inl (fun _ => 0))), (q_7, .inl ((k_Z M).2.1 0, 4, .inl (upd (upd (upd (upd (fun _ => 0) 0 (-1)) 1 (-1)) 2 (-1)) 3 (-1)))), (q_8, .inl ((k_Z M).2.1 0, 4, .inl (fun _ => 0))), (q_9, .inl ((k_Z M).2.1 0, 160, .inl (fun _ => 0))), (q_10, .inl ((k_Z M).2.1 0, 8, .inl (fun _ => 0)))]) K 1 rfl (vp_in_nI (n := 65) (N := 71) (by omega) (by omega)) rfl dX4_init_123 ?_
  refine q_iinc 5 (lv' := [(1, .int 5), (0, .ref h0)]) K 0 dX4_init_124 rfl rfl (by decide) rfl ?_
  refine q_goto 108 K dX4_init_127 (by decide) ?_
  refine q_iload_n K 0 dX4_init_108 rfl ?_
  refine q_bipush 10 K dX4_init_109 rfl ?_
  refine q_icmp_ge 130 K dX4_init_111 (by decide) (fun c_0 => absurd c_0 (by decide)) (fun c_0 => ?_)
  refine q_aload_n K 1 dX4_init_114 rfl ?_
  refine q_get (.ref q_1) K ws_X4 0 rfl rfl 0 (by decide) fl_X4_7 rfl dX4_init_115 ?_
  refine q_bipush 61 K dX4_init_118 rfl ?_
  refine q_iload_n K 0 dX4_init_120 rfl ?_
  refine q_iadd K dX4_init_121 ?_
  refine q_eqi 66 rfl ?_
  refine q_iconst (-1) K dX4_init_122 rfl ?_
  refine q_iast (ws' := [(h0, .inr (4, [.ref q_1, .ref q_2, .ref q_3, .ref q_4, .int 0, .ref q_5, .ref q_6, .int 0, .ref q_7, .ref q_8, .ref q_9, .ref q_10, .int 0, .int 0, .int 0, .int 0, .int 0])), (q_1, .inl ((k_Z M).2.1 0, 71, .inl (upd (upd (upd (upd (upd (upd (upd (fun _ => 0) 2 1) 61 (-1)) 62 (-1)) 63 (-1)) 64 (-1)) 65 (-1)) 66 (-1)))), (q_2, .inl ((k_Z M).2.1 0, 71, .inl (fun _ => 0))), (q_3, .inl ((k_Z M).2.1 0, 71, .inl (fun _ => 0))), (q_4, .inl ((k_Z M).2.1 0, 71, .inl (fun _ => 0))), (q_5, .inl ((k_Z M).2.1 0, 8, .inl (fun _ => 0))), (q_6, .inl ((k_Z M).2.1 0, 120, .inl (fun _ => 0))), (q_7, .inl ((k_Z M).2.1 0, 4, .inl (upd (upd (upd (upd (fun _ => 0) 0 (-1)) 1 (-1)) 2 (-1)) 3 (-1)))), (q_8, .inl ((k_Z M).2.1 0, 4, .inl (fun _ => 0))), (q_9, .inl ((k_Z M).2.1 0, 160, .inl (fun _ => 0))), (q_10, .inl ((k_Z M).2.1 0, 8, .inl (fun _ => 0)))]) K 1 rfl (vp_in_nI (n := 66) (N := 71) (by omega) (by omega)) rfl dX4_init_123 ?_
  refine q_iinc 6 (lv' := [(1, .int 6), (0, .ref h0)]) K 0 dX4_init_124 rfl rfl (by decide) rfl ?_
  refine q_goto 108 K dX4_init_127 (by decide) ?_
  refine q_iload_n K 0 dX4_init_108 rfl ?_
  refine q_bipush 10 K dX4_init_109 rfl ?_
  refine q_icmp_ge 130 K dX4_init_111 (by decide) (fun c_0 => absurd c_0 (by decide)) (fun c_0 => ?_)
  refine q_aload_n K 1 dX4_init_114 rfl ?_
  refine q_get (.ref q_1) K ws_X4 0 rfl rfl 0 (by decide) fl_X4_7 rfl dX4_init_115 ?_
  refine q_bipush 61 K dX4_init_118 rfl ?_
  refine q_iload_n K 0 dX4_init_120 rfl ?_
  refine q_iadd K dX4_init_121 ?_
  refine q_eqi 67 rfl ?_
  refine q_iconst (-1) K dX4_init_122 rfl ?_
  refine q_iast (ws' := [(h0, .inr (4, [.ref q_1, .ref q_2, .ref q_3, .ref q_4, .int 0, .ref q_5, .ref q_6, .int 0, .ref q_7, .ref q_8, .ref q_9, .ref q_10, .int 0, .int 0, .int 0, .int 0, .int 0])), (q_1, .inl ((k_Z M).2.1 0, 71, .inl (upd (upd (upd (upd (upd (upd (upd (upd (fun _ => 0) 2 1) 61 (-1)) 62 (-1)) 63 (-1)) 64 (-1)) 65 (-1)) 66 (-1)) 67 (-1)))), (q_2, .inl ((k_Z M).2.1 0, 71, .inl (fun _ => 0))), (q_3, .inl ((k_Z M).2.1 0, 71, .inl (fun _ => 0))), (q_4, .inl ((k_Z M).2.1 0, 71, .inl (fun _ => 0))), (q_5, .inl ((k_Z M).2.1 0, 8, .inl (fun _ => 0))), (q_6, .inl ((k_Z M).2.1 0, 120, .inl (fun _ => 0))), (q_7, .inl ((k_Z M).2.1 0, 4, .inl (upd (upd (upd (upd (fun _ => 0) 0 (-1)) 1 (-1)) 2 (-1)) 3 (-1)))), (q_8, .inl ((k_Z M).2.1 0, 4, .inl (fun _ => 0))), (q_9, .inl ((k_Z M).2.1 0, 160, .inl (fun _ => 0))), (q_10, .inl ((k_Z M).2.1 0, 8, .inl (fun _ => 0)))]) K 1 rfl (vp_in_nI (n := 67) (N := 71) (by omega) (by omega)) rfl dX4_init_123 ?_
  refine q_iinc 7 (lv' := [(1, .int 7), (0, .ref h0)]) K 0 dX4_init_124 rfl rfl (by decide) rfl ?_
  refine q_goto 108 K dX4_init_127 (by decide) ?_
  refine q_iload_n K 0 dX4_init_108 rfl ?_
  refine q_bipush 10 K dX4_init_109 rfl ?_
  refine q_icmp_ge 130 K dX4_init_111 (by decide) (fun c_0 => absurd c_0 (by decide)) (fun c_0 => ?_)
  refine q_aload_n K 1 dX4_init_114 rfl ?_
  refine q_get (.ref q_1) K ws_X4 0 rfl rfl 0 (by decide) fl_X4_7 rfl dX4_init_115 ?_
  refine q_bipush 61 K dX4_init_118 rfl ?_
  refine q_iload_n K 0 dX4_init_120 rfl ?_
  refine q_iadd K dX4_init_121 ?_
  refine q_eqi 68 rfl ?_
  refine q_iconst (-1) K dX4_init_122 rfl ?_
  refine q_iast (ws' := [(h0, .inr (4, [.ref q_1, .ref q_2, .ref q_3, .ref q_4, .int 0, .ref q_5, .ref q_6, .int 0, .ref q_7, .ref q_8, .ref q_9, .ref q_10, .int 0, .int 0, .int 0, .int 0, .int 0])), (q_1, .inl ((k_Z M).2.1 0, 71, .inl (upd (upd (upd (upd (upd (upd (upd (upd (upd (fun _ => 0) 2 1) 61 (-1)) 62 (-1)) 63 (-1)) 64 (-1)) 65 (-1)) 66 (-1)) 67 (-1)) 68 (-1)))), (q_2, .inl ((k_Z M).2.1 0, 71, .inl (fun _ => 0))), (q_3, .inl ((k_Z M).2.1 0, 71, .inl (fun _ => 0))), (q_4, .inl ((k_Z M).2.1 0, 71, .inl (fun _ => 0))), (q_5, .inl ((k_Z M).2.1 0, 8, .inl (fun _ => 0))), (q_6, .inl ((k_Z M).2.1 0, 120, .inl (fun _ => 0))), (q_7, .inl ((k_Z M).2.1 0, 4, .inl (upd (upd (upd (upd (fun _ => 0) 0 (-1)) 1 (-1)) 2 (-1)) 3 (-1)))), (q_8, .inl ((k_Z M).2.1 0, 4, .inl (fun _ => 0))), (q_9, .inl ((k_Z M).2.1 0, 160, .inl (fun _ => 0))), (q_10, .inl ((k_Z M).2.1 0, 8, .inl (fun _ => 0)))]) K 1 rfl (vp_in_nI (n := 68) (N := 71) (by omega) (by omega)) rfl dX4_init_123 ?_
  refine q_iinc 8 (lv' := [(1, .int 8), (0, .ref h0)]) K 0 dX4_init_124 rfl rfl (by decide) rfl ?_
  refine q_goto 108 K dX4_init_127 (by decide) ?_
  refine q_iload_n K 0 dX4_init_108 rfl ?_
  refine q_bipush 10 K dX4_init_109 rfl ?_
  refine q_icmp_ge 130 K dX4_init_111 (by decide) (fun c_0 => absurd c_0 (by decide)) (fun c_0 => ?_)
  refine q_aload_n K 1 dX4_init_114 rfl ?_
  refine q_get (.ref q_1) K ws_X4 0 rfl rfl 0 (by decide) fl_X4_7 rfl dX4_init_115 ?_
  refine q_bipush 61 K dX4_init_118 rfl ?_
  refine q_iload_n K 0 dX4_init_120 rfl ?_
  refine q_iadd K dX4_init_121 ?_
  refine q_eqi 69 rfl ?_
  refine q_iconst (-1) K dX4_init_122 rfl ?_
  refine q_iast (ws' := [(h0, .inr (4, [.ref q_1, .ref q_2, .ref q_3, .ref q_4, .int 0, .ref q_5, .ref q_6, .int 0, .ref q_7, .ref q_8, .ref q_9, .ref q_10, .int 0, .int 0, .int 0, .int 0, .int 0])), (q_1, .inl ((k_Z M).2.1 0, 71, .inl (upd (upd (upd (upd (upd (upd (upd (upd (upd (upd (fun _ => 0) 2 1) 61 (-1)) 62 (-1)) 63 (-1)) 64 (-1)) 65 (-1)) 66 (-1)) 67 (-1)) 68 (-1)) 69 (-1)))), (q_2, .inl ((k_Z M).2.1 0, 71, .inl (fun _ => 0))), (q_3, .inl ((k_Z M).2.1 0, 71, .inl (fun _ => 0))), (q_4, .inl ((k_Z M).2.1 0, 71, .inl (fun _ => 0))), (q_5, .inl ((k_Z M).2.1 0, 8, .inl (fun _ => 0))), (q_6, .inl ((k_Z M).2.1 0, 120, .inl (fun _ => 0))), (q_7, .inl ((k_Z M).2.1 0, 4, .inl (upd (upd (upd (upd (fun _ => 0) 0 (-1)) 1 (-1)) 2 (-1)) 3 (-1)))), (q_8, .inl ((k_Z M).2.1 0, 4, .inl (fun _ => 0))), (q_9, .inl ((k_Z M).2.1 0, 160, .inl (fun _ => 0))), (q_10, .inl ((k_Z M).2.1 0, 8, .inl (fun _ => 0)))]) K 1 rfl (vp_in_nI (n := 69) (N := 71) (by omega) (by omega)) rfl dX4_init_123 ?_
  refine q_iinc 9 (lv' := [(1, .int 9), (0, .ref h0)]) K 0 dX4_init_124 rfl rfl (by decide) rfl ?_
  refine q_goto 108 K dX4_init_127 (by decide) ?_
  refine q_iload_n K 0 dX4_init_108 rfl ?_
  refine q_bipush 10 K dX4_init_109 rfl ?_
  refine q_icmp_ge 130 K dX4_init_111 (by decide) (fun c_0 => absurd c_0 (by decide)) (fun c_0 => ?_)
  refine q_aload_n K 1 dX4_init_114 rfl ?_
  refine q_get (.ref q_1) K ws_X4 0 rfl rfl 0 (by decide) fl_X4_7 rfl dX4_init_115 ?_
  refine q_bipush 61 K dX4_init_118 rfl ?_
  refine q_iload_n K 0 dX4_init_120 rfl ?_
  refine q_iadd K dX4_init_121 ?_
  refine q_eqi 70 rfl ?_
  refine q_iconst (-1) K dX4_init_122 rfl ?_
  refine q_iast (ws' := [(h0, .inr (4, [.ref q_1, .ref q_2, .ref q_3, .ref q_4, .int 0, .ref q_5, .ref q_6, .int 0, .ref q_7, .ref q_8, .ref q_9, .ref q_10, .int 0, .int 0, .int 0, .int 0, .int 0])), (q_1, .inl ((k_Z M).2.1 0, 71, .inl (upd (upd (upd (upd (upd (upd (upd (upd (upd (upd (upd (fun _ => 0) 2 1) 61 (-1)) 62 (-1)) 63 (-1)) 64 (-1)) 65 (-1)) 66 (-1)) 67 (-1)) 68 (-1)) 69 (-1)) 70 (-1)))), (q_2, .inl ((k_Z M).2.1 0, 71, .inl (fun _ => 0))), (q_3, .inl ((k_Z M).2.1 0, 71, .inl (fun _ => 0))), (q_4, .inl ((k_Z M).2.1 0, 71, .inl (fun _ => 0))), (q_5, .inl ((k_Z M).2.1 0, 8, .inl (fun _ => 0))), (q_6, .inl ((k_Z M).2.1 0, 120, .inl (fun _ => 0))), (q_7, .inl ((k_Z M).2.1 0, 4, .inl (upd (upd (upd (upd (fun _ => 0) 0 (-1)) 1 (-1)) 2 (-1)) 3 (-1)))), (q_8, .inl ((k_Z M).2.1 0, 4, .inl (fun _ => 0))), (q_9, .inl ((k_Z M).2.1 0, 160, .inl (fun _ => 0))), (q_10, .inl ((k_Z M).2.1 0, 8, .inl (fun _ => 0)))]) K 1 rfl (vp_in_nI (n := 70) (N := 71) (by omega) (by omega)) rfl dX4_init_123 ?_
  refine q_iinc 10 (lv' := [(1, .int 10), (0, .ref h0)]) K 0 dX4_init_124 rfl rfl (by decide) rfl ?_
  refine q_goto 108 K dX4_init_127 (by decide) ?_
  refine q_iload_n K 0 dX4_init_108 rfl ?_
  refine q_bipush 10 K dX4_init_109 rfl ?_
  refine q_icmp_ge 130 K dX4_init_111 (by decide) (fun c_0 => ?_) (fun c_0 => absurd c_0 (by decide))
  refine q_ext (ws' := [(h0, .inr (4, [.ref q_1, .ref q_2, .ref q_3, .ref q_4, .int 0, .ref q_5, .ref q_6, .int 0, .ref q_7, .ref q_8, .ref q_9, .ref q_10, .int 0, .int 0, .int 0, .int 0, .int 0])), (q_1, .inl ((k_Z M).2.1 0, 71, .inl (f_rw f_new))), (q_2, .inl ((k_Z M).2.1 0, 71, .inl (fun _ => 0))), (q_3, .inl ((k_Z M).2.1 0, 71, .inl (fun _ => 0))), (q_4, .inl ((k_Z M).2.1 0, 71, .inl (fun _ => 0))), (q_5, .inl ((k_Z M).2.1 0, 8, .inl (fun _ => 0))), (q_6, .inl ((k_Z M).2.1 0, 120, .inl (fun _ => 0))), (q_7, .inl ((k_Z M).2.1 0, 4, .inl (upd (upd (upd (upd (fun _ => 0) 0 (-1)) 1 (-1)) 2 (-1)) 3 (-1)))), (q_8, .inl ((k_Z M).2.1 0, 4, .inl (fun _ => 0))), (q_9, .inl ((k_Z M).2.1 0, 160, .inl (fun _ => 0))), (q_10, .inl ((k_Z M).2.1 0, 8, .inl (fun _ => 0)))]) 1 (f_rw f_new) rfl (fun k hk => (show ∀ k : Fin 71, (f_rw f_new) k.val = (upd (upd (upd (upd (upd (upd (upd (upd (upd (upd (upd (fun _ => 0) 2 1) 61 (-1)) 62 (-1)) 63 (-1)) 64 (-1)) 65 (-1)) 66 (-1)) 67 (-1)) 68 (-1)) 69 (-1)) 70 (-1)) k.val by decide +kernel) ⟨k, hk⟩) rfl ?_
  refine q_ext (ws' := [(h0, .inr (4, [.ref q_1, .ref q_2, .ref q_3, .ref q_4, .int 0, .ref q_5, .ref q_6, .int 0, .ref q_7, .ref q_8, .ref q_9, .ref q_10, .int 0, .int 0, .int 0, .int 0, .int 0])), (q_1, .inl ((k_Z M).2.1 0, 71, .inl (f_rw f_new))), (q_2, .inl ((k_Z M).2.1 0, 71, .inl (f_rw f_zero))), (q_3, .inl ((k_Z M).2.1 0, 71, .inl (fun _ => 0))), (q_4, .inl ((k_Z M).2.1 0, 71, .inl (fun _ => 0))), (q_5, .inl ((k_Z M).2.1 0, 8, .inl (fun _ => 0))), (q_6, .inl ((k_Z M).2.1 0, 120, .inl (fun _ => 0))), (q_7, .inl ((k_Z M).2.1 0, 4, .inl (upd (upd (upd (upd (fun _ => 0) 0 (-1)) 1 (-1)) 2 (-1)) 3 (-1)))), (q_8, .inl ((k_Z M).2.1 0, 4, .inl (fun _ => 0))), (q_9, .inl ((k_Z M).2.1 0, 160, .inl (fun _ => 0))), (q_10, .inl ((k_Z M).2.1 0, 8, .inl (fun _ => 0)))]) 2 (f_rw f_zero) rfl (fun k hk => (show ∀ k : Fin 71, (f_rw f_zero) k.val = (fun _ => 0) k.val by decide +kernel) ⟨k, hk⟩) rfl ?_
  refine q_ext (ws' := [(h0, .inr (4, [.ref q_1, .ref q_2, .ref q_3, .ref q_4, .int 0, .ref q_5, .ref q_6, .int 0, .ref q_7, .ref q_8, .ref q_9, .ref q_10, .int 0, .int 0, .int 0, .int 0, .int 0])), (q_1, .inl ((k_Z M).2.1 0, 71, .inl (f_rw f_new))), (q_2, .inl ((k_Z M).2.1 0, 71, .inl (f_rw f_zero))), (q_3, .inl ((k_Z M).2.1 0, 71, .inl (fun _ => 0))), (q_4, .inl ((k_Z M).2.1 0, 71, .inl (fun _ => 0))), (q_5, .inl ((k_Z M).2.1 0, 8, .inl (m_fd (fun _ => 0)))), (q_6, .inl ((k_Z M).2.1 0, 120, .inl (fun _ => 0))), (q_7, .inl ((k_Z M).2.1 0, 4, .inl (upd (upd (upd (upd (fun _ => 0) 0 (-1)) 1 (-1)) 2 (-1)) 3 (-1)))), (q_8, .inl ((k_Z M).2.1 0, 4, .inl (fun _ => 0))), (q_9, .inl ((k_Z M).2.1 0, 160, .inl (fun _ => 0))), (q_10, .inl ((k_Z M).2.1 0, 8, .inl (fun _ => 0)))]) 5 (m_fd (fun _ => 0)) rfl (fun k hk => (show ∀ k : Fin 8, (m_fd (fun _ => 0)) k.val = (fun _ => 0) k.val by decide +kernel) ⟨k, hk⟩) rfl ?_
  refine q_ext (ws' := [(h0, .inr (4, [.ref q_1, .ref q_2, .ref q_3, .ref q_4, .int 0, .ref q_5, .ref q_6, .int 0, .ref q_7, .ref q_8, .ref q_9, .ref q_10, .int 0, .int 0, .int 0, .int 0, .int 0])), (q_1, .inl ((k_Z M).2.1 0, 71, .inl (f_rw f_new))), (q_2, .inl ((k_Z M).2.1 0, 71, .inl (f_rw f_zero))), (q_3, .inl ((k_Z M).2.1 0, 71, .inl (fun _ => 0))), (q_4, .inl ((k_Z M).2.1 0, 71, .inl (fun _ => 0))), (q_5, .inl ((k_Z M).2.1 0, 8, .inl (m_fd (fun _ => 0)))), (q_6, .inl ((k_Z M).2.1 0, 120, .inl (fun _ => 0))), (q_7, .inl ((k_Z M).2.1 0, 4, .inl (m_bt (fun _ => s_new)))), (q_8, .inl ((k_Z M).2.1 0, 4, .inl (fun _ => 0))), (q_9, .inl ((k_Z M).2.1 0, 160, .inl (fun _ => 0))), (q_10, .inl ((k_Z M).2.1 0, 8, .inl (fun _ => 0)))]) 7 (m_bt (fun _ => s_new)) rfl (fun k hk => (show ∀ k : Fin 4, (m_bt (fun _ => s_new)) k.val = (upd (upd (upd (upd (fun _ => 0) 0 (-1)) 1 (-1)) 2 (-1)) 3 (-1)) k.val by decide +kernel) ⟨k, hk⟩) rfl ?_
  exact Rt _ _ ([(h0, .inr (4, [.ref q_1, .ref q_2, .ref q_3, .ref q_4, .int 0, .ref q_5, .ref q_6, .int 0, .ref q_7, .ref q_8, .ref q_9, .ref q_10, .int 0, .int 0, .int 0, .int 0, .int 0])), (q_1, .inl ((k_Z M).2.1 0, 71, .inl (f_rw f_new))), (q_2, .inl ((k_Z M).2.1 0, 71, .inl (f_rw f_zero))), (q_3, .inl ((k_Z M).2.1 0, 71, .inl (fun _ => 0))), (q_4, .inl ((k_Z M).2.1 0, 71, .inl (fun _ => 0))), (q_5, .inl ((k_Z M).2.1 0, 8, .inl (m_fd (fun _ => 0)))), (q_6, .inl ((k_Z M).2.1 0, 120, .inl (fun _ => 0))), (q_7, .inl ((k_Z M).2.1 0, 4, .inl (m_bt (fun _ => s_new)))), (q_8, .inl ((k_Z M).2.1 0, 4, .inl (fun _ => 0))), (q_9, .inl ((k_Z M).2.1 0, 160, .inl (fun _ => 0))), (q_10, .inl ((k_Z M).2.1 0, 8, .inl (fun _ => 0)))]) dX4_init_130 (⟨(fun k => match k with | 0 => h0 | 1 => q_1 | 2 => q_2 | 3 => q_3 | 4 => q_4 | 5 => q_5 | 6 => q_6 | 7 => q_7 | 8 => q_8 | 9 => q_9 | _ => q_10), rfl, rfl⟩)
