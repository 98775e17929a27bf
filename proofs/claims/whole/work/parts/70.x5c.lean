set_option maxHeartbeats 4000000 in
set_option maxRecDepth 100000 in
theorem c_X2_split (l : Launch) (Z : kz_Z) (c : Nat → Nat) (p : TP) (J : TJ) (hq : p.2 ≤ 120) (hb : p_byt p) : KV l Z yX2_split cX2_split 5 1 23 [.ref (c 0)] (w_T Z c (t_of p J)) (fun w2 => ∃ n J2, k_all p J2 n ∧ w2 = w_T Z c (t_of p J2)) := by
  refine kv_of (by decide) [(0, .ref (c 0))] (Nat.le_of_ble_eq_true rfl) rfl ?_
  intro M e1 e2 K Rt
  subst e1 e2
  refine q_iconst 0 K dX2_split_0 rfl ?_
  refine q_istore_n (lv' := [(1, .int 0), (0, .ref (c 0))]) K dX2_split_1 (by decide) rfl ?_
  refine q_iconst 3 K dX2_split_2 rfl ?_
  refine q_istore_n (lv' := [(2, .int 3), (1, .int 0), (0, .ref (c 0))]) K dX2_split_3 (by decide) rfl ?_
  refine q_iconst 0 K dX2_split_4 rfl ?_
  refine q_istore_n (lv' := [(3, .int 0), (2, .int 3), (1, .int 0), (0, .ref (c 0))]) K dX2_split_5 (by decide) rfl ?_
  refine q_loop (α := Nat × (Nat × Int32 × TJ)) (fun n9 x9 => (x9.1 + n9 = p.2) ∧ k_sp p x9.1 x9.2.1 x9.2.2.1 x9.2.2.2) 6 (fun x9 => [(3, .int (nI x9.1)), (2, .int x9.2.2.1), (1, .int (nI x9.2.1)), (0, .ref (c 0))]) (fun x9 => w_T (k_Z M) c (t_of p x9.2.2.2)) (fun n_1 x9 hI_2 ih_3 => ?_) p.2 (0, (0, 3, J)) ⟨Nat.zero_add _, sp_0⟩
  obtain ⟨i, S⟩ := x9
  dsimp only at hI_2 ih_3 ⊢
  obtain ⟨n, last, J⟩ := S
  dsimp only at hI_2 ⊢
  obtain ⟨hI, hS⟩ := hI_2
  have hni := hS.1
  refine q_iload_n K 0 dX2_split_6 rfl ?_
  refine q_aload_n K 3 dX2_split_7 rfl ?_
  refine q_get (.int (nI p.2)) K ws_X2 0 rfl rfl 1 (by decide) fl_X2_15 rfl dX2_split_8 ?_
  refine q_icmp_ge 87 K dX2_split_11 (by decide) (fun c_4 => ?_) (fun c_4 => ?_)
  · have c_4n : p.2 ≤ i := (nI_leI (a := p.2) (b := i) (by omega) (by omega)).mp c_4
    refine q_aload_n K 3 dX2_split_87 rfl ?_
    refine q_iload_n K 2 dX2_split_88 rfl ?_
    refine q_iconst 5 K dX2_split_89 rfl ?_
    refine q_aload_n K 3 dX2_split_90 rfl ?_
    refine q_get (.int (nI p.2)) K ws_X2 0 rfl rfl 1 (by decide) fl_X2_15 rfl dX2_split_91 ?_
    refine q_wV (q0 := 0) (As := [.int (nI n), .int 5, .int (nI p.2)]) (rest := []) K kv_X2_setToken (c_X2_setToken (k_l M) (k_Z M) c (t_of p J) n p.2 (by omega) 5) rfl rfl ml_X2_55 rfl rfl (Nat.le_of_ble_eq_true rfl) ⟨Nat.le_of_ble_eq_true rfl, Nat.le_of_ble_eq_true rfl⟩ dX2_split_94 (fun w2 h_5 => ?_)
    obtain rfl := h_5
    refine q_ws (ws' := w_T (k_Z M) c (t_of p (upd J.1 n 5, upd J.2.1 n (nI p.2), upd J.2.2.1 n 1, J.2.2.2))) rfl ?_
    exact Rt _ _ (w_T (k_Z M) c (t_of p (upd J.1 n 5, upd J.2.1 n (nI p.2), upd J.2.2.1 n 1, J.2.2.2))) dX2_split_97 (⟨n, _, sp_end hb hq (by rw [show i = p.2 by omega] at hS; exact hS), rfl⟩)
  · have c_4n : ¬ (p.2 ≤ i) := fun h9 => c_4 ((nI_leI (a := p.2) (b := i) (by omega) (by omega)).mpr h9)
    refine q_aload_n K 3 dX2_split_14 rfl ?_
    refine q_get (.ref (c 1)) K ws_X2 0 rfl rfl 0 (by decide) fl_X2_9 rfl dX2_split_15 ?_
    refine q_iload_n K 0 dX2_split_18 rfl ?_
    refine q_bald K 1 rfl (vp_in_nI (n := i) (N := 120) (by omega) (by omega)) dX2_split_19 ?_
    refine q_eqi (b_of (p.1 i)) (by rw [nI_clamp (n := i) (by omega)] <;> rfl) ?_
    refine q_cp (rest := []) K ks_X2_sortOf (c_X2_sortOf (k_l M) (k_Z M) (b_of (p.1 i))) ml_X2_51 rfl rfl (Nat.le_of_ble_eq_true rfl) ⟨Nat.le_of_ble_eq_true rfl, Nat.le_of_ble_eq_true rfl⟩ dX2_split_20 (fun r_7 e_r_7 => ?_)
    refine q_eqi (c_of (b_of (p.1 i))) e_r_7 ?_
    refine q_istore (lv' := [(4, .int (c_of (b_of (p.1 i)))), (3, .int (nI i)), (2, .int last), (1, .int (nI n)), (0, .ref (c 0))]) K dX2_split_23 (by decide) rfl ?_
    have J61 : ¬ k_on (c_of (b_of (p.1 i))) last n → kJ M 5 61 [(4, .int (c_of (b_of (p.1 i)))), (3, .int (nI i)), (2, .int last), (1, .int (nI n)), (0, .ref (c 0))] [] (w_T (k_Z M) c (t_of p J)) := by
      intro hc
      refine q_iload K 0 dX2_split_61 rfl ?_
      refine q_iconst 3 K dX2_split_63 rfl ?_
      refine q_icmp_eq 78 K dX2_split_64 (by decide) (fun c_8 => ?_) (fun c_8 => ?_)
      · refine q_iload K 0 dX2_split_78 rfl ?_
        refine q_istore_n (lv' := [(2, .int (c_of (b_of (p.1 i)))), (4, .int (c_of (b_of (p.1 i)))), (3, .int (nI i)), (1, .int (nI n)), (0, .ref (c 0))]) K dX2_split_80 (by decide) rfl ?_
        refine q_iinc (nI (i + 1)) (lv' := [(3, .int (nI (i + 1))), (2, .int (c_of (b_of (p.1 i)))), (4, .int (c_of (b_of (p.1 i)))), (1, .int (nI n)), (0, .ref (c 0))]) K 2 dX2_split_81 rfl (kn_inc i) (by decide) rfl ?_
        refine q_goto 6 K dX2_split_84 (by decide) ?_
        refine q_lv [0, 1, 3, 4] rfl ?_
        exact ih_3 (n_1 - 1) (i + 1, n, (c_of (b_of (p.1 i))), J) (by omega) ⟨by show i + 1 + (n_1 - 1) = p.2; omega, sp_blank hb hS (by omega) hc c_8⟩
      · refine q_aload_n K 4 dX2_split_67 rfl ?_
        refine q_iload_n K 3 dX2_split_68 rfl ?_
        refine q_iload K 0 dX2_split_69 rfl ?_
        refine q_iload_n K 1 dX2_split_71 rfl ?_
        refine q_wV (q0 := 0) (As := [.int (nI n), .int (c_of (b_of (p.1 i))), .int (nI i)]) (rest := []) K kv_X2_setToken (c_X2_setToken (k_l M) (k_Z M) c (t_of p J) n i (by omega) (c_of (b_of (p.1 i)))) rfl rfl ml_X2_55 rfl rfl (Nat.le_of_ble_eq_true rfl) ⟨Nat.le_of_ble_eq_true rfl, Nat.le_of_ble_eq_true rfl⟩ dX2_split_72 (fun w2 h_9 => ?_)
        obtain rfl := h_9
        refine q_ws (ws' := w_T (k_Z M) c (t_of p (upd J.1 n (c_of (b_of (p.1 i))), upd J.2.1 n (nI i), upd J.2.2.1 n 1, J.2.2.2))) rfl ?_
        refine q_iinc (nI (n + 1)) (lv' := [(1, .int (nI (n + 1))), (4, .int (c_of (b_of (p.1 i)))), (3, .int (nI i)), (2, .int last), (0, .ref (c 0))]) K 3 dX2_split_75 rfl (kn_inc n) (by decide) rfl ?_
        refine q_iload K 1 dX2_split_78 rfl ?_
        refine q_istore_n (lv' := [(2, .int (c_of (b_of (p.1 i)))), (1, .int (nI (n + 1))), (4, .int (c_of (b_of (p.1 i)))), (3, .int (nI i)), (0, .ref (c 0))]) K dX2_split_80 (by decide) rfl ?_
        refine q_iinc (nI (i + 1)) (lv' := [(3, .int (nI (i + 1))), (2, .int (c_of (b_of (p.1 i)))), (1, .int (nI (n + 1))), (4, .int (c_of (b_of (p.1 i)))), (0, .ref (c 0))]) K 3 dX2_split_81 rfl (kn_inc i) (by decide) rfl ?_
        refine q_goto 6 K dX2_split_84 (by decide) ?_
        refine q_lv [0, 1, 2, 4] rfl ?_
        exact ih_3 (n_1 - 1) (i + 1, n + 1, (c_of (b_of (p.1 i))), (upd J.1 n (c_of (b_of (p.1 i))), upd J.2.1 n (nI i), upd J.2.2.1 n 1, J.2.2.2)) (by omega) ⟨by show i + 1 + (n_1 - 1) = p.2; omega, sp_new hb hS (by omega) hc c_8⟩
    refine q_iload K 0 dX2_split_25 rfl ?_
    refine q_iload_n K 2 dX2_split_27 rfl ?_
    refine q_icmp_ne 61 K dX2_split_28 (by decide) (fun c_11 => ?_) (fun c_11 => ?_)
    · exact J61 (fun h9 => c_11 h9.1)
    · refine q_iload K 0 dX2_split_31 rfl ?_
      refine q_if_eq 42 K dX2_split_33 (by decide) (fun c_12 => ?_) (fun c_12 => ?_)
      · refine q_iload_n K 3 dX2_split_42 rfl ?_
        refine q_if_le 61 K dX2_split_43 (by decide) (fun c_13 => ?_) (fun c_13 => ?_)
        · have c_13n : n ≤ 0 := (nI_leI (a := n) (b := 0) (by omega) (by omega)).mp c_13
          exact J61 (fun h9 => absurd h9.2.2 (by omega))
        · have c_13n : ¬ (n ≤ 0) := fun h9 => c_13 ((nI_leI (a := n) (b := 0) (by omega) (by omega)).mpr h9)
          obtain ⟨m, rfl, hS2⟩ := sp_on hb hS (by omega) hq ⟨c_11, Or.inl c_12, by omega⟩
          refine q_aload_n K 4 dX2_split_46 rfl ?_
          refine q_get (.ref (c 5)) K ws_X2 0 rfl rfl 5 (by decide) fl_X2_38 rfl dX2_split_47 ?_
          refine q_iload_n K 3 dX2_split_50 rfl ?_
          refine q_iconst 1 K dX2_split_51 rfl ?_
          refine q_isub K dX2_split_52 ?_
          refine q_eqi (nI m) (nI_pred m) ?_
          refine q_dup2 K dX2_split_53 rfl rfl ?_
          refine q_iald K 5 rfl (vp_in_nI (n := m) (N := 121) (by omega) (by omega)) dX2_split_54 ?_
          refine q_eqi (J.2.2.1 m) (by rw [nI_clamp (n := m) (by omega)] <;> rfl) ?_
          refine q_iconst 1 K dX2_split_55 rfl ?_
          refine q_iadd K dX2_split_56 ?_
          refine q_iast (ws' := w_T (k_Z M) c (t_of p (J.1, J.2.1, upd J.2.2.1 m ((J.2.2.1 m) + 1), J.2.2.2))) K 5 rfl (vp_in_nI (n := m) (N := 121) (by omega) (by omega)) (by rw [nI_clamp (n := m) (by omega)] <;> rfl) dX2_split_57 ?_
          refine q_goto 78 K dX2_split_58 (by decide) ?_
          refine q_iload K 0 dX2_split_78 rfl ?_
          refine q_istore_n (lv' := [(2, .int (c_of (b_of (p.1 i)))), (4, .int (c_of (b_of (p.1 i)))), (3, .int (nI i)), (1, .int (nI (m + 1))), (0, .ref (c 0))]) K dX2_split_80 (by decide) rfl ?_
          refine q_iinc (nI (i + 1)) (lv' := [(3, .int (nI (i + 1))), (2, .int (c_of (b_of (p.1 i)))), (4, .int (c_of (b_of (p.1 i)))), (1, .int (nI (m + 1))), (0, .ref (c 0))]) K 2 dX2_split_81 rfl (kn_inc i) (by decide) rfl ?_
          refine q_goto 6 K dX2_split_84 (by decide) ?_
          refine q_lv [0, 1, 3, 4] rfl ?_
          exact ih_3 (n_1 - 1) (i + 1, m + 1, (c_of (b_of (p.1 i))), (J.1, J.2.1, upd J.2.2.1 m ((J.2.2.1 m) + 1), J.2.2.2)) (by omega) ⟨by show i + 1 + (n_1 - 1) = p.2; omega, hS2⟩
      · refine q_iload K 0 dX2_split_36 rfl ?_
        refine q_iconst 1 K dX2_split_38 rfl ?_
        refine q_icmp_ne 61 K dX2_split_39 (by decide) (fun c_14 => ?_) (fun c_14 => ?_)
        · exact J61 (fun h9 => h9.2.1.elim c_12 c_14)
        · refine q_iload_n K 3 dX2_split_42 rfl ?_
          refine q_if_le 61 K dX2_split_43 (by decide) (fun c_15 => ?_) (fun c_15 => ?_)
          · have c_15n : n ≤ 0 := (nI_leI (a := n) (b := 0) (by omega) (by omega)).mp c_15
            exact J61 (fun h9 => absurd h9.2.2 (by omega))
          · have c_15n : ¬ (n ≤ 0) := fun h9 => c_15 ((nI_leI (a := n) (b := 0) (by omega) (by omega)).mpr h9)
            obtain ⟨m, rfl, hS2⟩ := sp_on hb hS (by omega) hq ⟨c_11, Or.inr c_14, by omega⟩
            refine q_aload_n K 4 dX2_split_46 rfl ?_
            refine q_get (.ref (c 5)) K ws_X2 0 rfl rfl 5 (by decide) fl_X2_38 rfl dX2_split_47 ?_
            refine q_iload_n K 3 dX2_split_50 rfl ?_
            refine q_iconst 1 K dX2_split_51 rfl ?_
            refine q_isub K dX2_split_52 ?_
            refine q_eqi (nI m) (nI_pred m) ?_
            refine q_dup2 K dX2_split_53 rfl rfl ?_
            refine q_iald K 5 rfl (vp_in_nI (n := m) (N := 121) (by omega) (by omega)) dX2_split_54 ?_
            refine q_eqi (J.2.2.1 m) (by rw [nI_clamp (n := m) (by omega)] <;> rfl) ?_
            refine q_iconst 1 K dX2_split_55 rfl ?_
            refine q_iadd K dX2_split_56 ?_
            refine q_iast (ws' := w_T (k_Z M) c (t_of p (J.1, J.2.1, upd J.2.2.1 m ((J.2.2.1 m) + 1), J.2.2.2))) K 5 rfl (vp_in_nI (n := m) (N := 121) (by omega) (by omega)) (by rw [nI_clamp (n := m) (by omega)] <;> rfl) dX2_split_57 ?_
            refine q_goto 78 K dX2_split_58 (by decide) ?_
            refine q_iload K 0 dX2_split_78 rfl ?_
            refine q_istore_n (lv' := [(2, .int (c_of (b_of (p.1 i)))), (4, .int (c_of (b_of (p.1 i)))), (3, .int (nI i)), (1, .int (nI (m + 1))), (0, .ref (c 0))]) K dX2_split_80 (by decide) rfl ?_
            refine q_iinc (nI (i + 1)) (lv' := [(3, .int (nI (i + 1))), (2, .int (c_of (b_of (p.1 i)))), (4, .int (c_of (b_of (p.1 i)))), (1, .int (nI (m + 1))), (0, .ref (c 0))]) K 2 dX2_split_81 rfl (kn_inc i) (by decide) rfl ?_
            refine q_goto 6 K dX2_split_84 (by decide) ?_
            refine q_lv [0, 1, 3, 4] rfl ?_
            exact ih_3 (n_1 - 1) (i + 1, m + 1, (c_of (b_of (p.1 i))), (J.1, J.2.1, upd J.2.2.1 m ((J.2.2.1 m) + 1), J.2.2.2)) (by omega) ⟨by show i + 1 + (n_1 - 1) = p.2; omega, hS2⟩
theorem kv_X2_split : k_iv yX2_split cX2_split 5 none 0 := ⟨⟨im_X2_split, se_X2_split⟩, in_X2, co_X2_split, by decide +kernel⟩
