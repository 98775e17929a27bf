set_option maxHeartbeats 4000000 in
set_option maxRecDepth 100000 in
theorem c_X2_sortOf (l : Launch) (Z : kz_Z) (v : Int32) : KP l Z yX2_sortOf cX2_sortOf 1 .int 0 0 [.int v] (fun r => r = c_of v) := by
  refine ki_of (by decide) [(0, .int v)] (Nat.le_of_ble_eq_true rfl) rfl ?_
  intro M e1 e2 K Rt
  subst e1 e2
  refine q_iload_n K 0 dX2_sortOf_0 rfl ?_
  refine q_bipush 97 K dX2_sortOf_1 rfl ?_
  refine q_icmp_lt 14 K dX2_sortOf_3 (by decide) (fun c_1 => ?_) (fun c_1 => ?_)
  · refine q_iload_n K 0 dX2_sortOf_14 rfl ?_
    refine q_bipush 48 K dX2_sortOf_15 rfl ?_
    refine q_icmp_lt 28 K dX2_sortOf_17 (by decide) (fun c_2 => ?_) (fun c_2 => ?_)
    · refine q_iload_n K 0 dX2_sortOf_28 rfl ?_
      refine q_bipush 59 K dX2_sortOf_29 rfl ?_
      refine q_icmp_ne 36 K dX2_sortOf_31 (by decide) (fun c_3 => ?_) (fun c_3 => ?_)
      · refine q_iload_n K 0 dX2_sortOf_36 rfl ?_
        refine q_bipush 32 K dX2_sortOf_37 rfl ?_
        refine q_icmp_ne 46 K dX2_sortOf_39 (by decide) (fun c_4 => ?_) (fun c_4 => ?_)
        · refine q_iconst 4 K dX2_sortOf_46 rfl ?_
          exact Rt _ _ 4 ([]) dX2_sortOf_47 rfl (⟨by rw [c_of, if_neg (fun h => absurd c_1 (Int32.not_lt.mpr h.1)), if_neg (fun h => absurd c_2 (Int32.not_lt.mpr h.1)), if_neg c_3, if_neg c_4], rfl⟩)
        · refine q_iconst 3 K dX2_sortOf_42 rfl ?_
          refine q_goto 47 K dX2_sortOf_43 (by decide) ?_
          exact Rt _ _ 3 ([]) dX2_sortOf_47 rfl (⟨by rw [c_of, if_neg (fun h => absurd c_1 (Int32.not_lt.mpr h.1)), if_neg (fun h => absurd c_2 (Int32.not_lt.mpr h.1)), if_neg c_3, if_pos c_4], rfl⟩)
      · refine q_iconst 2 K dX2_sortOf_34 rfl ?_
        exact Rt _ _ 2 ([]) dX2_sortOf_35 rfl (⟨by rw [c_of, if_neg (fun h => absurd c_1 (Int32.not_lt.mpr h.1)), if_neg (fun h => absurd c_2 (Int32.not_lt.mpr h.1)), if_pos c_3], rfl⟩)
    · refine q_iload_n K 0 dX2_sortOf_20 rfl ?_
      refine q_bipush 57 K dX2_sortOf_21 rfl ?_
      refine q_icmp_gt 28 K dX2_sortOf_23 (by decide) (fun c_5 => ?_) (fun c_5 => ?_)
      · refine q_iload_n K 0 dX2_sortOf_28 rfl ?_
        refine q_bipush 59 K dX2_sortOf_29 rfl ?_
        refine q_icmp_ne 36 K dX2_sortOf_31 (by decide) (fun c_6 => ?_) (fun c_6 => ?_)
        · refine q_iload_n K 0 dX2_sortOf_36 rfl ?_
          refine q_bipush 32 K dX2_sortOf_37 rfl ?_
          refine q_icmp_ne 46 K dX2_sortOf_39 (by decide) (fun c_7 => ?_) (fun c_7 => ?_)
          · refine q_iconst 4 K dX2_sortOf_46 rfl ?_
            exact Rt _ _ 4 ([]) dX2_sortOf_47 rfl (⟨by rw [c_of, if_neg (fun h => absurd c_1 (Int32.not_lt.mpr h.1)), if_neg (fun h => absurd c_5 (Int32.not_lt.mpr h.2)), if_neg c_6, if_neg c_7], rfl⟩)
          · refine q_iconst 3 K dX2_sortOf_42 rfl ?_
            refine q_goto 47 K dX2_sortOf_43 (by decide) ?_
            exact Rt _ _ 3 ([]) dX2_sortOf_47 rfl (⟨by rw [c_of, if_neg (fun h => absurd c_1 (Int32.not_lt.mpr h.1)), if_neg (fun h => absurd c_5 (Int32.not_lt.mpr h.2)), if_neg c_6, if_pos c_7], rfl⟩)
        · refine q_iconst 2 K dX2_sortOf_34 rfl ?_
          exact Rt _ _ 2 ([]) dX2_sortOf_35 rfl (⟨by rw [c_of, if_neg (fun h => absurd c_1 (Int32.not_lt.mpr h.1)), if_neg (fun h => absurd c_5 (Int32.not_lt.mpr h.2)), if_pos c_6], rfl⟩)
      · refine q_iconst 1 K dX2_sortOf_26 rfl ?_
        exact Rt _ _ 1 ([]) dX2_sortOf_27 rfl (⟨by rw [c_of, if_neg (fun h => absurd c_1 (Int32.not_lt.mpr h.1)), if_pos ⟨Int32.not_lt.mp c_2, Int32.not_lt.mp c_5⟩], rfl⟩)
  · refine q_iload_n K 0 dX2_sortOf_6 rfl ?_
    refine q_bipush 122 K dX2_sortOf_7 rfl ?_
    refine q_icmp_gt 14 K dX2_sortOf_9 (by decide) (fun c_8 => ?_) (fun c_8 => ?_)
    · refine q_iload_n K 0 dX2_sortOf_14 rfl ?_
      refine q_bipush 48 K dX2_sortOf_15 rfl ?_
      refine q_icmp_lt 28 K dX2_sortOf_17 (by decide) (fun c_9 => ?_) (fun c_9 => ?_)
      · refine q_iload_n K 0 dX2_sortOf_28 rfl ?_
        refine q_bipush 59 K dX2_sortOf_29 rfl ?_
        refine q_icmp_ne 36 K dX2_sortOf_31 (by decide) (fun c_10 => ?_) (fun c_10 => ?_)
        · refine q_iload_n K 0 dX2_sortOf_36 rfl ?_
          refine q_bipush 32 K dX2_sortOf_37 rfl ?_
          refine q_icmp_ne 46 K dX2_sortOf_39 (by decide) (fun c_11 => ?_) (fun c_11 => ?_)
          · refine q_iconst 4 K dX2_sortOf_46 rfl ?_
            exact Rt _ _ 4 ([]) dX2_sortOf_47 rfl (⟨by rw [c_of, if_neg (fun h => absurd c_8 (Int32.not_lt.mpr h.2)), if_neg (fun h => absurd c_9 (Int32.not_lt.mpr h.1)), if_neg c_10, if_neg c_11], rfl⟩)
          · refine q_iconst 3 K dX2_sortOf_42 rfl ?_
            refine q_goto 47 K dX2_sortOf_43 (by decide) ?_
            exact Rt _ _ 3 ([]) dX2_sortOf_47 rfl (⟨by rw [c_of, if_neg (fun h => absurd c_8 (Int32.not_lt.mpr h.2)), if_neg (fun h => absurd c_9 (Int32.not_lt.mpr h.1)), if_neg c_10, if_pos c_11], rfl⟩)
        · refine q_iconst 2 K dX2_sortOf_34 rfl ?_
          exact Rt _ _ 2 ([]) dX2_sortOf_35 rfl (⟨by rw [c_of, if_neg (fun h => absurd c_8 (Int32.not_lt.mpr h.2)), if_neg (fun h => absurd c_9 (Int32.not_lt.mpr h.1)), if_pos c_10], rfl⟩)
      · refine q_iload_n K 0 dX2_sortOf_20 rfl ?_
        refine q_bipush 57 K dX2_sortOf_21 rfl ?_
        refine q_icmp_gt 28 K dX2_sortOf_23 (by decide) (fun c_12 => ?_) (fun c_12 => ?_)
        · refine q_iload_n K 0 dX2_sortOf_28 rfl ?_
          refine q_bipush 59 K dX2_sortOf_29 rfl ?_
          refine q_icmp_ne 36 K dX2_sortOf_31 (by decide) (fun c_13 => ?_) (fun c_13 => ?_)
          · refine q_iload_n K 0 dX2_sortOf_36 rfl ?_
            refine q_bipush 32 K dX2_sortOf_37 rfl ?_
            refine q_icmp_ne 46 K dX2_sortOf_39 (by decide) (fun c_14 => ?_) (fun c_14 => ?_)
            · refine q_iconst 4 K dX2_sortOf_46 rfl ?_
              exact Rt _ _ 4 ([]) dX2_sortOf_47 rfl (⟨by rw [c_of, if_neg (fun h => absurd c_8 (Int32.not_lt.mpr h.2)), if_neg (fun h => absurd c_12 (Int32.not_lt.mpr h.2)), if_neg c_13, if_neg c_14], rfl⟩)
            · refine q_iconst 3 K dX2_sortOf_42 rfl ?_
              refine q_goto 47 K dX2_sortOf_43 (by decide) ?_
              exact Rt _ _ 3 ([]) dX2_sortOf_47 rfl (⟨by rw [c_of, if_neg (fun h => absurd c_8 (Int32.not_lt.mpr h.2)), if_neg (fun h => absurd c_12 (Int32.not_lt.mpr h.2)), if_neg c_13, if_pos c_14], rfl⟩)
          · refine q_iconst 2 K dX2_sortOf_34 rfl ?_
            exact Rt _ _ 2 ([]) dX2_sortOf_35 rfl (⟨by rw [c_of, if_neg (fun h => absurd c_8 (Int32.not_lt.mpr h.2)), if_neg (fun h => absurd c_12 (Int32.not_lt.mpr h.2)), if_pos c_13], rfl⟩)
        · refine q_iconst 1 K dX2_sortOf_26 rfl ?_
          exact Rt _ _ 1 ([]) dX2_sortOf_27 rfl (⟨by rw [c_of, if_neg (fun h => absurd c_8 (Int32.not_lt.mpr h.2)), if_pos ⟨Int32.not_lt.mp c_9, Int32.not_lt.mp c_12⟩], rfl⟩)
    · refine q_iconst 0 K dX2_sortOf_12 rfl ?_
      exact Rt _ _ 0 ([]) dX2_sortOf_13 rfl (⟨by rw [c_of, if_pos ⟨Int32.not_lt.mp c_1, Int32.not_lt.mp c_8⟩], rfl⟩)
theorem ks_X2_sortOf : k_is yX2_sortOf cX2_sortOf 1 (some .int) 1 := ⟨sm_X2_sortOf, in_X2, co_X2_sortOf, by decide +kernel⟩
set_option maxHeartbeats 4000000 in
set_option maxRecDepth 100000 in
theorem c_X2_setToken (l : Launch) (Z : kz_Z) (c : Nat → Nat) (P : TS) (n i : Nat) (hn : n ≤ 120) (s : Int32) : KV l Z yX2_setToken cX2_setToken 4 0 0 [.ref (c 0), .int (nI n), .int s, .int (nI i)] (w_T Z c P) (fun w2 => w2 = w_T Z c (t_by P, t_sz P, upd (t_so P) n s, upd (t_pl P) n (nI i), upd (t_ln P) n 1, t_nx P)) := by
  refine kv_of (by decide) [(0, .ref (c 0)), (1, .int (nI n)), (2, .int s), (3, .int (nI i))] (Nat.le_of_ble_eq_true rfl) rfl ?_
  intro M e1 e2 K Rt
  subst e1 e2
  refine q_aload_n K 0 dX2_setToken_0 rfl ?_
  refine q_get (.ref (c 3)) K ws_X2 0 rfl rfl 3 (by decide) fl_X2_31 rfl dX2_setToken_1 ?_
  refine q_iload_n K 1 dX2_setToken_4 rfl ?_
  refine q_iload_n K 2 dX2_setToken_5 rfl ?_
  refine q_iast (ws' := w_T (k_Z M) c (t_by P, t_sz P, upd (t_so P) n s, t_pl P, t_ln P, t_nx P)) K 3 rfl (vp_in_nI (n := n) (N := 121) (by omega) (by omega)) (by rw [nI_clamp (n := n) (by omega)] <;> rfl) dX2_setToken_6 ?_
  refine q_aload_n K 0 dX2_setToken_7 rfl ?_
  refine q_get (.ref (c 4)) K ws_X2 0 rfl rfl 4 (by decide) fl_X2_35 rfl dX2_setToken_8 ?_
  refine q_iload_n K 1 dX2_setToken_11 rfl ?_
  refine q_iload_n K 3 dX2_setToken_12 rfl ?_
  refine q_iast (ws' := w_T (k_Z M) c (t_by P, t_sz P, upd (t_so P) n s, upd (t_pl P) n (nI i), t_ln P, t_nx P)) K 4 rfl (vp_in_nI (n := n) (N := 121) (by omega) (by omega)) (by rw [nI_clamp (n := n) (by omega)] <;> rfl) dX2_setToken_13 ?_
  refine q_aload_n K 0 dX2_setToken_14 rfl ?_
  refine q_get (.ref (c 5)) K ws_X2 0 rfl rfl 5 (by decide) fl_X2_38 rfl dX2_setToken_15 ?_
  refine q_iload_n K 1 dX2_setToken_18 rfl ?_
  refine q_iconst 1 K dX2_setToken_19 rfl ?_
  refine q_iast (ws' := w_T (k_Z M) c (t_by P, t_sz P, upd (t_so P) n s, upd (t_pl P) n (nI i), upd (t_ln P) n 1, t_nx P)) K 5 rfl (vp_in_nI (n := n) (N := 121) (by omega) (by omega)) (by rw [nI_clamp (n := n) (by omega)] <;> rfl) dX2_setToken_20 ?_
  exact Rt _ _ (w_T (k_Z M) c (t_by P, t_sz P, upd (t_so P) n s, upd (t_pl P) n (nI i), upd (t_ln P) n 1, t_nx P)) dX2_setToken_21 (rfl)
theorem kv_X2_setToken : k_iv yX2_setToken cX2_setToken 4 none 3 := ⟨⟨im_X2_setToken, se_X2_setToken⟩, in_X2, co_X2_setToken, by decide +kernel⟩
set_option maxHeartbeats 4000000 in
set_option maxRecDepth 100000 in
theorem c_X2_isSpelt (l : Launch) (Z : kz_Z) (c : Nat → Nat) (p : TP) (J : TJ) (t n : Nat) (hq : p.2 ≤ 120) (hJ : k_all p J n) (ht : t ≤ n) (f e : Nat) (hf : p_fr p t = f) (he : p_pos p (t + 1) = e) (hs : p_so p t = 1) (h8 : e - f ≤ 8) (k : Nat) (hk : k < 16) : KI l Z yX2_isSpelt cX2_isSpelt 4 .boolean 0 0 [.ref (c 0), .int (nI k)] (w_T Z c (t_of p (j_at J t))) (fun r w2 => (r = if p_isw p f e k = true then 1 else 0) ∧ w2 = w_T Z c (t_of p (j_at J t))) := by
  refine ki_of (by decide) [(0, .ref (c 0)), (1, .int (nI k))] (Nat.le_of_ble_eq_true rfl) rfl ?_
  intro M e1 e2 K Rt
  subst e1 e2
  obtain ⟨hT1, hT2, hT3⟩ := hJ.2.1 t ht
  have hn120 := hJ.1
  have hfe := p_fe_le p t
  rw [hf, he] at hfe hT3
  rw [hf] at hT2
  have hle := hT3 (by rw [hs]; decide)
  refine q_iconst 0 K dX2_isSpelt_0 rfl ?_
  refine q_istore_n (lv' := [(2, .int 0), (0, .ref (c 0)), (1, .int (nI k))]) K dX2_isSpelt_1 (by decide) rfl ?_
  refine q_lv [0, 1, 2] rfl ?_
  refine q_loop (α := Nat) (fun n9 i => (i + n9 = 8) ∧ ∀ j, j < i → p_lt8 p f e j = k_word (8 * k + j)) 2 (fun i => [(2, .int (nI i)), (0, .ref (c 0)), (1, .int (nI k))]) (fun i => w_T (k_Z M) c (t_of p (j_at J t))) (fun n_1 i hI_2 ih_3 => ?_) 8 0 ⟨rfl, fun j h => absurd h (Nat.not_lt_zero j)⟩
  obtain ⟨hI, hM⟩ := hI_2
  refine q_iload_n K 0 dX2_isSpelt_2 rfl ?_
  refine q_bipush 8 K dX2_isSpelt_3 rfl ?_
  refine q_icmp_ge 66 K dX2_isSpelt_5 (by decide) (fun c_4 => ?_) (fun c_4 => ?_)
  · have c_4n : 8 ≤ i := (nI_leI (a := 8) (b := i) (by omega) (by omega)).mp c_4
    refine q_iconst 1 K dX2_isSpelt_66 rfl ?_
    exact Rt _ _ 1 (w_T (k_Z M) c (t_of p (j_at J t))) dX2_isSpelt_67 rfl (⟨(if_pos (m8_isw hk hfe.1 h8 (fun j h1 h2 => p_to_lt (f := p_fr p t) hs (by omega) (show _ < p_pos p (t + 1) by omega)) (fun j hj => hM j (by omega)))).symm, rfl⟩)
  · have c_4n : ¬ (8 ≤ i) := fun h9 => c_4 ((nI_leI (a := 8) (b := i) (by omega) (by omega)).mpr h9)
    refine q_iload_n K 0 dX2_isSpelt_8 rfl ?_
    refine q_aload_n K 1 dX2_isSpelt_9 rfl ?_
    refine q_get (.ref (c 5)) K ws_X2 0 rfl rfl 5 (by decide) fl_X2_38 rfl dX2_isSpelt_10 ?_
    refine q_aload_n K 1 dX2_isSpelt_13 rfl ?_
    refine q_get (.int (nI t)) K ws_X2 0 rfl rfl 6 (by decide) fl_X2_41 rfl dX2_isSpelt_14 ?_
    refine q_iald K 5 rfl (vp_in_nI (n := t) (N := 121) (by omega) (by omega)) dX2_isSpelt_17 ?_
    refine q_eqi (J.2.2.1 t) (by rw [nI_clamp (n := t) (by omega)] <;> rfl) ?_
    refine q_eqi (nI (e - f)) hle ?_
    refine q_icmp_ge 40 K dX2_isSpelt_18 (by decide) (fun c_5 => ?_) (fun c_5 => ?_)
    · have c_5n : e - f ≤ i := (nI_leI (a := e - f) (b := i) (by omega) (by omega)).mp c_5
      refine q_bipush 32 K dX2_isSpelt_40 rfl ?_
      refine q_istore_n (lv' := [(3, .int 32), (2, .int (nI i)), (0, .ref (c 0)), (1, .int (nI k))]) K dX2_isSpelt_42 (by decide) rfl ?_
      refine q_iload_n K 0 dX2_isSpelt_43 rfl ?_
      refine q_aload_n K 2 dX2_isSpelt_44 rfl ?_
      refine q_get (.ref (c 2)) K ws_X2 0 rfl rfl 2 (by decide) fl_X2_27 rfl dX2_isSpelt_45 ?_
      refine q_iload_n K 3 dX2_isSpelt_48 rfl ?_
      refine q_bipush 8 K dX2_isSpelt_49 rfl ?_
      refine q_imul K dX2_isSpelt_51 ?_
      refine q_eqi (nI (k * 8)) (pk_mul k 8) ?_
      refine q_iload_n K 1 dX2_isSpelt_52 rfl ?_
      refine q_iadd K dX2_isSpelt_53 ?_
      refine q_eqi (nI ((k * 8) + i)) (kn_add (k * 8) i) ?_
      refine q_cald K 2 rfl (vp_in_nI (n := (k * 8) + i) (N := 128) (by omega) (by omega)) dX2_isSpelt_54 ?_
      refine q_eqi (k_word ((k * 8) + i)) (by rw [nI_clamp (n := (k * 8) + i) (by omega)] <;> rfl) ?_
      refine q_eqi (k_word (8 * k + i)) (by rw [Nat.mul_comm]) ?_
      refine q_icmp_eq 60 K dX2_isSpelt_55 (by decide) (fun c_6 => ?_) (fun c_6 => ?_)
      · refine q_iinc (nI (i + 1)) (lv' := [(2, .int (nI (i + 1))), (3, .int 32), (0, .ref (c 0)), (1, .int (nI k))]) K 1 dX2_isSpelt_60 rfl (kn_inc i) (by decide) rfl ?_
        refine q_goto 2 K dX2_isSpelt_63 (by decide) ?_
        refine q_lv [0, 2, 3] rfl ?_
        exact ih_3 (n_1 - 1) (i + 1) (by omega) ⟨by omega, fun j hj => by
            rcases Nat.lt_or_ge j i with q9 | q9
            · exact hM j q9
            · rw [show j = i by omega, p_lt8, if_neg (by omega)]; exact c_6⟩
      · refine q_iconst 0 K dX2_isSpelt_58 rfl ?_
        exact Rt _ _ 0 (w_T (k_Z M) c (t_of p (j_at J t))) dX2_isSpelt_59 rfl (⟨(if_neg (fun h9 => c_6 (by have h7 := isw_m8 hk h9 i (by omega); rw [p_lt8, if_neg (by omega)] at h7; exact h7))).symm, rfl⟩)
    · have c_5n : ¬ (e - f ≤ i) := fun h9 => c_5 ((nI_leI (a := e - f) (b := i) (by omega) (by omega)).mpr h9)
      refine q_aload_n K 1 dX2_isSpelt_21 rfl ?_
      refine q_get (.ref (c 1)) K ws_X2 0 rfl rfl 0 (by decide) fl_X2_9 rfl dX2_isSpelt_22 ?_
      refine q_aload_n K 1 dX2_isSpelt_25 rfl ?_
      refine q_get (.ref (c 4)) K ws_X2 0 rfl rfl 4 (by decide) fl_X2_35 rfl dX2_isSpelt_26 ?_
      refine q_aload_n K 1 dX2_isSpelt_29 rfl ?_
      refine q_get (.int (nI t)) K ws_X2 0 rfl rfl 6 (by decide) fl_X2_41 rfl dX2_isSpelt_30 ?_
      refine q_iald K 4 rfl (vp_in_nI (n := t) (N := 121) (by omega) (by omega)) dX2_isSpelt_33 ?_
      refine q_eqi (J.2.1 t) (by rw [nI_clamp (n := t) (by omega)] <;> rfl) ?_
      refine q_eqi (nI f) hT2 ?_
      refine q_iload_n K 0 dX2_isSpelt_34 rfl ?_
      refine q_iadd K dX2_isSpelt_35 ?_
      refine q_eqi (nI (f + i)) (kn_add f i) ?_
      refine q_bald K 1 rfl (vp_in_nI (n := f + i) (N := 120) (by omega) (by omega)) dX2_isSpelt_36 ?_
      refine q_eqi (b_of (p.1 (f + i))) (by rw [nI_clamp (n := f + i) (by omega)] <;> rfl) ?_
      refine q_eqi (p_at p (f + i)) (b_of_lt (p_to_lt (f := p_fr p t) hs (by omega) (show _ < p_pos p (t + 1) by omega))) ?_
      refine q_goto 42 K dX2_isSpelt_37 (by decide) ?_
      refine q_istore_n (lv' := [(3, .int (p_at p (f + i))), (2, .int (nI i)), (0, .ref (c 0)), (1, .int (nI k))]) K dX2_isSpelt_42 (by decide) rfl ?_
      refine q_iload_n K 0 dX2_isSpelt_43 rfl ?_
      refine q_aload_n K 2 dX2_isSpelt_44 rfl ?_
      refine q_get (.ref (c 2)) K ws_X2 0 rfl rfl 2 (by decide) fl_X2_27 rfl dX2_isSpelt_45 ?_
      refine q_iload_n K 3 dX2_isSpelt_48 rfl ?_
      refine q_bipush 8 K dX2_isSpelt_49 rfl ?_
      refine q_imul K dX2_isSpelt_51 ?_
      refine q_eqi (nI (k * 8)) (pk_mul k 8) ?_
      refine q_iload_n K 1 dX2_isSpelt_52 rfl ?_
      refine q_iadd K dX2_isSpelt_53 ?_
      refine q_eqi (nI ((k * 8) + i)) (kn_add (k * 8) i) ?_
      refine q_cald K 2 rfl (vp_in_nI (n := (k * 8) + i) (N := 128) (by omega) (by omega)) dX2_isSpelt_54 ?_
      refine q_eqi (k_word ((k * 8) + i)) (by rw [nI_clamp (n := (k * 8) + i) (by omega)] <;> rfl) ?_
      refine q_eqi (k_word (8 * k + i)) (by rw [Nat.mul_comm]) ?_
      refine q_icmp_eq 60 K dX2_isSpelt_55 (by decide) (fun c_7 => ?_) (fun c_7 => ?_)
      · refine q_iinc (nI (i + 1)) (lv' := [(2, .int (nI (i + 1))), (3, .int (p_at p (f + i))), (0, .ref (c 0)), (1, .int (nI k))]) K 1 dX2_isSpelt_60 rfl (kn_inc i) (by decide) rfl ?_
        refine q_goto 2 K dX2_isSpelt_63 (by decide) ?_
        refine q_lv [0, 2, 3] rfl ?_
        exact ih_3 (n_1 - 1) (i + 1) (by omega) ⟨by omega, fun j hj => by
            rcases Nat.lt_or_ge j i with q9 | q9
            · exact hM j q9
            · rw [show j = i by omega, p_lt8, if_pos (by omega)]; exact c_7⟩
      · refine q_iconst 0 K dX2_isSpelt_58 rfl ?_
        exact Rt _ _ 0 (w_T (k_Z M) c (t_of p (j_at J t))) dX2_isSpelt_59 rfl (⟨(if_neg (fun h9 => c_7 (by have h7 := isw_m8 hk h9 i (by omega); rw [p_lt8, if_pos (by omega)] at h7; exact h7))).symm, rfl⟩)
theorem kv_X2_isSpelt : k_iv yX2_isSpelt cX2_isSpelt 4 (some .boolean) 1 := ⟨⟨im_X2_isSpelt, se_X2_isSpelt⟩, in_X2, co_X2_isSpelt, by decide +kernel⟩
