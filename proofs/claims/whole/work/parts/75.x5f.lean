set_option maxHeartbeats 4000000 in
set_option maxRecDepth 100000 in
theorem c_X2_tellTo (l : Launch) (Z : kz_Z) (a c : Nat → Nat) (p : TP) (J : TJ) (F : FS) (hq : p.2 ≤ 120) (hb : p_byt p) (D : DJ) (m : Nat) (hm : m ≤ 8) (hm2 : f_wk F = nI m) : KI l Z yX2_tellTo cX2_tellTo 3 .int 5 111 [.ref (c 0), .ref (a 0)] (w_F Z a F ++ (w_T Z c (t_of p J))) (fun r w2 => ∃ kk T J2, i_items p 121 1 (i_item p F (d_sq p D 0)) = (kk, T) ∧ (((T.1 = true ∧ d_tk T.2.2 = 0) ∧ r = nI kk ∧ kk ≤ 122) ∨ (¬ (T.1 = true ∧ d_tk T.2.2 = 0) ∧ r = -1 - d_fr T.2.2 ∧ ∃ f : Nat, f ≤ 120 ∧ d_fr T.2.2 = nI f)) ∧ w2 = w_F Z a T.2.1 ++ w_T Z c (t_of p J2)) := by
  refine ki_of (by decide) [(0, .ref (c 0)), (1, .ref (a 0))] (Nat.le_of_ble_eq_true rfl) rfl ?_
  intro M e1 e2 K Rt
  subst e1 e2
  refine q_aload_n K 0 dX2_tellTo_0 rfl ?_
  refine q_cvV (q0 := 0) (As := []) (rest := []) K kv_X2_split (c_X2_split (k_l M) (k_Z M) c p J hq hb) (w_F (k_Z M) a F) [] rfl rfl rfl ml_X2_44 rfl rfl (Nat.le_of_ble_eq_true rfl) ⟨Nat.le_of_ble_eq_true rfl, Nat.le_of_ble_eq_true rfl⟩ dX2_tellTo_1 (fun w2 h_1 => ?_)
  obtain ⟨n, J, hJ, rfl⟩ := h_1
  have hn120 := hJ.1
  refine q_ws (ws' := w_F (k_Z M) a F ++ (w_T (k_Z M) c (t_of p J))) rfl ?_
  refine q_aload_n K 0 dX2_tellTo_4 rfl ?_
  refine q_iconst 0 K dX2_tellTo_5 rfl ?_
  refine q_put (ty := .int) (ws' := w_F (k_Z M) a F ++ (w_T (k_Z M) c (t_of p (j_at J 0)))) K ws_X2 tyX2 tyX2_ok nmX2 10 rfl rfl 6 (by decide) fl_X2_41 rfl (by decide +kernel) rfl rfl (Nat.le_of_ble_eq_true rfl) rfl dX2_tellTo_6 ?_
  refine q_iconst 1 K dX2_tellTo_9 rfl ?_
  refine q_eqi (nI 1) rfl ?_
  refine q_istore_n (lv' := [(2, .int (nI 1)), (0, .ref (c 0)), (1, .ref (a 0))]) K dX2_tellTo_10 (by decide) rfl ?_
  refine q_loop (α := Nat × (FS × Nat)) (fun n9 x9 => ((x9.1 + n9 = 122) ∧ 1 ≤ x9.1) ∧ i_items p 121 1 (i_item p F (d_sq p D 0)) = i_items p n9 x9.1 (i_item p x9.2.1 (d_sq p D x9.2.2)) ∧ x9.2.2 ≤ n ∧ f_wok x9.2.1 ∧ 121 - n9 ≤ p_pos p x9.2.2) 11 (fun x9 => [(2, .int (nI x9.1)), (0, .ref (c 0)), (1, .ref (a 0))]) (fun x9 => w_F (k_Z M) a x9.2.1 ++ (w_T (k_Z M) c (t_of p (j_at J x9.2.2)))) (fun n_2 x9 hI_3 ih_4 => ?_) 121 (1, (F, 0)) ⟨⟨rfl, Nat.le_refl 1⟩, rfl, Nat.zero_le _, ⟨m, hm, hm2⟩, Nat.zero_le _⟩
  obtain ⟨k, S⟩ := x9
  dsimp only at hI_3 ih_4 ⊢
  obtain ⟨F1, t1⟩ := S
  dsimp only at hI_3 ⊢
  obtain ⟨⟨hk, hk1⟩, hA, ht1, ⟨m, hm, hm2⟩, hpos⟩ := hI_3
  refine q_iload_n K 0 dX2_tellTo_11 rfl ?_
  refine q_bipush 120 K dX2_tellTo_12 rfl ?_
  refine q_icmp_gt 75 K dX2_tellTo_14 (by decide) (fun c_5 => ?_) (fun c_5 => ?_)
  · have c_5n : 120 < k := (nI_ltI (a := 120) (b := k) (by omega) (by omega)).mp c_5
    have hp1 := p_pos_le p t1
    have hs0 : p_so p t1 = 0 := p_so_last (by omega)
    have hE : i_item p F1 (d_sq p D t1) = t_fail F1 (d_sq p D t1) := item_none hq (fun j hj h9 => absurd (hs0.symm.trans h9.1) (by decide))
    rw [hE] at hA
    have hA9 := hA.trans (i_items_end (fun h9 => Bool.noConfusion h9.1))
    refine q_iconst (-1) K dX2_tellTo_75 rfl ?_
    refine q_aload_n K 1 dX2_tellTo_76 rfl ?_
    refine q_get (.ref (c 4)) K ws_X2 10 rfl rfl 4 (by decide) fl_X2_35 rfl dX2_tellTo_77 ?_
    refine q_aload_n K 1 dX2_tellTo_80 rfl ?_
    refine q_get (.int (nI t1)) K ws_X2 10 rfl rfl 6 (by decide) fl_X2_41 rfl dX2_tellTo_81 ?_
    refine q_iald K 14 rfl (vp_in_nI (n := t1) (N := 121) (by omega) (by omega)) dX2_tellTo_84 ?_
    refine q_eqi (J.2.1 t1) (by rw [nI_clamp (n := t1) (by omega)] <;> rfl) ?_
    refine q_eqi (nI (p_fr p t1)) (hJ.2.1 t1 ht1).2.1 ?_
    refine q_isub K dX2_tellTo_85 ?_
    exact Rt _ _ ((-1) - (nI (p_fr p t1))) (w_F (k_Z M) a F1 ++ (w_T (k_Z M) c (t_of p (j_at J t1)))) dX2_tellTo_86 rfl (⟨k, t_fail F1 (d_sq p D t1), j_at J t1, hA9, Or.inr ⟨(fun h9 => Bool.noConfusion h9.1), by rw [show d_fr (t_fail F1 (d_sq p D t1)).2.2 = nI (p_fr p t1) from rfl], p_fr p t1, by have := (p_fr_le p t1).2; omega, rfl⟩, rfl⟩)
  · have c_5n : ¬ (120 < k) := fun h9 => c_5 ((nI_ltI (a := 120) (b := k) (by omega) (by omega)).mpr h9)
    refine q_aload_n K 1 dX2_tellTo_17 rfl ?_
    refine q_aload_n K 2 dX2_tellTo_18 rfl ?_
    refine q_wI (q0 := 10) (As := [.ref (a 0)]) (rest := []) K kv_X2_takeItem (c_X2_takeItem (k_l M) (k_Z M) a c p J F1 t1 n hq hJ ht1 D m hm hm2) rfl rfl ml_X2_47 rfl rfl (Nat.le_of_ble_eq_true rfl) ⟨Nat.le_of_ble_eq_true rfl, Nat.le_of_ble_eq_true rfl⟩ dX2_tellTo_19 (fun r_7 w2 h_6 => ?_)
    obtain ⟨T, hT⟩ : ∃ T9, i_item p F1 (d_sq p D t1) = T9 := ⟨_, rfl⟩
    have hW : f_wok (i_item p F1 (d_sq p D t1)).2.1 := i_item_P (P := f_wok) keeps_wok (by rw [f_mm hm hm2]; exact hm) ⟨m, hm, hm2⟩
    have hP := fun t9 => pos_item (t2 := t9) (F := F1) (D := D) hq (t := t1)
    rw [hT] at h_6 hW hP hA
    obtain ⟨e_r_7, t2, ht2, rfl, hY, hN⟩ := h_6
    refine q_ws (ws' := w_F (k_Z M) a T.2.1 ++ (w_T (k_Z M) c (t_of p (j_at J t2)))) rfl ?_
    refine q_if_ne 28 K dX2_tellTo_22 (by decide) (fun c_8 => ?_) (fun c_8 => ?_)
    · have c_8 : T.1 = true := (kn_ne e_r_7).mp c_8
      have hE := hY c_8
      refine q_aload_n K 1 dX2_tellTo_28 rfl ?_
      refine q_get (.ref (c 3)) K ws_X2 10 rfl rfl 3 (by decide) fl_X2_31 rfl dX2_tellTo_29 ?_
      refine q_aload_n K 1 dX2_tellTo_32 rfl ?_
      refine q_get (.int (nI t2)) K ws_X2 10 rfl rfl 6 (by decide) fl_X2_41 rfl dX2_tellTo_33 ?_
      refine q_iald K 13 rfl (vp_in_nI (n := t2) (N := 121) (by omega) (by omega)) dX2_tellTo_36 ?_
      refine q_eqi (J.1 t2) (by rw [nI_clamp (n := t2) (by omega)] <;> rfl) ?_
      refine q_eqi (c_srt (p_so p t2)) (hJ.2.1 t2 ht2).1 ?_
      refine q_iconst 5 K dX2_tellTo_37 rfl ?_
      refine q_icmp_ne 43 K dX2_tellTo_38 (by decide) (fun c_9 => ?_) (fun c_9 => ?_)
      · have hn0 : ¬ d_tk T.2.2 = 0 := by rw [hE]; exact fun h9 => c_9 (c_srt_5.mpr h9)
        refine q_aload_n K 1 dX2_tellTo_43 rfl ?_
        refine q_get (.ref (c 3)) K ws_X2 10 rfl rfl 3 (by decide) fl_X2_31 rfl dX2_tellTo_44 ?_
        refine q_aload_n K 1 dX2_tellTo_47 rfl ?_
        refine q_get (.int (nI t2)) K ws_X2 10 rfl rfl 6 (by decide) fl_X2_41 rfl dX2_tellTo_48 ?_
        refine q_iald K 13 rfl (vp_in_nI (n := t2) (N := 121) (by omega) (by omega)) dX2_tellTo_51 ?_
        refine q_eqi (J.1 t2) (by rw [nI_clamp (n := t2) (by omega)] <;> rfl) ?_
        refine q_eqi (c_srt (p_so p t2)) (hJ.2.1 t2 ht2).1 ?_
        refine q_iconst 2 K dX2_tellTo_52 rfl ?_
        refine q_icmp_eq 59 K dX2_tellTo_53 (by decide) (fun c_10 => ?_) (fun c_10 => ?_)
        · have h3 : p_so p t2 = 3 := c_srt_2.mp c_10
          have hp9 := hP t2 c_8 hE
          have hp8 := p_pos_le p t1
          have hA2 : i_items p 121 1 (i_item p F (d_sq p D 0)) = i_items p (n_2 - 1) (k + 1) (i_item p T.2.1 (d_sq p D (t2 + 1))) := by rw [hA, show n_2 = (n_2 - 1) + 1 by omega, i_items, if_pos ⟨c_8, by rw [hE]; exact h3⟩, hE, d_sq_nx hq] <;> rfl
          refine q_aload_n K 1 dX2_tellTo_59 rfl ?_
          refine q_dup K dX2_tellTo_60 rfl ?_
          refine q_get (.int (nI t2)) K ws_X2 10 rfl rfl 6 (by decide) fl_X2_41 rfl dX2_tellTo_61 ?_
          refine q_iconst 1 K dX2_tellTo_64 rfl ?_
          refine q_iadd K dX2_tellTo_65 ?_
          refine q_eqi (nI (t2 + 1)) (kn_add t2 1) ?_
          refine q_put (ty := .int) (ws' := w_F (k_Z M) a T.2.1 ++ (w_T (k_Z M) c (t_of p (j_at J (t2 + 1))))) K ws_X2 tyX2 tyX2_ok nmX2 10 rfl rfl 6 (by decide) fl_X2_41 rfl (by decide +kernel) rfl rfl (Nat.le_of_ble_eq_true rfl) rfl dX2_tellTo_66 ?_
          refine q_iinc (nI (k + 1)) (lv' := [(2, .int (nI (k + 1))), (0, .ref (c 0)), (1, .ref (a 0))]) K 0 dX2_tellTo_69 rfl (kn_inc k) (by decide) rfl ?_
          refine q_goto 11 K dX2_tellTo_72 (by decide) ?_
          exact ih_4 (n_2 - 1) (k + 1, T.2.1, t2 + 1) (by omega) ⟨⟨by show k + 1 + (n_2 - 1) = 122; omega, by show 1 ≤ k + 1; omega⟩, hA2, k_all_lt hJ ht2 (by rw [h3]; decide), hW, by show 121 - (n_2 - 1) ≤ p_pos p (t2 + 1); omega⟩
        · have hA9 := hA.trans (i_items_end (fun h9 => by have h8 := h9.2; rw [hE] at h8; exact c_10 (c_srt_2.mpr h8)))
          refine q_goto 75 K dX2_tellTo_56 (by decide) ?_
          refine q_iconst (-1) K dX2_tellTo_75 rfl ?_
          refine q_aload_n K 1 dX2_tellTo_76 rfl ?_
          refine q_get (.ref (c 4)) K ws_X2 10 rfl rfl 4 (by decide) fl_X2_35 rfl dX2_tellTo_77 ?_
          refine q_aload_n K 1 dX2_tellTo_80 rfl ?_
          refine q_get (.int (nI t2)) K ws_X2 10 rfl rfl 6 (by decide) fl_X2_41 rfl dX2_tellTo_81 ?_
          refine q_iald K 14 rfl (vp_in_nI (n := t2) (N := 121) (by omega) (by omega)) dX2_tellTo_84 ?_
          refine q_eqi (J.2.1 t2) (by rw [nI_clamp (n := t2) (by omega)] <;> rfl) ?_
          refine q_eqi (nI (p_fr p t2)) (hJ.2.1 t2 ht2).2.1 ?_
          refine q_isub K dX2_tellTo_85 ?_
          exact Rt _ _ ((-1) - (nI (p_fr p t2))) (w_F (k_Z M) a T.2.1 ++ (w_T (k_Z M) c (t_of p (j_at J t2)))) dX2_tellTo_86 rfl (⟨k, T, j_at J t2, hA9, Or.inr ⟨(fun h9 => hn0 h9.2), by rw [show d_fr (T).2.2 = nI (p_fr p t2) from (by rw [hE]; rfl)], p_fr p t2, by have := (p_fr_le p t2).2; omega, (by rw [hE]; rfl)⟩, rfl⟩)
      · have h0 : d_tk T.2.2 = 0 := by rw [hE]; exact c_srt_5.mp c_9
        have hA9 := hA.trans (i_items_end (fun h9 => absurd (h0.symm.trans h9.2) (by decide)))
        refine q_iload_n K 0 dX2_tellTo_41 rfl ?_
        exact Rt _ _ (nI k) (w_F (k_Z M) a T.2.1 ++ (w_T (k_Z M) c (t_of p (j_at J t2)))) dX2_tellTo_42 rfl (⟨k, T, j_at J t2, hA9, Or.inl ⟨⟨c_8, h0⟩, rfl, by omega⟩, rfl⟩)
    · have c_8 : ¬ (T.1 = true) := (kn_eq e_r_7).mp c_8
      have hB := hN (Bool.eq_false_iff.mpr c_8)
      have hA9 := hA.trans (i_items_end (fun h9 => c_8 h9.1))
      refine q_goto 75 K dX2_tellTo_25 (by decide) ?_
      refine q_iconst (-1) K dX2_tellTo_75 rfl ?_
      refine q_aload_n K 1 dX2_tellTo_76 rfl ?_
      refine q_get (.ref (c 4)) K ws_X2 10 rfl rfl 4 (by decide) fl_X2_35 rfl dX2_tellTo_77 ?_
      refine q_aload_n K 1 dX2_tellTo_80 rfl ?_
      refine q_get (.int (nI t2)) K ws_X2 10 rfl rfl 6 (by decide) fl_X2_41 rfl dX2_tellTo_81 ?_
      refine q_iald K 14 rfl (vp_in_nI (n := t2) (N := 121) (by omega) (by omega)) dX2_tellTo_84 ?_
      refine q_eqi (J.2.1 t2) (by rw [nI_clamp (n := t2) (by omega)] <;> rfl) ?_
      refine q_eqi (nI (p_fr p t2)) (hJ.2.1 t2 ht2).2.1 ?_
      refine q_isub K dX2_tellTo_85 ?_
      exact Rt _ _ ((-1) - (nI (p_fr p t2))) (w_F (k_Z M) a T.2.1 ++ (w_T (k_Z M) c (t_of p (j_at J t2)))) dX2_tellTo_86 rfl (⟨k, T, j_at J t2, hA9, Or.inr ⟨(fun h9 => c_8 h9.1), by rw [show d_fr (T).2.2 = nI (p_fr p t2) from (by rw [hB]; rfl)], p_fr p t2, by have := (p_fr_le p t2).2; omega, (by rw [hB]; rfl)⟩, rfl⟩)
theorem kv_X2_tellTo : k_iv yX2_tellTo cX2_tellTo 3 (some .int) 1 := ⟨⟨im_X2_tellTo, se_X2_tellTo⟩, in_X2, co_X2_tellTo, by decide +kernel⟩
