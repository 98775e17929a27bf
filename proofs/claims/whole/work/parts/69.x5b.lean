theorem nI_nm1 {k : Nat} (hk : k < 1000) : ¬ ((-1 : Int32) = nI k) := fun h => by
  have := (nI_ltI (a := k) (b := 1001) (by omega) (by omega)).mpr (by omega)
  have h2 : ¬ ((0 : Int32) ≤ nI k) := by rw [← h]; decide
  exact h2 ((nI_leI (a := 0) (b := k) (by omega) (by omega)).mpr (Nat.zero_le k))
set_option maxHeartbeats 4000000 in
set_option maxRecDepth 100000 in
theorem c_X2_wordAhead (l : Launch) (Z : kz_Z) (c : Nat → Nat) (p : TP) (J : TJ) (t n : Nat) (hq : p.2 ≤ 120) (hJ : k_all p J n) (ht : t ≤ n) : KI l Z yX2_wordAhead cX2_wordAhead 2 .int 1 23 [.ref (c 0)] (w_T Z c (t_of p (j_at J t))) (fun r w2 => ((∃ k : Nat, k < 16 ∧ k_w p t k ∧ (∀ j, j < k → ¬ k_w p t j) ∧ r = nI k) ∨ ((∀ j, j < 16 → ¬ k_w p t j) ∧ r = -1)) ∧ w2 = w_T Z c (t_of p (j_at J t))) := by
  refine ki_of (by decide) [(0, .ref (c 0))] (Nat.le_of_ble_eq_true rfl) rfl ?_
  intro M e1 e2 K Rt
  subst e1 e2
  obtain ⟨f, hf⟩ : ∃ f, p_fr p t = f := ⟨_, rfl⟩
  obtain ⟨e, he⟩ : ∃ e, p_pos p (t + 1) = e := ⟨_, rfl⟩
  obtain ⟨hT1, hT2, hT3⟩ := hJ.2.1 t ht
  have hn120 := hJ.1
  have hfe := p_fe_le p t
  rw [hf, he] at hfe hT3
  rw [hf] at hT2
  refine q_aload_n K 0 dX2_wordAhead_0 rfl ?_
  refine q_get (.ref (c 3)) K ws_X2 0 rfl rfl 3 (by decide) fl_X2_31 rfl dX2_wordAhead_1 ?_
  refine q_aload_n K 0 dX2_wordAhead_4 rfl ?_
  refine q_get (.int (nI t)) K ws_X2 0 rfl rfl 6 (by decide) fl_X2_41 rfl dX2_wordAhead_5 ?_
  refine q_iald K 3 rfl (vp_in_nI (n := t) (N := 121) (by omega) (by omega)) dX2_wordAhead_8 ?_
  refine q_eqi (J.1 t) (by rw [nI_clamp (n := t) (by omega)] <;> rfl) ?_
  refine q_eqi (c_srt (p_so p t)) hT1 ?_
  refine q_if_ne 26 K dX2_wordAhead_9 (by decide) (fun c_1 => ?_) (fun c_1 => ?_)
  · refine q_iconst (-1) K dX2_wordAhead_26 rfl ?_
    exact Rt _ _ (-1) (w_T (k_Z M) c (t_of p (j_at J t))) dX2_wordAhead_27 rfl (⟨Or.inr ⟨fun j _ h9 => c_1 (c_srt_0.mpr h9.1), rfl⟩, rfl⟩)
  · have hs := c_srt_0.mp c_1
    have hle := hT3 (by rw [hs]; decide)
    refine q_aload_n K 0 dX2_wordAhead_12 rfl ?_
    refine q_get (.ref (c 5)) K ws_X2 0 rfl rfl 5 (by decide) fl_X2_38 rfl dX2_wordAhead_13 ?_
    refine q_aload_n K 0 dX2_wordAhead_16 rfl ?_
    refine q_get (.int (nI t)) K ws_X2 0 rfl rfl 6 (by decide) fl_X2_41 rfl dX2_wordAhead_17 ?_
    refine q_iald K 5 rfl (vp_in_nI (n := t) (N := 121) (by omega) (by omega)) dX2_wordAhead_20 ?_
    refine q_eqi (J.2.2.1 t) (by rw [nI_clamp (n := t) (by omega)] <;> rfl) ?_
    refine q_eqi (nI (e - f)) hle ?_
    refine q_bipush 8 K dX2_wordAhead_21 rfl ?_
    refine q_icmp_le 28 K dX2_wordAhead_23 (by decide) (fun c_2 => ?_) (fun c_2 => ?_)
    · have c_2n : e - f ≤ 8 := (nI_leI (a := e - f) (b := 8) (by omega) (by omega)).mp c_2
      refine q_iconst 0 K dX2_wordAhead_28 rfl ?_
      refine q_istore_n (lv' := [(1, .int 0), (0, .ref (c 0))]) K dX2_wordAhead_29 (by decide) rfl ?_
      refine q_loop (α := Nat) (fun n9 k => (k + n9 = 16) ∧ ∀ j, j < k → ¬ k_w p t j) 30 (fun k => [(1, .int (nI k)), (0, .ref (c 0))]) (fun k => w_T (k_Z M) c (t_of p (j_at J t))) (fun n_3 k hI_4 ih_5 => ?_) 16 0 ⟨rfl, fun j h => absurd h (Nat.not_lt_zero j)⟩
      obtain ⟨hI, hM⟩ := hI_4
      refine q_iload_n K 0 dX2_wordAhead_30 rfl ?_
      refine q_bipush 16 K dX2_wordAhead_31 rfl ?_
      refine q_icmp_ge 52 K dX2_wordAhead_33 (by decide) (fun c_6 => ?_) (fun c_6 => ?_)
      · have c_6n : 16 ≤ k := (nI_leI (a := 16) (b := k) (by omega) (by omega)).mp c_6
        refine q_iconst (-1) K dX2_wordAhead_52 rfl ?_
        exact Rt _ _ (-1) (w_T (k_Z M) c (t_of p (j_at J t))) dX2_wordAhead_53 rfl (⟨Or.inr ⟨fun j hj => hM j (by omega), rfl⟩, rfl⟩)
      · have c_6n : ¬ (16 ≤ k) := fun h9 => c_6 ((nI_leI (a := 16) (b := k) (by omega) (by omega)).mpr h9)
        refine q_aload_n K 1 dX2_wordAhead_36 rfl ?_
        refine q_iload_n K 0 dX2_wordAhead_37 rfl ?_
        refine q_wI (q0 := 0) (As := [.int (nI k)]) (rest := []) K kv_X2_isSpelt (c_X2_isSpelt (k_l M) (k_Z M) c p J t n hq hJ ht f e hf he hs (by omega) k (by omega)) rfl rfl ml_X2_108 rfl rfl (Nat.le_of_ble_eq_true rfl) ⟨Nat.le_of_ble_eq_true rfl, Nat.le_of_ble_eq_true rfl⟩ dX2_wordAhead_38 (fun r_8 w2 h_7 => ?_)
        obtain ⟨e_r_8, rfl⟩ := h_7
        refine q_if_eq 46 K dX2_wordAhead_41 (by decide) (fun c_9 => ?_) (fun c_9 => ?_)
        · have c_9 : ¬ (p_isw p f e k = true) := (kn_eq e_r_8).mp c_9
          refine q_iinc (nI (k + 1)) (lv' := [(1, .int (nI (k + 1))), (0, .ref (c 0))]) K 0 dX2_wordAhead_46 rfl (kn_inc k) (by decide) rfl ?_
          refine q_goto 30 K dX2_wordAhead_49 (by decide) ?_
          exact ih_5 (n_3 - 1) (k + 1) (by omega) ⟨by omega, fun j hj => by
              rcases Nat.lt_or_ge j k with q9 | q9
              · exact hM j q9
              · rw [show j = k by omega]; exact fun h9 => c_9 (by rw [← hf, ← he]; exact h9.2)⟩
        · have c_9 : p_isw p f e k = true := (kn_ne e_r_8).mp c_9
          refine q_iload_n K 0 dX2_wordAhead_44 rfl ?_
          exact Rt _ _ (nI k) (w_T (k_Z M) c (t_of p (j_at J t))) dX2_wordAhead_45 rfl (⟨Or.inl ⟨k, by omega, ⟨hs, by rw [hf, he]; exact c_9⟩, hM, rfl⟩, rfl⟩)
    · have c_2n : ¬ (e - f ≤ 8) := fun h9 => c_2 ((nI_leI (a := e - f) (b := 8) (by omega) (by omega)).mpr h9)
      refine q_iconst (-1) K dX2_wordAhead_26 rfl ?_
      exact Rt _ _ (-1) (w_T (k_Z M) c (t_of p (j_at J t))) dX2_wordAhead_27 rfl (⟨Or.inr ⟨fun j hj h9 => by
          have h1 := (isw_e h9.2).1
          have h2 : p_len j ≤ 8 := k_len_8 ⟨j, hj⟩
          omega, rfl⟩, rfl⟩)
theorem kv_X2_wordAhead : k_iv yX2_wordAhead cX2_wordAhead 2 (some .int) 0 := ⟨⟨im_X2_wordAhead, se_X2_wordAhead⟩, in_X2, co_X2_wordAhead, by decide +kernel⟩
set_option maxHeartbeats 4000000 in
set_option maxRecDepth 100000 in
theorem c_X2_takeWord (l : Launch) (Z : kz_Z) (c : Nat → Nat) (p : TP) (J : TJ) (t n : Nat) (hq : p.2 ≤ 120) (hJ : k_all p J n) (ht : t ≤ n) (k : Nat) (hk : k < 16) : KI l Z yX2_takeWord cX2_takeWord 2 .boolean 2 44 [.ref (c 0), .int (nI k)] (w_T Z c (t_of p (j_at J t))) (fun r w2 => (k_w p t k ∧ r = 1 ∧ w2 = w_T Z c (t_of p (j_at J (t + 1)))) ∨ (¬ k_w p t k ∧ r = 0 ∧ w2 = w_T Z c (t_of p (j_at J t)))) := by
  refine ki_of (by decide) [(0, .ref (c 0)), (1, .int (nI k))] (Nat.le_of_ble_eq_true rfl) rfl ?_
  intro M e1 e2 K Rt
  subst e1 e2
  have hn120 := hJ.1
  refine q_aload_n K 0 dX2_takeWord_0 rfl ?_
  refine q_wI (q0 := 0) (As := []) (rest := []) K kv_X2_wordAhead (c_X2_wordAhead (k_l M) (k_Z M) c p J t n hq hJ ht) rfl rfl ml_X2_59 rfl rfl (Nat.le_of_ble_eq_true rfl) ⟨Nat.le_of_ble_eq_true rfl, Nat.le_of_ble_eq_true rfl⟩ dX2_takeWord_1 (fun r_2 w2 h_1 => ?_)
  obtain ⟨⟨j_r_2, hj_r_2, hw_r_2, hm_r_2, e_r_2⟩ | ⟨hn_r_2, e_r_2⟩, rfl⟩ := h_1
  · refine q_eqi (nI j_r_2) e_r_2 ?_
    refine q_iload_n K 1 dX2_takeWord_4 rfl ?_
    refine q_icmp_eq 10 K dX2_takeWord_5 (by decide) (fun c_3 => ?_) (fun c_3 => ?_)
    · have c_3n : j_r_2 = k := (nI_eq (a := j_r_2) (b := k) (by omega) (by omega)).mp c_3
      refine q_aload_n K 0 dX2_takeWord_10 rfl ?_
      refine q_dup K dX2_takeWord_11 rfl ?_
      refine q_get (.int (nI t)) K ws_X2 0 rfl rfl 6 (by decide) fl_X2_41 rfl dX2_takeWord_12 ?_
      refine q_iconst 1 K dX2_takeWord_15 rfl ?_
      refine q_iadd K dX2_takeWord_16 ?_
      refine q_eqi (nI (t + 1)) (kn_add t 1) ?_
      refine q_put (ty := .int) (ws' := w_T (k_Z M) c (t_of p (j_at J (t + 1)))) K ws_X2 tyX2 tyX2_ok nmX2 0 rfl rfl 6 (by decide) fl_X2_41 rfl (by decide +kernel) rfl rfl (Nat.le_of_ble_eq_true rfl) rfl dX2_takeWord_17 ?_
      refine q_iconst 1 K dX2_takeWord_20 rfl ?_
      exact Rt _ _ 1 (w_T (k_Z M) c (t_of p (j_at J (t + 1)))) dX2_takeWord_21 rfl (Or.inl ⟨by rw [show k = j_r_2 by omega]; exact hw_r_2, rfl, rfl⟩)
    · have c_3n : ¬ (j_r_2 = k) := fun h9 => c_3 ((nI_eq (a := j_r_2) (b := k) (by omega) (by omega)).mpr h9)
      refine q_iconst 0 K dX2_takeWord_8 rfl ?_
      exact Rt _ _ 0 (w_T (k_Z M) c (t_of p (j_at J t))) dX2_takeWord_9 rfl (Or.inr ⟨fun h9 => c_3n (k_w_one hj_r_2 hk hw_r_2 h9), rfl, rfl⟩)
  · refine q_eqi (-1) e_r_2 ?_
    refine q_iload_n K 1 dX2_takeWord_4 rfl ?_
    refine q_icmp_eq 10 K dX2_takeWord_5 (by decide) (fun c_4 => ?_) (fun c_4 => ?_)
    · exact absurd c_4 (nI_nm1 (by omega))
    · refine q_iconst 0 K dX2_takeWord_8 rfl ?_
      exact Rt _ _ 0 (w_T (k_Z M) c (t_of p (j_at J t))) dX2_takeWord_9 rfl (Or.inr ⟨hn_r_2 k hk, rfl, rfl⟩)
theorem kv_X2_takeWord : k_iv yX2_takeWord cX2_takeWord 2 (some .boolean) 1 := ⟨⟨im_X2_takeWord, se_X2_takeWord⟩, in_X2, co_X2_takeWord, by decide +kernel⟩
set_option maxHeartbeats 4000000 in
set_option maxRecDepth 100000 in
theorem c_X2_takeNumber (l : Launch) (Z : kz_Z) (c : Nat → Nat) (p : TP) (J : TJ) (t n : Nat) (hq : p.2 ≤ 120) (hJ : k_all p J n) (ht : t ≤ n) (mx : Nat) (hmx : mx ≤ 9999) (hi : Int32) (hhi : hi = nI mx) : KI l Z yX2_takeNumber cX2_takeNumber 5 .int 1 13 [.ref (c 0), .int hi] (w_T Z c (t_of p (j_at J t))) (fun r w2 => ((p_so p t = 2 ∧ inR (p_vl p (p_fr p t)) 0 (nI mx)) ∧ r = p_vl p (p_fr p t) ∧ w2 = w_T Z c (t_of p (j_at J (t + 1)))) ∨ (¬ (p_so p t = 2 ∧ inR (p_vl p (p_fr p t)) 0 (nI mx)) ∧ r = -1 ∧ w2 = w_T Z c (t_of p (j_at J t)))) := by
  refine ki_of (by decide) [(0, .ref (c 0)), (1, .int hi)] (Nat.le_of_ble_eq_true rfl) rfl ?_
  intro M e1 e2 K Rt
  subst e1 e2
  obtain ⟨f, hf⟩ : ∃ f, p_fr p t = f := ⟨_, rfl⟩
  obtain ⟨e, he⟩ : ∃ e, p_pos p (t + 1) = e := ⟨_, rfl⟩
  obtain ⟨hT1, hT2, hT3⟩ := hJ.2.1 t ht
  have hn120 := hJ.1
  have hfe := p_fe_le p t
  rw [hf, he] at hfe hT3
  rw [hf] at hT2
  refine q_aload_n K 0 dX2_takeNumber_0 rfl ?_
  refine q_get (.ref (c 3)) K ws_X2 0 rfl rfl 3 (by decide) fl_X2_31 rfl dX2_takeNumber_1 ?_
  refine q_aload_n K 0 dX2_takeNumber_4 rfl ?_
  refine q_get (.int (nI t)) K ws_X2 0 rfl rfl 6 (by decide) fl_X2_41 rfl dX2_takeNumber_5 ?_
  refine q_iald K 3 rfl (vp_in_nI (n := t) (N := 121) (by omega) (by omega)) dX2_takeNumber_8 ?_
  refine q_eqi (J.1 t) (by rw [nI_clamp (n := t) (by omega)] <;> rfl) ?_
  refine q_eqi (c_srt (p_so p t)) hT1 ?_
  refine q_iconst 1 K dX2_takeNumber_9 rfl ?_
  refine q_icmp_eq 15 K dX2_takeNumber_10 (by decide) (fun c_1 => ?_) (fun c_1 => ?_)
  · have hs := c_srt_1.mp c_1
    have hle := hT3 (by rw [hs]; decide)
    have hv : p_vl p (p_fr p t) = p_num p f (e - f) := by rw [p_vl, if_pos hs, ← hf, ← he]; rfl
    refine q_iconst 0 K dX2_takeNumber_15 rfl ?_
    refine q_eqi (nI (min 0 10000)) rfl ?_
    refine q_istore_n (lv' := [(2, .int (nI (min 0 10000))), (0, .ref (c 0)), (1, .int hi)]) K dX2_takeNumber_16 (by decide) rfl ?_
    refine q_iconst 0 K dX2_takeNumber_17 rfl ?_
    refine q_istore_n (lv' := [(3, .int 0), (2, .int (nI (min 0 10000))), (0, .ref (c 0)), (1, .int hi)]) K dX2_takeNumber_18 (by decide) rfl ?_
    refine q_loop (α := Nat × Nat) (fun n9 x9 => (x9.1 + n9 = e - f) ∧ x9.2 ≤ 99999 ∧ p_num p f x9.1 = nI x9.2) 19 (fun x9 => [(3, .int (nI x9.1)), (2, .int (nI (min x9.2 10000))), (0, .ref (c 0)), (1, .int hi)]) (fun x9 => w_T (k_Z M) c (t_of p (j_at J t))) (fun n_2 x9 hI_3 ih_4 => ?_) (e - f) (0, 0) ⟨Nat.zero_add _, Nat.zero_le _, rfl⟩
    obtain ⟨i, a⟩ := x9
    dsimp only at hI_3 ih_4 ⊢
    obtain ⟨hI, ha, ea⟩ := hI_3
    refine q_iload_n K 0 dX2_takeNumber_19 rfl ?_
    refine q_aload_n K 2 dX2_takeNumber_20 rfl ?_
    refine q_get (.ref (c 5)) K ws_X2 0 rfl rfl 5 (by decide) fl_X2_38 rfl dX2_takeNumber_21 ?_
    refine q_aload_n K 2 dX2_takeNumber_24 rfl ?_
    refine q_get (.int (nI t)) K ws_X2 0 rfl rfl 6 (by decide) fl_X2_41 rfl dX2_takeNumber_25 ?_
    refine q_iald K 5 rfl (vp_in_nI (n := t) (N := 121) (by omega) (by omega)) dX2_takeNumber_28 ?_
    refine q_eqi (J.2.2.1 t) (by rw [nI_clamp (n := t) (by omega)] <;> rfl) ?_
    refine q_eqi (nI (e - f)) hle ?_
    refine q_icmp_ge 73 K dX2_takeNumber_29 (by decide) (fun c_5 => ?_) (fun c_5 => ?_)
    · have c_5n : e - f ≤ i := (nI_leI (a := e - f) (b := i) (by omega) (by omega)).mp c_5
      have hV : p_vl p (p_fr p t) = nI a := by rw [hv, show e - f = i by omega]; exact ea
      refine q_iload_n K 1 dX2_takeNumber_73 rfl ?_
      refine q_iload_n K 3 dX2_takeNumber_74 rfl ?_
      refine q_eqi (nI mx) hhi ?_
      refine q_icmp_le 80 K dX2_takeNumber_75 (by decide) (fun c_6 => ?_) (fun c_6 => ?_)
      · have c_6n : min a 10000 ≤ mx := (nI_leI (a := min a 10000) (b := mx) (by omega) (by omega)).mp c_6
        refine q_aload_n K 2 dX2_takeNumber_80 rfl ?_
        refine q_dup K dX2_takeNumber_81 rfl ?_
        refine q_get (.int (nI t)) K ws_X2 0 rfl rfl 6 (by decide) fl_X2_41 rfl dX2_takeNumber_82 ?_
        refine q_iconst 1 K dX2_takeNumber_85 rfl ?_
        refine q_iadd K dX2_takeNumber_86 ?_
        refine q_eqi (nI (t + 1)) (kn_add t 1) ?_
        refine q_put (ty := .int) (ws' := w_T (k_Z M) c (t_of p (j_at J (t + 1)))) K ws_X2 tyX2 tyX2_ok nmX2 0 rfl rfl 6 (by decide) fl_X2_41 rfl (by decide +kernel) rfl rfl (Nat.le_of_ble_eq_true rfl) rfl dX2_takeNumber_87 ?_
        refine q_iload_n K 1 dX2_takeNumber_90 rfl ?_
        exact Rt _ _ (nI (min a 10000)) (w_T (k_Z M) c (t_of p (j_at J (t + 1)))) dX2_takeNumber_91 rfl (Or.inl ⟨⟨hs, by
            rw [hV]
            exact ⟨(nI_leI (a := 0) (b := a) (by omega) (by omega)).mpr (Nat.zero_le a), (nI_leI (a := a) (b := mx) (by omega) (by omega)).mpr (by omega)⟩⟩, by rw [hV, show min a 10000 = a by omega], rfl⟩)
      · have c_6n : ¬ (min a 10000 ≤ mx) := fun h9 => c_6 ((nI_leI (a := min a 10000) (b := mx) (by omega) (by omega)).mpr h9)
        refine q_iconst (-1) K dX2_takeNumber_78 rfl ?_
        exact Rt _ _ (-1) (w_T (k_Z M) c (t_of p (j_at J t))) dX2_takeNumber_79 rfl (Or.inr ⟨fun h9 => by
            have h7 := h9.2.2
            rw [hV] at h7
            have := (nI_leI (a := a) (b := mx) (by omega) (by omega)).mp h7
            omega, rfl, rfl⟩)
    · have c_5n : ¬ (e - f ≤ i) := fun h9 => c_5 ((nI_leI (a := e - f) (b := i) (by omega) (by omega)).mpr h9)
      refine q_aload_n K 2 dX2_takeNumber_32 rfl ?_
      refine q_get (.ref (c 1)) K ws_X2 0 rfl rfl 0 (by decide) fl_X2_9 rfl dX2_takeNumber_33 ?_
      refine q_aload_n K 2 dX2_takeNumber_36 rfl ?_
      refine q_get (.ref (c 4)) K ws_X2 0 rfl rfl 4 (by decide) fl_X2_35 rfl dX2_takeNumber_37 ?_
      refine q_aload_n K 2 dX2_takeNumber_40 rfl ?_
      refine q_get (.int (nI t)) K ws_X2 0 rfl rfl 6 (by decide) fl_X2_41 rfl dX2_takeNumber_41 ?_
      refine q_iald K 4 rfl (vp_in_nI (n := t) (N := 121) (by omega) (by omega)) dX2_takeNumber_44 ?_
      refine q_eqi (J.2.1 t) (by rw [nI_clamp (n := t) (by omega)] <;> rfl) ?_
      refine q_eqi (nI f) hT2 ?_
      refine q_iload_n K 0 dX2_takeNumber_45 rfl ?_
      refine q_iadd K dX2_takeNumber_46 ?_
      refine q_eqi (nI (f + i)) (kn_add f i) ?_
      refine q_bald K 1 rfl (vp_in_nI (n := f + i) (N := 120) (by omega) (by omega)) dX2_takeNumber_47 ?_
      refine q_eqi (b_of (p.1 (f + i))) (by rw [nI_clamp (n := f + i) (by omega)] <;> rfl) ?_
      refine q_eqi (p_at p (f + i)) (b_of_dg' (p_to_dg (f := p_fr p t) hs (by omega) (show _ < p_pos p (t + 1) by omega))) ?_
      refine q_bipush 48 K dX2_takeNumber_48 rfl ?_
      refine q_isub K dX2_takeNumber_50 ?_
      refine q_istore (lv' := [(4, .int ((p_at p (f + i)) - 48)), (3, .int (nI i)), (2, .int (nI (min a 10000))), (0, .ref (c 0)), (1, .int hi)]) K dX2_takeNumber_51 (by decide) rfl ?_
      refine q_iload_n K 2 dX2_takeNumber_53 rfl ?_
      refine q_bipush 10 K dX2_takeNumber_54 rfl ?_
      refine q_imul K dX2_takeNumber_56 ?_
      refine q_iload K 0 dX2_takeNumber_57 rfl ?_
      refine q_iadd K dX2_takeNumber_59 ?_
      refine q_sipush 10000 K dX2_takeNumber_60 rfl ?_
      refine q_mmin K ml_X2_103 (Nat.le_of_ble_eq_true rfl) (Nat.le_of_ble_eq_true rfl) dX2_takeNumber_63 ?_
      obtain ⟨a2, ha2, ea2, em2⟩ := p_num_cap (p := p) (f := f) (k := i) ha ea (p_to_dg (f := p_fr p t) hs (by omega) (show _ < p_pos p (t + 1) by omega)) rfl
      refine q_eqi (nI (min a2 10000)) em2 ?_
      refine q_istore_n (lv' := [(2, .int (nI (min a2 10000))), (4, .int ((p_at p (f + i)) - 48)), (3, .int (nI i)), (0, .ref (c 0)), (1, .int hi)]) K dX2_takeNumber_66 (by decide) rfl ?_
      refine q_iinc (nI (i + 1)) (lv' := [(3, .int (nI (i + 1))), (2, .int (nI (min a2 10000))), (4, .int ((p_at p (f + i)) - 48)), (0, .ref (c 0)), (1, .int hi)]) K 2 dX2_takeNumber_67 rfl (kn_inc i) (by decide) rfl ?_
      refine q_goto 19 K dX2_takeNumber_70 (by decide) ?_
      refine q_lv [0, 1, 3, 4] rfl ?_
      exact ih_4 (n_2 - 1) (i + 1, a2) (by omega) ⟨by show i + 1 + (n_2 - 1) = e - f; omega, ha2, ea2⟩
  · refine q_iconst (-1) K dX2_takeNumber_13 rfl ?_
    exact Rt _ _ (-1) (w_T (k_Z M) c (t_of p (j_at J t))) dX2_takeNumber_14 rfl (Or.inr ⟨fun h9 => c_1 (c_srt_1.mpr h9.1), rfl, rfl⟩)
theorem kv_X2_takeNumber : k_iv yX2_takeNumber cX2_takeNumber 5 (some .int) 1 := ⟨⟨im_X2_takeNumber, se_X2_takeNumber⟩, in_X2, co_X2_takeNumber, by decide +kernel⟩
