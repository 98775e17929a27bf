set_option maxHeartbeats 4000000 in
set_option maxRecDepth 100000 in
theorem c_X4_kindHere (l : Launch) (Z : kz_Z) (B : Nat → Nat) (X : AS) (D : DJ) (hq : (a_tp X).2 ≤ 120) (f e : Nat) (hfr : d_fr D = nI f) (hto : d_to D = nI e) (hfe : f ≤ e) (he : e ≤ 121) : KI l Z yX4_kindHere cX4_kindHere 1 .int 3 71 [.ref (B 0)] (w_M Z B X D) (fun r w2 => r = p_kd D (a_tp X) f e ∧ w2 = w_M Z B X D) := by
  refine ki_of (by decide) [(0, .ref (B 0))] (Nat.le_of_ble_eq_true rfl) rfl ?_
  intro M e1 e2 K Rt
  subst e1 e2
  refine q_aload_n K 0 dX4_kindHere_0 rfl ?_
  refine q_bipush 119 K dX4_kindHere_1 rfl ?_
  refine q_bipush 97 K dX4_kindHere_3 rfl ?_
  refine q_bipush 108 K dX4_kindHere_5 rfl ?_
  refine q_bipush 107 K dX4_kindHere_7 rfl ?_
  refine q_bipush 101 K dX4_kindHere_9 rfl ?_
  refine q_bipush 114 K dX4_kindHere_11 rfl ?_
  refine q_wI (q0 := 0) (As := [.int 119, .int 97, .int 108, .int 107, .int 101, .int 114]) (rest := []) K kv_X4_isSix (c_X4_isSix (k_l M) (k_Z M) B X D hq f e hfr hto hfe he 119 97 108 107 101 114) rfl rfl ml_X4_231 rfl rfl (Nat.le_of_ble_eq_true rfl) ⟨Nat.le_of_ble_eq_true rfl, Nat.le_of_ble_eq_true rfl⟩ dX4_kindHere_13 (fun r_2 w2 h_1 => ?_)
  obtain ⟨e_r_2, rfl⟩ := h_1
  refine q_if_eq 21 K dX4_kindHere_16 (by decide) (fun c_3 => ?_) (fun c_3 => ?_)
  · have c_3 : ¬ (p_wd D f e 6 ∧ p_w3 (a_tp X) f 0 119 97 108 ∧ p_w3 (a_tp X) f 3 107 101 114) := (kn_eq e_r_2).mp c_3
    have J_1 : ¬ (p_wd D f e 7 ∧ p_w3 (a_tp X) f 0 112 111 115 ∧ p_w3 (a_tp X) f 3 116 109 97 ∧ p_w3 (a_tp X) f 4 109 97 110) → kJ M 1 74 [(0, .ref (B 0))] [] (w_M (k_Z M) B X D) := by
      intro hn_1
      have J_2 : ¬ (p_wd D f e 3 ∧ p_w3 (a_tp X) f 0 100 111 103) → kJ M 1 98 [(0, .ref (B 0))] [] (w_M (k_Z M) B X D) := by
        intro hn_2
        refine q_aload_n K 0 dX4_kindHere_98 rfl ?_
        refine q_bipush 99 K dX4_kindHere_99 rfl ?_
        refine q_bipush 104 K dX4_kindHere_101 rfl ?_
        refine q_bipush 105 K dX4_kindHere_103 rfl ?_
        refine q_bipush 108 K dX4_kindHere_105 rfl ?_
        refine q_bipush 100 K dX4_kindHere_107 rfl ?_
        refine q_wI (q0 := 0) (As := [.int 99, .int 104, .int 105, .int 108, .int 100]) (rest := []) K kv_X4_isFive (c_X4_isFive (k_l M) (k_Z M) B X D hq f e hfr hto hfe he 99 104 105 108 100) rfl rfl ml_X4_235 rfl rfl (Nat.le_of_ble_eq_true rfl) ⟨Nat.le_of_ble_eq_true rfl, Nat.le_of_ble_eq_true rfl⟩ dX4_kindHere_109 (fun r_5 w2 h_4 => ?_)
        obtain ⟨e_r_5, rfl⟩ := h_4
        refine q_if_eq 117 K dX4_kindHere_112 (by decide) (fun c_6 => ?_) (fun c_6 => ?_)
        · have c_6 : ¬ (p_wd D f e 5 ∧ p_w3 (a_tp X) f 0 99 104 105 ∧ p_w3 (a_tp X) f 2 105 108 100) := (kn_eq e_r_5).mp c_6
          have J_4 : ¬ (p_wd D f e 8 ∧ p_w3 (a_tp X) f 0 115 116 114 ∧ p_w3 (a_tp X) f 3 97 110 103 ∧ p_w3 (a_tp X) f 5 103 101 114) → kJ M 1 170 [(0, .ref (B 0))] [] (w_M (k_Z M) B X D) := by
            intro hn_4
            refine q_aload_n K 0 dX4_kindHere_170 rfl ?_
            refine q_bipush 109 K dX4_kindHere_171 rfl ?_
            refine q_bipush 101 K dX4_kindHere_173 rfl ?_
            refine q_bipush 97 K dX4_kindHere_175 rfl ?_
            refine q_bipush 110 K dX4_kindHere_177 rfl ?_
            refine q_wI (q0 := 0) (As := [.int 109, .int 101, .int 97, .int 110]) (rest := []) K kv_X4_isFour (c_X4_isFour (k_l M) (k_Z M) B X D hq f e hfr hto hfe he 109 101 97 110) rfl rfl ml_X4_239 rfl rfl (Nat.le_of_ble_eq_true rfl) ⟨Nat.le_of_ble_eq_true rfl, Nat.le_of_ble_eq_true rfl⟩ dX4_kindHere_179 (fun r_8 w2 h_7 => ?_)
            obtain ⟨e_r_8, rfl⟩ := h_7
            refine q_if_eq 187 K dX4_kindHere_182 (by decide) (fun c_9 => ?_) (fun c_9 => ?_)
            · have c_9 : ¬ (p_wd D f e 4 ∧ p_w3 (a_tp X) f 0 109 101 97 ∧ p_w3 (a_tp X) f 1 101 97 110) := (kn_eq e_r_8).mp c_9
              have J_6 : ¬ (p_wd D f e 8 ∧ p_w3 (a_tp X) f 0 100 97 117 ∧ p_w3 (a_tp X) f 3 103 104 116 ∧ p_w3 (a_tp X) f 5 116 101 114) → kJ M 1 243 [(0, .ref (B 0))] [] (w_M (k_Z M) B X D) := by
                intro hn_6
                refine q_iconst (-1) K dX4_kindHere_243 rfl ?_
                exact Rt _ _ (-1) (w_M (k_Z M) B X D) dX4_kindHere_244 rfl (⟨by simp only [p_kd, if_neg (fun h9 => c_3 (wf_0.mpr h9)), if_neg (fun h9 => hn_1 (wf_1.mpr h9)), if_neg (fun h9 => hn_2 (wf_2.mpr h9)), if_neg (fun h9 => c_6 (wf_3.mpr h9)), if_neg (fun h9 => hn_4 (wf_4.mpr h9)), if_neg (fun h9 => c_9 (wf_5.mpr h9)), if_neg (fun h9 => hn_6 (wf_6.mpr h9))], rfl⟩)
              refine q_aload_n K 0 dX4_kindHere_187 rfl ?_
              refine q_bipush 8 K dX4_kindHere_188 rfl ?_
              refine q_wI (q0 := 0) (As := [.int 8]) (rest := []) K kv_X4_isWord (c_X4_isWord (k_l M) (k_Z M) B X D hq f e hfr hto hfe he 8 (by omega)) rfl rfl ml_X4_221 rfl rfl (Nat.le_of_ble_eq_true rfl) ⟨Nat.le_of_ble_eq_true rfl, Nat.le_of_ble_eq_true rfl⟩ dX4_kindHere_190 (fun r_11 w2 h_10 => ?_)
              obtain ⟨e_r_11, rfl⟩ := h_10
              refine q_if_eq 243 K dX4_kindHere_193 (by decide) (fun c_12 => ?_) (fun c_12 => ?_)
              · have c_12 : ¬ (p_wd D f e 8) := (kn_eq e_r_11).mp c_12
                exact J_6 (fun h9 => c_12 h9.1)
              · have c_12 : p_wd D f e 8 := (kn_ne e_r_11).mp c_12
                refine q_aload_n K 0 dX4_kindHere_196 rfl ?_
                refine q_iconst 0 K dX4_kindHere_197 rfl ?_
                refine q_bipush 100 K dX4_kindHere_198 rfl ?_
                refine q_bipush 97 K dX4_kindHere_200 rfl ?_
                refine q_bipush 117 K dX4_kindHere_202 rfl ?_
                refine q_wI (q0 := 0) (As := [.int 0, .int 100, .int 97, .int 117]) (rest := []) K kv_X4_has3 (c_X4_has3 (k_l M) (k_Z M) B X D hq f e hfr hto hfe he 0 (by omega) 100 97 117) rfl rfl ml_X4_224 rfl rfl (Nat.le_of_ble_eq_true rfl) ⟨Nat.le_of_ble_eq_true rfl, Nat.le_of_ble_eq_true rfl⟩ dX4_kindHere_204 (fun r_14 w2 h_13 => ?_)
                obtain ⟨e_r_14, rfl⟩ := h_13
                refine q_if_eq 243 K dX4_kindHere_207 (by decide) (fun c_15 => ?_) (fun c_15 => ?_)
                · have c_15 : ¬ (p_w3 (a_tp X) f 0 100 97 117) := (kn_eq e_r_14).mp c_15
                  exact J_6 (fun h9 => c_15 h9.2.1)
                · have c_15 : p_w3 (a_tp X) f 0 100 97 117 := (kn_ne e_r_14).mp c_15
                  refine q_aload_n K 0 dX4_kindHere_210 rfl ?_
                  refine q_iconst 3 K dX4_kindHere_211 rfl ?_
                  refine q_bipush 103 K dX4_kindHere_212 rfl ?_
                  refine q_bipush 104 K dX4_kindHere_214 rfl ?_
                  refine q_bipush 116 K dX4_kindHere_216 rfl ?_
                  refine q_wI (q0 := 0) (As := [.int 3, .int 103, .int 104, .int 116]) (rest := []) K kv_X4_has3 (c_X4_has3 (k_l M) (k_Z M) B X D hq f e hfr hto hfe he 3 (by omega) 103 104 116) rfl rfl ml_X4_224 rfl rfl (Nat.le_of_ble_eq_true rfl) ⟨Nat.le_of_ble_eq_true rfl, Nat.le_of_ble_eq_true rfl⟩ dX4_kindHere_218 (fun r_17 w2 h_16 => ?_)
                  obtain ⟨e_r_17, rfl⟩ := h_16
                  refine q_if_eq 243 K dX4_kindHere_221 (by decide) (fun c_18 => ?_) (fun c_18 => ?_)
                  · have c_18 : ¬ (p_w3 (a_tp X) f 3 103 104 116) := (kn_eq e_r_17).mp c_18
                    exact J_6 (fun h9 => c_18 h9.2.2.1)
                  · have c_18 : p_w3 (a_tp X) f 3 103 104 116 := (kn_ne e_r_17).mp c_18
                    refine q_aload_n K 0 dX4_kindHere_224 rfl ?_
                    refine q_iconst 5 K dX4_kindHere_225 rfl ?_
                    refine q_bipush 116 K dX4_kindHere_226 rfl ?_
                    refine q_bipush 101 K dX4_kindHere_228 rfl ?_
                    refine q_bipush 114 K dX4_kindHere_230 rfl ?_
                    refine q_wI (q0 := 0) (As := [.int 5, .int 116, .int 101, .int 114]) (rest := []) K kv_X4_has3 (c_X4_has3 (k_l M) (k_Z M) B X D hq f e hfr hto hfe he 5 (by omega) 116 101 114) rfl rfl ml_X4_224 rfl rfl (Nat.le_of_ble_eq_true rfl) ⟨Nat.le_of_ble_eq_true rfl, Nat.le_of_ble_eq_true rfl⟩ dX4_kindHere_232 (fun r_20 w2 h_19 => ?_)
                    obtain ⟨e_r_20, rfl⟩ := h_19
                    refine q_if_eq 243 K dX4_kindHere_235 (by decide) (fun c_21 => ?_) (fun c_21 => ?_)
                    · have c_21 : ¬ (p_w3 (a_tp X) f 5 116 101 114) := (kn_eq e_r_20).mp c_21
                      exact J_6 (fun h9 => c_21 h9.2.2.2)
                    · have c_21 : p_w3 (a_tp X) f 5 116 101 114 := (kn_ne e_r_20).mp c_21
                      refine q_bipush 6 K dX4_kindHere_238 rfl ?_
                      refine q_goto 244 K dX4_kindHere_240 (by decide) ?_
                      exact Rt _ _ 6 (w_M (k_Z M) B X D) dX4_kindHere_244 rfl (⟨by simp only [p_kd, if_neg (fun h9 => c_3 (wf_0.mpr h9)), if_neg (fun h9 => hn_1 (wf_1.mpr h9)), if_neg (fun h9 => hn_2 (wf_2.mpr h9)), if_neg (fun h9 => c_6 (wf_3.mpr h9)), if_neg (fun h9 => hn_4 (wf_4.mpr h9)), if_neg (fun h9 => c_9 (wf_5.mpr h9)), if_pos (wf_6.mp ⟨c_12, c_15, c_18, c_21⟩)], rfl⟩)
            · have c_9 : p_wd D f e 4 ∧ p_w3 (a_tp X) f 0 109 101 97 ∧ p_w3 (a_tp X) f 1 101 97 110 := (kn_ne e_r_8).mp c_9
              refine q_iconst 5 K dX4_kindHere_185 rfl ?_
              exact Rt _ _ 5 (w_M (k_Z M) B X D) dX4_kindHere_186 rfl (⟨by simp only [p_kd, if_neg (fun h9 => c_3 (wf_0.mpr h9)), if_neg (fun h9 => hn_1 (wf_1.mpr h9)), if_neg (fun h9 => hn_2 (wf_2.mpr h9)), if_neg (fun h9 => c_6 (wf_3.mpr h9)), if_neg (fun h9 => hn_4 (wf_4.mpr h9)), if_pos (wf_5.mp c_9)], rfl⟩)
          refine q_aload_n K 0 dX4_kindHere_117 rfl ?_
          refine q_bipush 8 K dX4_kindHere_118 rfl ?_
          refine q_wI (q0 := 0) (As := [.int 8]) (rest := []) K kv_X4_isWord (c_X4_isWord (k_l M) (k_Z M) B X D hq f e hfr hto hfe he 8 (by omega)) rfl rfl ml_X4_221 rfl rfl (Nat.le_of_ble_eq_true rfl) ⟨Nat.le_of_ble_eq_true rfl, Nat.le_of_ble_eq_true rfl⟩ dX4_kindHere_120 (fun r_23 w2 h_22 => ?_)
          obtain ⟨e_r_23, rfl⟩ := h_22
          refine q_if_eq 170 K dX4_kindHere_123 (by decide) (fun c_24 => ?_) (fun c_24 => ?_)
          · have c_24 : ¬ (p_wd D f e 8) := (kn_eq e_r_23).mp c_24
            exact J_4 (fun h9 => c_24 h9.1)
          · have c_24 : p_wd D f e 8 := (kn_ne e_r_23).mp c_24
            refine q_aload_n K 0 dX4_kindHere_126 rfl ?_
            refine q_iconst 0 K dX4_kindHere_127 rfl ?_
            refine q_bipush 115 K dX4_kindHere_128 rfl ?_
            refine q_bipush 116 K dX4_kindHere_130 rfl ?_
            refine q_bipush 114 K dX4_kindHere_132 rfl ?_
            refine q_wI (q0 := 0) (As := [.int 0, .int 115, .int 116, .int 114]) (rest := []) K kv_X4_has3 (c_X4_has3 (k_l M) (k_Z M) B X D hq f e hfr hto hfe he 0 (by omega) 115 116 114) rfl rfl ml_X4_224 rfl rfl (Nat.le_of_ble_eq_true rfl) ⟨Nat.le_of_ble_eq_true rfl, Nat.le_of_ble_eq_true rfl⟩ dX4_kindHere_134 (fun r_26 w2 h_25 => ?_)
            obtain ⟨e_r_26, rfl⟩ := h_25
            refine q_if_eq 170 K dX4_kindHere_137 (by decide) (fun c_27 => ?_) (fun c_27 => ?_)
            · have c_27 : ¬ (p_w3 (a_tp X) f 0 115 116 114) := (kn_eq e_r_26).mp c_27
              exact J_4 (fun h9 => c_27 h9.2.1)
            · have c_27 : p_w3 (a_tp X) f 0 115 116 114 := (kn_ne e_r_26).mp c_27
              refine q_aload_n K 0 dX4_kindHere_140 rfl ?_
              refine q_iconst 3 K dX4_kindHere_141 rfl ?_
              refine q_bipush 97 K dX4_kindHere_142 rfl ?_
              refine q_bipush 110 K dX4_kindHere_144 rfl ?_
              refine q_bipush 103 K dX4_kindHere_146 rfl ?_
              refine q_wI (q0 := 0) (As := [.int 3, .int 97, .int 110, .int 103]) (rest := []) K kv_X4_has3 (c_X4_has3 (k_l M) (k_Z M) B X D hq f e hfr hto hfe he 3 (by omega) 97 110 103) rfl rfl ml_X4_224 rfl rfl (Nat.le_of_ble_eq_true rfl) ⟨Nat.le_of_ble_eq_true rfl, Nat.le_of_ble_eq_true rfl⟩ dX4_kindHere_148 (fun r_29 w2 h_28 => ?_)
              obtain ⟨e_r_29, rfl⟩ := h_28
              refine q_if_eq 170 K dX4_kindHere_151 (by decide) (fun c_30 => ?_) (fun c_30 => ?_)
              · have c_30 : ¬ (p_w3 (a_tp X) f 3 97 110 103) := (kn_eq e_r_29).mp c_30
                exact J_4 (fun h9 => c_30 h9.2.2.1)
              · have c_30 : p_w3 (a_tp X) f 3 97 110 103 := (kn_ne e_r_29).mp c_30
                refine q_aload_n K 0 dX4_kindHere_154 rfl ?_
                refine q_iconst 5 K dX4_kindHere_155 rfl ?_
                refine q_bipush 103 K dX4_kindHere_156 rfl ?_
                refine q_bipush 101 K dX4_kindHere_158 rfl ?_
                refine q_bipush 114 K dX4_kindHere_160 rfl ?_
                refine q_wI (q0 := 0) (As := [.int 5, .int 103, .int 101, .int 114]) (rest := []) K kv_X4_has3 (c_X4_has3 (k_l M) (k_Z M) B X D hq f e hfr hto hfe he 5 (by omega) 103 101 114) rfl rfl ml_X4_224 rfl rfl (Nat.le_of_ble_eq_true rfl) ⟨Nat.le_of_ble_eq_true rfl, Nat.le_of_ble_eq_true rfl⟩ dX4_kindHere_162 (fun r_32 w2 h_31 => ?_)
                obtain ⟨e_r_32, rfl⟩ := h_31
                refine q_if_eq 170 K dX4_kindHere_165 (by decide) (fun c_33 => ?_) (fun c_33 => ?_)
                · have c_33 : ¬ (p_w3 (a_tp X) f 5 103 101 114) := (kn_eq e_r_32).mp c_33
                  exact J_4 (fun h9 => c_33 h9.2.2.2)
                · have c_33 : p_w3 (a_tp X) f 5 103 101 114 := (kn_ne e_r_32).mp c_33
                  refine q_iconst 4 K dX4_kindHere_168 rfl ?_
                  exact Rt _ _ 4 (w_M (k_Z M) B X D) dX4_kindHere_169 rfl (⟨by simp only [p_kd, if_neg (fun h9 => c_3 (wf_0.mpr h9)), if_neg (fun h9 => hn_1 (wf_1.mpr h9)), if_neg (fun h9 => hn_2 (wf_2.mpr h9)), if_neg (fun h9 => c_6 (wf_3.mpr h9)), if_pos (wf_4.mp ⟨c_24, c_27, c_30, c_33⟩)], rfl⟩)
        · have c_6 : p_wd D f e 5 ∧ p_w3 (a_tp X) f 0 99 104 105 ∧ p_w3 (a_tp X) f 2 105 108 100 := (kn_ne e_r_5).mp c_6
          refine q_iconst 3 K dX4_kindHere_115 rfl ?_
          exact Rt _ _ 3 (w_M (k_Z M) B X D) dX4_kindHere_116 rfl (⟨by simp only [p_kd, if_neg (fun h9 => c_3 (wf_0.mpr h9)), if_neg (fun h9 => hn_1 (wf_1.mpr h9)), if_neg (fun h9 => hn_2 (wf_2.mpr h9)), if_pos (wf_3.mp c_6)], rfl⟩)
      refine q_aload_n K 0 dX4_kindHere_74 rfl ?_
      refine q_iconst 3 K dX4_kindHere_75 rfl ?_
      refine q_wI (q0 := 0) (As := [.int 3]) (rest := []) K kv_X4_isWord (c_X4_isWord (k_l M) (k_Z M) B X D hq f e hfr hto hfe he 3 (by omega)) rfl rfl ml_X4_221 rfl rfl (Nat.le_of_ble_eq_true rfl) ⟨Nat.le_of_ble_eq_true rfl, Nat.le_of_ble_eq_true rfl⟩ dX4_kindHere_76 (fun r_35 w2 h_34 => ?_)
      obtain ⟨e_r_35, rfl⟩ := h_34
      refine q_if_eq 98 K dX4_kindHere_79 (by decide) (fun c_36 => ?_) (fun c_36 => ?_)
      · have c_36 : ¬ (p_wd D f e 3) := (kn_eq e_r_35).mp c_36
        exact J_2 (fun h9 => c_36 h9.1)
      · have c_36 : p_wd D f e 3 := (kn_ne e_r_35).mp c_36
        refine q_aload_n K 0 dX4_kindHere_82 rfl ?_
        refine q_iconst 0 K dX4_kindHere_83 rfl ?_
        refine q_bipush 100 K dX4_kindHere_84 rfl ?_
        refine q_bipush 111 K dX4_kindHere_86 rfl ?_
        refine q_bipush 103 K dX4_kindHere_88 rfl ?_
        refine q_wI (q0 := 0) (As := [.int 0, .int 100, .int 111, .int 103]) (rest := []) K kv_X4_has3 (c_X4_has3 (k_l M) (k_Z M) B X D hq f e hfr hto hfe he 0 (by omega) 100 111 103) rfl rfl ml_X4_224 rfl rfl (Nat.le_of_ble_eq_true rfl) ⟨Nat.le_of_ble_eq_true rfl, Nat.le_of_ble_eq_true rfl⟩ dX4_kindHere_90 (fun r_38 w2 h_37 => ?_)
        obtain ⟨e_r_38, rfl⟩ := h_37
        refine q_if_eq 98 K dX4_kindHere_93 (by decide) (fun c_39 => ?_) (fun c_39 => ?_)
        · have c_39 : ¬ (p_w3 (a_tp X) f 0 100 111 103) := (kn_eq e_r_38).mp c_39
          exact J_2 (fun h9 => c_39 h9.2)
        · have c_39 : p_w3 (a_tp X) f 0 100 111 103 := (kn_ne e_r_38).mp c_39
          refine q_iconst 2 K dX4_kindHere_96 rfl ?_
          exact Rt _ _ 2 (w_M (k_Z M) B X D) dX4_kindHere_97 rfl (⟨by simp only [p_kd, if_neg (fun h9 => c_3 (wf_0.mpr h9)), if_neg (fun h9 => hn_1 (wf_1.mpr h9)), if_pos (wf_2.mp ⟨c_36, c_39⟩)], rfl⟩)
    refine q_aload_n K 0 dX4_kindHere_21 rfl ?_
    refine q_bipush 7 K dX4_kindHere_22 rfl ?_
    refine q_wI (q0 := 0) (As := [.int 7]) (rest := []) K kv_X4_isWord (c_X4_isWord (k_l M) (k_Z M) B X D hq f e hfr hto hfe he 7 (by omega)) rfl rfl ml_X4_221 rfl rfl (Nat.le_of_ble_eq_true rfl) ⟨Nat.le_of_ble_eq_true rfl, Nat.le_of_ble_eq_true rfl⟩ dX4_kindHere_24 (fun r_41 w2 h_40 => ?_)
    obtain ⟨e_r_41, rfl⟩ := h_40
    refine q_if_eq 74 K dX4_kindHere_27 (by decide) (fun c_42 => ?_) (fun c_42 => ?_)
    · have c_42 : ¬ (p_wd D f e 7) := (kn_eq e_r_41).mp c_42
      exact J_1 (fun h9 => c_42 h9.1)
    · have c_42 : p_wd D f e 7 := (kn_ne e_r_41).mp c_42
      refine q_aload_n K 0 dX4_kindHere_30 rfl ?_
      refine q_iconst 0 K dX4_kindHere_31 rfl ?_
      refine q_bipush 112 K dX4_kindHere_32 rfl ?_
      refine q_bipush 111 K dX4_kindHere_34 rfl ?_
      refine q_bipush 115 K dX4_kindHere_36 rfl ?_
      refine q_wI (q0 := 0) (As := [.int 0, .int 112, .int 111, .int 115]) (rest := []) K kv_X4_has3 (c_X4_has3 (k_l M) (k_Z M) B X D hq f e hfr hto hfe he 0 (by omega) 112 111 115) rfl rfl ml_X4_224 rfl rfl (Nat.le_of_ble_eq_true rfl) ⟨Nat.le_of_ble_eq_true rfl, Nat.le_of_ble_eq_true rfl⟩ dX4_kindHere_38 (fun r_44 w2 h_43 => ?_)
      obtain ⟨e_r_44, rfl⟩ := h_43
      refine q_if_eq 74 K dX4_kindHere_41 (by decide) (fun c_45 => ?_) (fun c_45 => ?_)
      · have c_45 : ¬ (p_w3 (a_tp X) f 0 112 111 115) := (kn_eq e_r_44).mp c_45
        exact J_1 (fun h9 => c_45 h9.2.1)
      · have c_45 : p_w3 (a_tp X) f 0 112 111 115 := (kn_ne e_r_44).mp c_45
        refine q_aload_n K 0 dX4_kindHere_44 rfl ?_
        refine q_iconst 3 K dX4_kindHere_45 rfl ?_
        refine q_bipush 116 K dX4_kindHere_46 rfl ?_
        refine q_bipush 109 K dX4_kindHere_48 rfl ?_
        refine q_bipush 97 K dX4_kindHere_50 rfl ?_
        refine q_wI (q0 := 0) (As := [.int 3, .int 116, .int 109, .int 97]) (rest := []) K kv_X4_has3 (c_X4_has3 (k_l M) (k_Z M) B X D hq f e hfr hto hfe he 3 (by omega) 116 109 97) rfl rfl ml_X4_224 rfl rfl (Nat.le_of_ble_eq_true rfl) ⟨Nat.le_of_ble_eq_true rfl, Nat.le_of_ble_eq_true rfl⟩ dX4_kindHere_52 (fun r_47 w2 h_46 => ?_)
        obtain ⟨e_r_47, rfl⟩ := h_46
        refine q_if_eq 74 K dX4_kindHere_55 (by decide) (fun c_48 => ?_) (fun c_48 => ?_)
        · have c_48 : ¬ (p_w3 (a_tp X) f 3 116 109 97) := (kn_eq e_r_47).mp c_48
          exact J_1 (fun h9 => c_48 h9.2.2.1)
        · have c_48 : p_w3 (a_tp X) f 3 116 109 97 := (kn_ne e_r_47).mp c_48
          refine q_aload_n K 0 dX4_kindHere_58 rfl ?_
          refine q_iconst 4 K dX4_kindHere_59 rfl ?_
          refine q_bipush 109 K dX4_kindHere_60 rfl ?_
          refine q_bipush 97 K dX4_kindHere_62 rfl ?_
          refine q_bipush 110 K dX4_kindHere_64 rfl ?_
          refine q_wI (q0 := 0) (As := [.int 4, .int 109, .int 97, .int 110]) (rest := []) K kv_X4_has3 (c_X4_has3 (k_l M) (k_Z M) B X D hq f e hfr hto hfe he 4 (by omega) 109 97 110) rfl rfl ml_X4_224 rfl rfl (Nat.le_of_ble_eq_true rfl) ⟨Nat.le_of_ble_eq_true rfl, Nat.le_of_ble_eq_true rfl⟩ dX4_kindHere_66 (fun r_50 w2 h_49 => ?_)
          obtain ⟨e_r_50, rfl⟩ := h_49
          refine q_if_eq 74 K dX4_kindHere_69 (by decide) (fun c_51 => ?_) (fun c_51 => ?_)
          · have c_51 : ¬ (p_w3 (a_tp X) f 4 109 97 110) := (kn_eq e_r_50).mp c_51
            exact J_1 (fun h9 => c_51 h9.2.2.2)
          · have c_51 : p_w3 (a_tp X) f 4 109 97 110 := (kn_ne e_r_50).mp c_51
            refine q_iconst 1 K dX4_kindHere_72 rfl ?_
            exact Rt _ _ 1 (w_M (k_Z M) B X D) dX4_kindHere_73 rfl (⟨by simp only [p_kd, if_neg (fun h9 => c_3 (wf_0.mpr h9)), if_pos (wf_1.mp ⟨c_42, c_45, c_48, c_51⟩)], rfl⟩)
  · have c_3 : p_wd D f e 6 ∧ p_w3 (a_tp X) f 0 119 97 108 ∧ p_w3 (a_tp X) f 3 107 101 114 := (kn_ne e_r_2).mp c_3
    refine q_iconst 0 K dX4_kindHere_19 rfl ?_
    exact Rt _ _ 0 (w_M (k_Z M) B X D) dX4_kindHere_20 rfl (⟨by simp only [p_kd, if_pos (wf_0.mp c_3)], rfl⟩)
theorem kv_X4_kindHere : k_iv yX4_kindHere cX4_kindHere 1 (some .int) 0 := ⟨⟨im_X4_kindHere, se_X4_kindHere⟩, in_X4, co_X4_kindHere, by decide +kernel⟩
set_option maxHeartbeats 4000000 in
set_option maxRecDepth 100000 in
theorem c_X4_standHere (l : Launch) (Z : kz_Z) (B : Nat → Nat) (X : AS) (D : DJ) (hq : (a_tp X).2 ≤ 120) (f e : Nat) (hfr : d_fr D = nI f) (hto : d_to D = nI e) (hfe : f ≤ e) (he : e ≤ 121) : KI l Z yX4_standHere cX4_standHere 1 .int 3 69 [.ref (B 0)] (w_M Z B X D) (fun r w2 => r = p_st D (a_tp X) f e ∧ w2 = w_M Z B X D) := by
  refine ki_of (by decide) [(0, .ref (B 0))] (Nat.le_of_ble_eq_true rfl) rfl ?_
  intro M e1 e2 K Rt
  subst e1 e2
  refine q_aload_n K 0 dX4_standHere_0 rfl ?_
  refine q_bipush 115 K dX4_standHere_1 rfl ?_
  refine q_bipush 104 K dX4_standHere_3 rfl ?_
  refine q_bipush 117 K dX4_standHere_5 rfl ?_
  refine q_bipush 116 K dX4_standHere_7 rfl ?_
  refine q_wI (q0 := 0) (As := [.int 115, .int 104, .int 117, .int 116]) (rest := []) K kv_X4_isFour (c_X4_isFour (k_l M) (k_Z M) B X D hq f e hfr hto hfe he 115 104 117 116) rfl rfl ml_X4_239 rfl rfl (Nat.le_of_ble_eq_true rfl) ⟨Nat.le_of_ble_eq_true rfl, Nat.le_of_ble_eq_true rfl⟩ dX4_standHere_9 (fun r_2 w2 h_1 => ?_)
  obtain ⟨e_r_2, rfl⟩ := h_1
  refine q_if_eq 17 K dX4_standHere_12 (by decide) (fun c_3 => ?_) (fun c_3 => ?_)
  · have c_3 : ¬ (p_wd D f e 4 ∧ p_w3 (a_tp X) f 0 115 104 117 ∧ p_w3 (a_tp X) f 1 104 117 116) := (kn_eq e_r_2).mp c_3
    refine q_aload_n K 0 dX4_standHere_17 rfl ?_
    refine q_bipush 97 K dX4_standHere_18 rfl ?_
    refine q_bipush 106 K dX4_standHere_20 rfl ?_
    refine q_bipush 97 K dX4_standHere_22 rfl ?_
    refine q_bipush 114 K dX4_standHere_24 rfl ?_
    refine q_wI (q0 := 0) (As := [.int 97, .int 106, .int 97, .int 114]) (rest := []) K kv_X4_isFour (c_X4_isFour (k_l M) (k_Z M) B X D hq f e hfr hto hfe he 97 106 97 114) rfl rfl ml_X4_239 rfl rfl (Nat.le_of_ble_eq_true rfl) ⟨Nat.le_of_ble_eq_true rfl, Nat.le_of_ble_eq_true rfl⟩ dX4_standHere_26 (fun r_5 w2 h_4 => ?_)
    obtain ⟨e_r_5, rfl⟩ := h_4
    refine q_if_eq 34 K dX4_standHere_29 (by decide) (fun c_6 => ?_) (fun c_6 => ?_)
    · have c_6 : ¬ (p_wd D f e 4 ∧ p_w3 (a_tp X) f 0 97 106 97 ∧ p_w3 (a_tp X) f 1 106 97 114) := (kn_eq e_r_5).mp c_6
      refine q_aload_n K 0 dX4_standHere_34 rfl ?_
      refine q_bipush 111 K dX4_standHere_35 rfl ?_
      refine q_bipush 112 K dX4_standHere_37 rfl ?_
      refine q_bipush 101 K dX4_standHere_39 rfl ?_
      refine q_bipush 110 K dX4_standHere_41 rfl ?_
      refine q_wI (q0 := 0) (As := [.int 111, .int 112, .int 101, .int 110]) (rest := []) K kv_X4_isFour (c_X4_isFour (k_l M) (k_Z M) B X D hq f e hfr hto hfe he 111 112 101 110) rfl rfl ml_X4_239 rfl rfl (Nat.le_of_ble_eq_true rfl) ⟨Nat.le_of_ble_eq_true rfl, Nat.le_of_ble_eq_true rfl⟩ dX4_standHere_43 (fun r_8 w2 h_7 => ?_)
      obtain ⟨e_r_8, rfl⟩ := h_7
      refine q_if_eq 51 K dX4_standHere_46 (by decide) (fun c_9 => ?_) (fun c_9 => ?_)
      · have c_9 : ¬ (p_wd D f e 4 ∧ p_w3 (a_tp X) f 0 111 112 101 ∧ p_w3 (a_tp X) f 1 112 101 110) := (kn_eq e_r_8).mp c_9
        have J_10 : ¬ (p_wd D f e 7 ∧ p_w3 (a_tp X) f 0 112 114 111 ∧ p_w3 (a_tp X) f 3 112 112 101 ∧ p_w3 (a_tp X) f 4 112 101 100) → kJ M 1 106 [(0, .ref (B 0))] [] (w_M (k_Z M) B X D) := by
          intro hn_10
          refine q_iconst (-1) K dX4_standHere_106 rfl ?_
          exact Rt _ _ (-1) (w_M (k_Z M) B X D) dX4_standHere_107 rfl (⟨by simp only [p_st, if_neg (fun h9 => c_3 (wf_7.mpr h9)), if_neg (fun h9 => c_6 (wf_8.mpr h9)), if_neg (fun h9 => c_9 (wf_9.mpr h9)), if_neg (fun h9 => hn_10 (wf_10.mpr h9))], rfl⟩)
        refine q_aload_n K 0 dX4_standHere_51 rfl ?_
        refine q_bipush 7 K dX4_standHere_52 rfl ?_
        refine q_wI (q0 := 0) (As := [.int 7]) (rest := []) K kv_X4_isWord (c_X4_isWord (k_l M) (k_Z M) B X D hq f e hfr hto hfe he 7 (by omega)) rfl rfl ml_X4_221 rfl rfl (Nat.le_of_ble_eq_true rfl) ⟨Nat.le_of_ble_eq_true rfl, Nat.le_of_ble_eq_true rfl⟩ dX4_standHere_54 (fun r_11 w2 h_10 => ?_)
        obtain ⟨e_r_11, rfl⟩ := h_10
        refine q_if_eq 106 K dX4_standHere_57 (by decide) (fun c_12 => ?_) (fun c_12 => ?_)
        · have c_12 : ¬ (p_wd D f e 7) := (kn_eq e_r_11).mp c_12
          exact J_10 (fun h9 => c_12 h9.1)
        · have c_12 : p_wd D f e 7 := (kn_ne e_r_11).mp c_12
          refine q_aload_n K 0 dX4_standHere_60 rfl ?_
          refine q_iconst 0 K dX4_standHere_61 rfl ?_
          refine q_bipush 112 K dX4_standHere_62 rfl ?_
          refine q_bipush 114 K dX4_standHere_64 rfl ?_
          refine q_bipush 111 K dX4_standHere_66 rfl ?_
          refine q_wI (q0 := 0) (As := [.int 0, .int 112, .int 114, .int 111]) (rest := []) K kv_X4_has3 (c_X4_has3 (k_l M) (k_Z M) B X D hq f e hfr hto hfe he 0 (by omega) 112 114 111) rfl rfl ml_X4_224 rfl rfl (Nat.le_of_ble_eq_true rfl) ⟨Nat.le_of_ble_eq_true rfl, Nat.le_of_ble_eq_true rfl⟩ dX4_standHere_68 (fun r_14 w2 h_13 => ?_)
          obtain ⟨e_r_14, rfl⟩ := h_13
          refine q_if_eq 106 K dX4_standHere_71 (by decide) (fun c_15 => ?_) (fun c_15 => ?_)
          · have c_15 : ¬ (p_w3 (a_tp X) f 0 112 114 111) := (kn_eq e_r_14).mp c_15
            exact J_10 (fun h9 => c_15 h9.2.1)
          · have c_15 : p_w3 (a_tp X) f 0 112 114 111 := (kn_ne e_r_14).mp c_15
            refine q_aload_n K 0 dX4_standHere_74 rfl ?_
            refine q_iconst 3 K dX4_standHere_75 rfl ?_
            refine q_bipush 112 K dX4_standHere_76 rfl ?_
            refine q_bipush 112 K dX4_standHere_78 rfl ?_
            refine q_bipush 101 K dX4_standHere_80 rfl ?_
            refine q_wI (q0 := 0) (As := [.int 3, .int 112, .int 112, .int 101]) (rest := []) K kv_X4_has3 (c_X4_has3 (k_l M) (k_Z M) B X D hq f e hfr hto hfe he 3 (by omega) 112 112 101) rfl rfl ml_X4_224 rfl rfl (Nat.le_of_ble_eq_true rfl) ⟨Nat.le_of_ble_eq_true rfl, Nat.le_of_ble_eq_true rfl⟩ dX4_standHere_82 (fun r_17 w2 h_16 => ?_)
            obtain ⟨e_r_17, rfl⟩ := h_16
            refine q_if_eq 106 K dX4_standHere_85 (by decide) (fun c_18 => ?_) (fun c_18 => ?_)
            · have c_18 : ¬ (p_w3 (a_tp X) f 3 112 112 101) := (kn_eq e_r_17).mp c_18
              exact J_10 (fun h9 => c_18 h9.2.2.1)
            · have c_18 : p_w3 (a_tp X) f 3 112 112 101 := (kn_ne e_r_17).mp c_18
              refine q_aload_n K 0 dX4_standHere_88 rfl ?_
              refine q_iconst 4 K dX4_standHere_89 rfl ?_
              refine q_bipush 112 K dX4_standHere_90 rfl ?_
              refine q_bipush 101 K dX4_standHere_92 rfl ?_
              refine q_bipush 100 K dX4_standHere_94 rfl ?_
              refine q_wI (q0 := 0) (As := [.int 4, .int 112, .int 101, .int 100]) (rest := []) K kv_X4_has3 (c_X4_has3 (k_l M) (k_Z M) B X D hq f e hfr hto hfe he 4 (by omega) 112 101 100) rfl rfl ml_X4_224 rfl rfl (Nat.le_of_ble_eq_true rfl) ⟨Nat.le_of_ble_eq_true rfl, Nat.le_of_ble_eq_true rfl⟩ dX4_standHere_96 (fun r_20 w2 h_19 => ?_)
              obtain ⟨e_r_20, rfl⟩ := h_19
              refine q_if_eq 106 K dX4_standHere_99 (by decide) (fun c_21 => ?_) (fun c_21 => ?_)
              · have c_21 : ¬ (p_w3 (a_tp X) f 4 112 101 100) := (kn_eq e_r_20).mp c_21
                exact J_10 (fun h9 => c_21 h9.2.2.2)
              · have c_21 : p_w3 (a_tp X) f 4 112 101 100 := (kn_ne e_r_20).mp c_21
                refine q_iconst 3 K dX4_standHere_102 rfl ?_
                refine q_goto 107 K dX4_standHere_103 (by decide) ?_
                exact Rt _ _ 3 (w_M (k_Z M) B X D) dX4_standHere_107 rfl (⟨by simp only [p_st, if_neg (fun h9 => c_3 (wf_7.mpr h9)), if_neg (fun h9 => c_6 (wf_8.mpr h9)), if_neg (fun h9 => c_9 (wf_9.mpr h9)), if_pos (wf_10.mp ⟨c_12, c_15, c_18, c_21⟩)], rfl⟩)
      · have c_9 : p_wd D f e 4 ∧ p_w3 (a_tp X) f 0 111 112 101 ∧ p_w3 (a_tp X) f 1 112 101 110 := (kn_ne e_r_8).mp c_9
        refine q_iconst 2 K dX4_standHere_49 rfl ?_
        exact Rt _ _ 2 (w_M (k_Z M) B X D) dX4_standHere_50 rfl (⟨by simp only [p_st, if_neg (fun h9 => c_3 (wf_7.mpr h9)), if_neg (fun h9 => c_6 (wf_8.mpr h9)), if_pos (wf_9.mp c_9)], rfl⟩)
    · have c_6 : p_wd D f e 4 ∧ p_w3 (a_tp X) f 0 97 106 97 ∧ p_w3 (a_tp X) f 1 106 97 114 := (kn_ne e_r_5).mp c_6
      refine q_iconst 1 K dX4_standHere_32 rfl ?_
      exact Rt _ _ 1 (w_M (k_Z M) B X D) dX4_standHere_33 rfl (⟨by simp only [p_st, if_neg (fun h9 => c_3 (wf_7.mpr h9)), if_pos (wf_8.mp c_6)], rfl⟩)
  · have c_3 : p_wd D f e 4 ∧ p_w3 (a_tp X) f 0 115 104 117 ∧ p_w3 (a_tp X) f 1 104 117 116 := (kn_ne e_r_2).mp c_3
    refine q_iconst 0 K dX4_standHere_15 rfl ?_
    exact Rt _ _ 0 (w_M (k_Z M) B X D) dX4_standHere_16 rfl (⟨by simp only [p_st, if_pos (wf_7.mp c_3)], rfl⟩)
theorem kv_X4_standHere : k_iv yX4_standHere cX4_standHere 1 (some .int) 0 := ⟨⟨im_X4_standHere, se_X4_standHere⟩, in_X4, co_X4_standHere, by decide +kernel⟩
