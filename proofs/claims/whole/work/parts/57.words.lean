/-! THE SIXTEEN WORDS -/
def p_len (k : Nat) : Nat := [6, 7, 3, 5, 8, 4, 8, 4, 4, 4, 7, 6, 4, 2, 4, 4].getD k 0
def p_spl (p : TP) (f k : Nat) : Nat → Bool
  | 0 => true
  | n + 1 => p_spl p f k n && decide (p_at p (f + n) = k_word (8 * k + n))
def p_isw (p : TP) (f e k : Nat) : Bool := decide (e = f + p_len k) && p_spl p f k (p_len k)
theorem spl_s {p : TP} {f k n : Nat} {c : Int32} (hc : k_word (8 * k + n) = c) (h : p_spl p f k n = true) (h2 : p_at p (f + n) = c) : p_spl p f k (n + 1) = true := by
  rw [p_spl, h, decide_eq_true (h2.trans hc.symm)]; rfl
theorem spl_l {p : TP} {f k n : Nat} (h : p_spl p f k (n + 1) = true) : p_spl p f k n = true := by
  rw [p_spl, Bool.and_eq_true] at h; exact h.1
theorem spl_r {p : TP} {f k n : Nat} {c : Int32} (hc : k_word (8 * k + n) = c) (h : p_spl p f k (n + 1) = true) : p_at p (f + n) = c := by
  rw [p_spl, Bool.and_eq_true] at h; exact (of_decide_eq_true h.2).trans hc
theorem isw_i {p : TP} {f e k : Nat} (h1 : e = f + p_len k) (h2 : p_spl p f k (p_len k) = true) : p_isw p f e k = true := by rw [p_isw, decide_eq_true h1, h2]; rfl
theorem isw_e {p : TP} {f e k : Nat} (h : p_isw p f e k = true) : e = f + p_len k ∧ p_spl p f k (p_len k) = true := by
  rw [p_isw, Bool.and_eq_true] at h; exact ⟨of_decide_eq_true h.1, h.2⟩
theorem k_let : k_letters = [119, 97, 108, 107, 101, 114, 32, 32, 112, 111, 115, 116, 109, 97, 110, 32, 100, 111, 103, 32, 32, 32, 32, 32, 99, 104, 105, 108, 100, 32, 32, 32, 115, 116, 114, 97, 110, 103, 101, 114, 109, 101, 97, 110, 32, 32, 32, 32, 100, 97, 117, 103, 104, 116, 101, 114, 115, 104, 117, 116, 32, 32, 32, 32, 97, 106, 97, 114, 32, 32, 32, 32, 111, 112, 101, 110, 32, 32, 32, 32, 112, 114, 111, 112, 112, 101, 100, 32, 98, 101, 97, 115, 116, 115, 32, 32, 119, 105, 110, 100, 32, 32, 32, 32, 105, 110, 32, 32, 32, 32, 32, 32, 98, 97, 99, 107, 32, 32, 32, 32, 109, 111, 111, 100, 32, 32, 32, 32] := by decide +kernel
theorem kw_0_0 : k_word (8 * 0 + 0) = 119 := by rw [k_word, k_let]; rfl
theorem kw_0_1 : k_word (8 * 0 + 1) = 97 := by rw [k_word, k_let]; rfl
theorem kw_0_2 : k_word (8 * 0 + 2) = 108 := by rw [k_word, k_let]; rfl
theorem kw_0_3 : k_word (8 * 0 + 3) = 107 := by rw [k_word, k_let]; rfl
theorem kw_0_4 : k_word (8 * 0 + 4) = 101 := by rw [k_word, k_let]; rfl
theorem kw_0_5 : k_word (8 * 0 + 5) = 114 := by rw [k_word, k_let]; rfl
theorem kw_1_0 : k_word (8 * 1 + 0) = 112 := by rw [k_word, k_let]; rfl
theorem kw_1_1 : k_word (8 * 1 + 1) = 111 := by rw [k_word, k_let]; rfl
theorem kw_1_2 : k_word (8 * 1 + 2) = 115 := by rw [k_word, k_let]; rfl
theorem kw_1_3 : k_word (8 * 1 + 3) = 116 := by rw [k_word, k_let]; rfl
theorem kw_1_4 : k_word (8 * 1 + 4) = 109 := by rw [k_word, k_let]; rfl
theorem kw_1_5 : k_word (8 * 1 + 5) = 97 := by rw [k_word, k_let]; rfl
theorem kw_1_6 : k_word (8 * 1 + 6) = 110 := by rw [k_word, k_let]; rfl
theorem kw_2_0 : k_word (8 * 2 + 0) = 100 := by rw [k_word, k_let]; rfl
theorem kw_2_1 : k_word (8 * 2 + 1) = 111 := by rw [k_word, k_let]; rfl
theorem kw_2_2 : k_word (8 * 2 + 2) = 103 := by rw [k_word, k_let]; rfl
theorem kw_3_0 : k_word (8 * 3 + 0) = 99 := by rw [k_word, k_let]; rfl
theorem kw_3_1 : k_word (8 * 3 + 1) = 104 := by rw [k_word, k_let]; rfl
theorem kw_3_2 : k_word (8 * 3 + 2) = 105 := by rw [k_word, k_let]; rfl
theorem kw_3_3 : k_word (8 * 3 + 3) = 108 := by rw [k_word, k_let]; rfl
theorem kw_3_4 : k_word (8 * 3 + 4) = 100 := by rw [k_word, k_let]; rfl
theorem kw_4_0 : k_word (8 * 4 + 0) = 115 := by rw [k_word, k_let]; rfl
theorem kw_4_1 : k_word (8 * 4 + 1) = 116 := by rw [k_word, k_let]; rfl
theorem kw_4_2 : k_word (8 * 4 + 2) = 114 := by rw [k_word, k_let]; rfl
theorem kw_4_3 : k_word (8 * 4 + 3) = 97 := by rw [k_word, k_let]; rfl
theorem kw_4_4 : k_word (8 * 4 + 4) = 110 := by rw [k_word, k_let]; rfl
theorem kw_4_5 : k_word (8 * 4 + 5) = 103 := by rw [k_word, k_let]; rfl
theorem kw_4_6 : k_word (8 * 4 + 6) = 101 := by rw [k_word, k_let]; rfl
theorem kw_4_7 : k_word (8 * 4 + 7) = 114 := by rw [k_word, k_let]; rfl
theorem kw_5_0 : k_word (8 * 5 + 0) = 109 := by rw [k_word, k_let]; rfl
theorem kw_5_1 : k_word (8 * 5 + 1) = 101 := by rw [k_word, k_let]; rfl
theorem kw_5_2 : k_word (8 * 5 + 2) = 97 := by rw [k_word, k_let]; rfl
theorem kw_5_3 : k_word (8 * 5 + 3) = 110 := by rw [k_word, k_let]; rfl
theorem kw_6_0 : k_word (8 * 6 + 0) = 100 := by rw [k_word, k_let]; rfl
theorem kw_6_1 : k_word (8 * 6 + 1) = 97 := by rw [k_word, k_let]; rfl
theorem kw_6_2 : k_word (8 * 6 + 2) = 117 := by rw [k_word, k_let]; rfl
theorem kw_6_3 : k_word (8 * 6 + 3) = 103 := by rw [k_word, k_let]; rfl
theorem kw_6_4 : k_word (8 * 6 + 4) = 104 := by rw [k_word, k_let]; rfl
theorem kw_6_5 : k_word (8 * 6 + 5) = 116 := by rw [k_word, k_let]; rfl
theorem kw_6_6 : k_word (8 * 6 + 6) = 101 := by rw [k_word, k_let]; rfl
theorem kw_6_7 : k_word (8 * 6 + 7) = 114 := by rw [k_word, k_let]; rfl
theorem kw_7_0 : k_word (8 * 7 + 0) = 115 := by rw [k_word, k_let]; rfl
theorem kw_7_1 : k_word (8 * 7 + 1) = 104 := by rw [k_word, k_let]; rfl
theorem kw_7_2 : k_word (8 * 7 + 2) = 117 := by rw [k_word, k_let]; rfl
theorem kw_7_3 : k_word (8 * 7 + 3) = 116 := by rw [k_word, k_let]; rfl
theorem kw_8_0 : k_word (8 * 8 + 0) = 97 := by rw [k_word, k_let]; rfl
theorem kw_8_1 : k_word (8 * 8 + 1) = 106 := by rw [k_word, k_let]; rfl
theorem kw_8_2 : k_word (8 * 8 + 2) = 97 := by rw [k_word, k_let]; rfl
theorem kw_8_3 : k_word (8 * 8 + 3) = 114 := by rw [k_word, k_let]; rfl
theorem kw_9_0 : k_word (8 * 9 + 0) = 111 := by rw [k_word, k_let]; rfl
theorem kw_9_1 : k_word (8 * 9 + 1) = 112 := by rw [k_word, k_let]; rfl
theorem kw_9_2 : k_word (8 * 9 + 2) = 101 := by rw [k_word, k_let]; rfl
theorem kw_9_3 : k_word (8 * 9 + 3) = 110 := by rw [k_word, k_let]; rfl
theorem kw_10_0 : k_word (8 * 10 + 0) = 112 := by rw [k_word, k_let]; rfl
theorem kw_10_1 : k_word (8 * 10 + 1) = 114 := by rw [k_word, k_let]; rfl
theorem kw_10_2 : k_word (8 * 10 + 2) = 111 := by rw [k_word, k_let]; rfl
theorem kw_10_3 : k_word (8 * 10 + 3) = 112 := by rw [k_word, k_let]; rfl
theorem kw_10_4 : k_word (8 * 10 + 4) = 112 := by rw [k_word, k_let]; rfl
theorem kw_10_5 : k_word (8 * 10 + 5) = 101 := by rw [k_word, k_let]; rfl
theorem kw_10_6 : k_word (8 * 10 + 6) = 100 := by rw [k_word, k_let]; rfl
theorem kw_11_0 : k_word (8 * 11 + 0) = 98 := by rw [k_word, k_let]; rfl
theorem kw_11_1 : k_word (8 * 11 + 1) = 101 := by rw [k_word, k_let]; rfl
theorem kw_11_2 : k_word (8 * 11 + 2) = 97 := by rw [k_word, k_let]; rfl
theorem kw_11_3 : k_word (8 * 11 + 3) = 115 := by rw [k_word, k_let]; rfl
theorem kw_11_4 : k_word (8 * 11 + 4) = 116 := by rw [k_word, k_let]; rfl
theorem kw_11_5 : k_word (8 * 11 + 5) = 115 := by rw [k_word, k_let]; rfl
theorem kw_12_0 : k_word (8 * 12 + 0) = 119 := by rw [k_word, k_let]; rfl
theorem kw_12_1 : k_word (8 * 12 + 1) = 105 := by rw [k_word, k_let]; rfl
theorem kw_12_2 : k_word (8 * 12 + 2) = 110 := by rw [k_word, k_let]; rfl
theorem kw_12_3 : k_word (8 * 12 + 3) = 100 := by rw [k_word, k_let]; rfl
theorem kw_13_0 : k_word (8 * 13 + 0) = 105 := by rw [k_word, k_let]; rfl
theorem kw_13_1 : k_word (8 * 13 + 1) = 110 := by rw [k_word, k_let]; rfl
theorem kw_14_0 : k_word (8 * 14 + 0) = 98 := by rw [k_word, k_let]; rfl
theorem kw_14_1 : k_word (8 * 14 + 1) = 97 := by rw [k_word, k_let]; rfl
theorem kw_14_2 : k_word (8 * 14 + 2) = 99 := by rw [k_word, k_let]; rfl
theorem kw_14_3 : k_word (8 * 14 + 3) = 107 := by rw [k_word, k_let]; rfl
theorem kw_15_0 : k_word (8 * 15 + 0) = 109 := by rw [k_word, k_let]; rfl
theorem kw_15_1 : k_word (8 * 15 + 1) = 111 := by rw [k_word, k_let]; rfl
theorem kw_15_2 : k_word (8 * 15 + 2) = 111 := by rw [k_word, k_let]; rfl
theorem kw_15_3 : k_word (8 * 15 + 3) = 100 := by rw [k_word, k_let]; rfl
theorem wf_0 {p : TP} {D : DJ} {f e : Nat} : (p_wd D f e 6 ∧ p_w3 p f 0 119 97 108 ∧ p_w3 p f 3 107 101 114) ↔ (d_tk D = 1 ∧ p_isw p f e 0 = true) := by
  constructor
  · rintro ⟨⟨t, q⟩, ⟨a0, a1, a2⟩, ⟨a3, a4, a5⟩⟩
    exact ⟨t, isw_i q (spl_s kw_0_5 (spl_s kw_0_4 (spl_s kw_0_3 (spl_s kw_0_2 (spl_s kw_0_1 (spl_s kw_0_0 rfl a0) a1) a2) a3) a4) a5)⟩
  · rintro ⟨t, h⟩
    obtain ⟨q, g6⟩ := isw_e h
    have b5 : p_at p (f + 5) = 114 := spl_r kw_0_5 g6
    have g5 : p_spl p f 0 5 = true := spl_l g6
    have b4 : p_at p (f + 4) = 101 := spl_r kw_0_4 g5
    have g4 : p_spl p f 0 4 = true := spl_l g5
    have b3 : p_at p (f + 3) = 107 := spl_r kw_0_3 g4
    have g3 : p_spl p f 0 3 = true := spl_l g4
    have b2 : p_at p (f + 2) = 108 := spl_r kw_0_2 g3
    have g2 : p_spl p f 0 2 = true := spl_l g3
    have b1 : p_at p (f + 1) = 97 := spl_r kw_0_1 g2
    have g1 : p_spl p f 0 1 = true := spl_l g2
    have b0 : p_at p (f + 0) = 119 := spl_r kw_0_0 g1
    exact ⟨⟨t, q⟩, ⟨b0, b1, b2⟩, ⟨b3, b4, b5⟩⟩
theorem wf_1 {p : TP} {D : DJ} {f e : Nat} : (p_wd D f e 7 ∧ p_w3 p f 0 112 111 115 ∧ p_w3 p f 3 116 109 97 ∧ p_w3 p f 4 109 97 110) ↔ (d_tk D = 1 ∧ p_isw p f e 1 = true) := by
  constructor
  · rintro ⟨⟨t, q⟩, ⟨a0, a1, a2⟩, ⟨a3, a4, a5⟩, ⟨_, _, a6⟩⟩
    exact ⟨t, isw_i q (spl_s kw_1_6 (spl_s kw_1_5 (spl_s kw_1_4 (spl_s kw_1_3 (spl_s kw_1_2 (spl_s kw_1_1 (spl_s kw_1_0 rfl a0) a1) a2) a3) a4) a5) a6)⟩
  · rintro ⟨t, h⟩
    obtain ⟨q, g7⟩ := isw_e h
    have b6 : p_at p (f + 6) = 110 := spl_r kw_1_6 g7
    have g6 : p_spl p f 1 6 = true := spl_l g7
    have b5 : p_at p (f + 5) = 97 := spl_r kw_1_5 g6
    have g5 : p_spl p f 1 5 = true := spl_l g6
    have b4 : p_at p (f + 4) = 109 := spl_r kw_1_4 g5
    have g4 : p_spl p f 1 4 = true := spl_l g5
    have b3 : p_at p (f + 3) = 116 := spl_r kw_1_3 g4
    have g3 : p_spl p f 1 3 = true := spl_l g4
    have b2 : p_at p (f + 2) = 115 := spl_r kw_1_2 g3
    have g2 : p_spl p f 1 2 = true := spl_l g3
    have b1 : p_at p (f + 1) = 111 := spl_r kw_1_1 g2
    have g1 : p_spl p f 1 1 = true := spl_l g2
    have b0 : p_at p (f + 0) = 112 := spl_r kw_1_0 g1
    exact ⟨⟨t, q⟩, ⟨b0, b1, b2⟩, ⟨b3, b4, b5⟩, ⟨b4, b5, b6⟩⟩
theorem wf_2 {p : TP} {D : DJ} {f e : Nat} : (p_wd D f e 3 ∧ p_w3 p f 0 100 111 103) ↔ (d_tk D = 1 ∧ p_isw p f e 2 = true) := by
  constructor
  · rintro ⟨⟨t, q⟩, ⟨a0, a1, a2⟩⟩
    exact ⟨t, isw_i q (spl_s kw_2_2 (spl_s kw_2_1 (spl_s kw_2_0 rfl a0) a1) a2)⟩
  · rintro ⟨t, h⟩
    obtain ⟨q, g3⟩ := isw_e h
    have b2 : p_at p (f + 2) = 103 := spl_r kw_2_2 g3
    have g2 : p_spl p f 2 2 = true := spl_l g3
    have b1 : p_at p (f + 1) = 111 := spl_r kw_2_1 g2
    have g1 : p_spl p f 2 1 = true := spl_l g2
    have b0 : p_at p (f + 0) = 100 := spl_r kw_2_0 g1
    exact ⟨⟨t, q⟩, ⟨b0, b1, b2⟩⟩
theorem wf_3 {p : TP} {D : DJ} {f e : Nat} : (p_wd D f e 5 ∧ p_w3 p f 0 99 104 105 ∧ p_w3 p f 2 105 108 100) ↔ (d_tk D = 1 ∧ p_isw p f e 3 = true) := by
  constructor
  · rintro ⟨⟨t, q⟩, ⟨a0, a1, a2⟩, ⟨_, a3, a4⟩⟩
    exact ⟨t, isw_i q (spl_s kw_3_4 (spl_s kw_3_3 (spl_s kw_3_2 (spl_s kw_3_1 (spl_s kw_3_0 rfl a0) a1) a2) a3) a4)⟩
  · rintro ⟨t, h⟩
    obtain ⟨q, g5⟩ := isw_e h
    have b4 : p_at p (f + 4) = 100 := spl_r kw_3_4 g5
    have g4 : p_spl p f 3 4 = true := spl_l g5
    have b3 : p_at p (f + 3) = 108 := spl_r kw_3_3 g4
    have g3 : p_spl p f 3 3 = true := spl_l g4
    have b2 : p_at p (f + 2) = 105 := spl_r kw_3_2 g3
    have g2 : p_spl p f 3 2 = true := spl_l g3
    have b1 : p_at p (f + 1) = 104 := spl_r kw_3_1 g2
    have g1 : p_spl p f 3 1 = true := spl_l g2
    have b0 : p_at p (f + 0) = 99 := spl_r kw_3_0 g1
    exact ⟨⟨t, q⟩, ⟨b0, b1, b2⟩, ⟨b2, b3, b4⟩⟩
theorem wf_4 {p : TP} {D : DJ} {f e : Nat} : (p_wd D f e 8 ∧ p_w3 p f 0 115 116 114 ∧ p_w3 p f 3 97 110 103 ∧ p_w3 p f 5 103 101 114) ↔ (d_tk D = 1 ∧ p_isw p f e 4 = true) := by
  constructor
  · rintro ⟨⟨t, q⟩, ⟨a0, a1, a2⟩, ⟨a3, a4, a5⟩, ⟨_, a6, a7⟩⟩
    exact ⟨t, isw_i q (spl_s kw_4_7 (spl_s kw_4_6 (spl_s kw_4_5 (spl_s kw_4_4 (spl_s kw_4_3 (spl_s kw_4_2 (spl_s kw_4_1 (spl_s kw_4_0 rfl a0) a1) a2) a3) a4) a5) a6) a7)⟩
  · rintro ⟨t, h⟩
    obtain ⟨q, g8⟩ := isw_e h
    have b7 : p_at p (f + 7) = 114 := spl_r kw_4_7 g8
    have g7 : p_spl p f 4 7 = true := spl_l g8
    have b6 : p_at p (f + 6) = 101 := spl_r kw_4_6 g7
    have g6 : p_spl p f 4 6 = true := spl_l g7
    have b5 : p_at p (f + 5) = 103 := spl_r kw_4_5 g6
    have g5 : p_spl p f 4 5 = true := spl_l g6
    have b4 : p_at p (f + 4) = 110 := spl_r kw_4_4 g5
    have g4 : p_spl p f 4 4 = true := spl_l g5
    have b3 : p_at p (f + 3) = 97 := spl_r kw_4_3 g4
    have g3 : p_spl p f 4 3 = true := spl_l g4
    have b2 : p_at p (f + 2) = 114 := spl_r kw_4_2 g3
    have g2 : p_spl p f 4 2 = true := spl_l g3
    have b1 : p_at p (f + 1) = 116 := spl_r kw_4_1 g2
    have g1 : p_spl p f 4 1 = true := spl_l g2
    have b0 : p_at p (f + 0) = 115 := spl_r kw_4_0 g1
    exact ⟨⟨t, q⟩, ⟨b0, b1, b2⟩, ⟨b3, b4, b5⟩, ⟨b5, b6, b7⟩⟩
theorem wf_5 {p : TP} {D : DJ} {f e : Nat} : (p_wd D f e 4 ∧ p_w3 p f 0 109 101 97 ∧ p_w3 p f 1 101 97 110) ↔ (d_tk D = 1 ∧ p_isw p f e 5 = true) := by
  constructor
  · rintro ⟨⟨t, q⟩, ⟨a0, a1, a2⟩, ⟨_, _, a3⟩⟩
    exact ⟨t, isw_i q (spl_s kw_5_3 (spl_s kw_5_2 (spl_s kw_5_1 (spl_s kw_5_0 rfl a0) a1) a2) a3)⟩
  · rintro ⟨t, h⟩
    obtain ⟨q, g4⟩ := isw_e h
    have b3 : p_at p (f + 3) = 110 := spl_r kw_5_3 g4
    have g3 : p_spl p f 5 3 = true := spl_l g4
    have b2 : p_at p (f + 2) = 97 := spl_r kw_5_2 g3
    have g2 : p_spl p f 5 2 = true := spl_l g3
    have b1 : p_at p (f + 1) = 101 := spl_r kw_5_1 g2
    have g1 : p_spl p f 5 1 = true := spl_l g2
    have b0 : p_at p (f + 0) = 109 := spl_r kw_5_0 g1
    exact ⟨⟨t, q⟩, ⟨b0, b1, b2⟩, ⟨b1, b2, b3⟩⟩
theorem wf_6 {p : TP} {D : DJ} {f e : Nat} : (p_wd D f e 8 ∧ p_w3 p f 0 100 97 117 ∧ p_w3 p f 3 103 104 116 ∧ p_w3 p f 5 116 101 114) ↔ (d_tk D = 1 ∧ p_isw p f e 6 = true) := by
  constructor
  · rintro ⟨⟨t, q⟩, ⟨a0, a1, a2⟩, ⟨a3, a4, a5⟩, ⟨_, a6, a7⟩⟩
    exact ⟨t, isw_i q (spl_s kw_6_7 (spl_s kw_6_6 (spl_s kw_6_5 (spl_s kw_6_4 (spl_s kw_6_3 (spl_s kw_6_2 (spl_s kw_6_1 (spl_s kw_6_0 rfl a0) a1) a2) a3) a4) a5) a6) a7)⟩
  · rintro ⟨t, h⟩
    obtain ⟨q, g8⟩ := isw_e h
    have b7 : p_at p (f + 7) = 114 := spl_r kw_6_7 g8
    have g7 : p_spl p f 6 7 = true := spl_l g8
    have b6 : p_at p (f + 6) = 101 := spl_r kw_6_6 g7
    have g6 : p_spl p f 6 6 = true := spl_l g7
    have b5 : p_at p (f + 5) = 116 := spl_r kw_6_5 g6
    have g5 : p_spl p f 6 5 = true := spl_l g6
    have b4 : p_at p (f + 4) = 104 := spl_r kw_6_4 g5
    have g4 : p_spl p f 6 4 = true := spl_l g5
    have b3 : p_at p (f + 3) = 103 := spl_r kw_6_3 g4
    have g3 : p_spl p f 6 3 = true := spl_l g4
    have b2 : p_at p (f + 2) = 117 := spl_r kw_6_2 g3
    have g2 : p_spl p f 6 2 = true := spl_l g3
    have b1 : p_at p (f + 1) = 97 := spl_r kw_6_1 g2
    have g1 : p_spl p f 6 1 = true := spl_l g2
    have b0 : p_at p (f + 0) = 100 := spl_r kw_6_0 g1
    exact ⟨⟨t, q⟩, ⟨b0, b1, b2⟩, ⟨b3, b4, b5⟩, ⟨b5, b6, b7⟩⟩
theorem wf_7 {p : TP} {D : DJ} {f e : Nat} : (p_wd D f e 4 ∧ p_w3 p f 0 115 104 117 ∧ p_w3 p f 1 104 117 116) ↔ (d_tk D = 1 ∧ p_isw p f e 7 = true) := by
  constructor
  · rintro ⟨⟨t, q⟩, ⟨a0, a1, a2⟩, ⟨_, _, a3⟩⟩
    exact ⟨t, isw_i q (spl_s kw_7_3 (spl_s kw_7_2 (spl_s kw_7_1 (spl_s kw_7_0 rfl a0) a1) a2) a3)⟩
  · rintro ⟨t, h⟩
    obtain ⟨q, g4⟩ := isw_e h
    have b3 : p_at p (f + 3) = 116 := spl_r kw_7_3 g4
    have g3 : p_spl p f 7 3 = true := spl_l g4
    have b2 : p_at p (f + 2) = 117 := spl_r kw_7_2 g3
    have g2 : p_spl p f 7 2 = true := spl_l g3
    have b1 : p_at p (f + 1) = 104 := spl_r kw_7_1 g2
    have g1 : p_spl p f 7 1 = true := spl_l g2
    have b0 : p_at p (f + 0) = 115 := spl_r kw_7_0 g1
    exact ⟨⟨t, q⟩, ⟨b0, b1, b2⟩, ⟨b1, b2, b3⟩⟩
theorem wf_8 {p : TP} {D : DJ} {f e : Nat} : (p_wd D f e 4 ∧ p_w3 p f 0 97 106 97 ∧ p_w3 p f 1 106 97 114) ↔ (d_tk D = 1 ∧ p_isw p f e 8 = true) := by
  constructor
  · rintro ⟨⟨t, q⟩, ⟨a0, a1, a2⟩, ⟨_, _, a3⟩⟩
    exact ⟨t, isw_i q (spl_s kw_8_3 (spl_s kw_8_2 (spl_s kw_8_1 (spl_s kw_8_0 rfl a0) a1) a2) a3)⟩
  · rintro ⟨t, h⟩
    obtain ⟨q, g4⟩ := isw_e h
    have b3 : p_at p (f + 3) = 114 := spl_r kw_8_3 g4
    have g3 : p_spl p f 8 3 = true := spl_l g4
    have b2 : p_at p (f + 2) = 97 := spl_r kw_8_2 g3
    have g2 : p_spl p f 8 2 = true := spl_l g3
    have b1 : p_at p (f + 1) = 106 := spl_r kw_8_1 g2
    have g1 : p_spl p f 8 1 = true := spl_l g2
    have b0 : p_at p (f + 0) = 97 := spl_r kw_8_0 g1
    exact ⟨⟨t, q⟩, ⟨b0, b1, b2⟩, ⟨b1, b2, b3⟩⟩
theorem wf_9 {p : TP} {D : DJ} {f e : Nat} : (p_wd D f e 4 ∧ p_w3 p f 0 111 112 101 ∧ p_w3 p f 1 112 101 110) ↔ (d_tk D = 1 ∧ p_isw p f e 9 = true) := by
  constructor
  · rintro ⟨⟨t, q⟩, ⟨a0, a1, a2⟩, ⟨_, _, a3⟩⟩
    exact ⟨t, isw_i q (spl_s kw_9_3 (spl_s kw_9_2 (spl_s kw_9_1 (spl_s kw_9_0 rfl a0) a1) a2) a3)⟩
  · rintro ⟨t, h⟩
    obtain ⟨q, g4⟩ := isw_e h
    have b3 : p_at p (f + 3) = 110 := spl_r kw_9_3 g4
    have g3 : p_spl p f 9 3 = true := spl_l g4
    have b2 : p_at p (f + 2) = 101 := spl_r kw_9_2 g3
    have g2 : p_spl p f 9 2 = true := spl_l g3
    have b1 : p_at p (f + 1) = 112 := spl_r kw_9_1 g2
    have g1 : p_spl p f 9 1 = true := spl_l g2
    have b0 : p_at p (f + 0) = 111 := spl_r kw_9_0 g1
    exact ⟨⟨t, q⟩, ⟨b0, b1, b2⟩, ⟨b1, b2, b3⟩⟩
theorem wf_10 {p : TP} {D : DJ} {f e : Nat} : (p_wd D f e 7 ∧ p_w3 p f 0 112 114 111 ∧ p_w3 p f 3 112 112 101 ∧ p_w3 p f 4 112 101 100) ↔ (d_tk D = 1 ∧ p_isw p f e 10 = true) := by
  constructor
  · rintro ⟨⟨t, q⟩, ⟨a0, a1, a2⟩, ⟨a3, a4, a5⟩, ⟨_, _, a6⟩⟩
    exact ⟨t, isw_i q (spl_s kw_10_6 (spl_s kw_10_5 (spl_s kw_10_4 (spl_s kw_10_3 (spl_s kw_10_2 (spl_s kw_10_1 (spl_s kw_10_0 rfl a0) a1) a2) a3) a4) a5) a6)⟩
  · rintro ⟨t, h⟩
    obtain ⟨q, g7⟩ := isw_e h
    have b6 : p_at p (f + 6) = 100 := spl_r kw_10_6 g7
    have g6 : p_spl p f 10 6 = true := spl_l g7
    have b5 : p_at p (f + 5) = 101 := spl_r kw_10_5 g6
    have g5 : p_spl p f 10 5 = true := spl_l g6
    have b4 : p_at p (f + 4) = 112 := spl_r kw_10_4 g5
    have g4 : p_spl p f 10 4 = true := spl_l g5
    have b3 : p_at p (f + 3) = 112 := spl_r kw_10_3 g4
    have g3 : p_spl p f 10 3 = true := spl_l g4
    have b2 : p_at p (f + 2) = 111 := spl_r kw_10_2 g3
    have g2 : p_spl p f 10 2 = true := spl_l g3
    have b1 : p_at p (f + 1) = 114 := spl_r kw_10_1 g2
    have g1 : p_spl p f 10 1 = true := spl_l g2
    have b0 : p_at p (f + 0) = 112 := spl_r kw_10_0 g1
    exact ⟨⟨t, q⟩, ⟨b0, b1, b2⟩, ⟨b3, b4, b5⟩, ⟨b4, b5, b6⟩⟩
theorem wf_11 {p : TP} {D : DJ} {f e : Nat} : (p_wd D f e 6 ∧ p_w3 p f 0 98 101 97 ∧ p_w3 p f 3 115 116 115) ↔ (d_tk D = 1 ∧ p_isw p f e 11 = true) := by
  constructor
  · rintro ⟨⟨t, q⟩, ⟨a0, a1, a2⟩, ⟨a3, a4, a5⟩⟩
    exact ⟨t, isw_i q (spl_s kw_11_5 (spl_s kw_11_4 (spl_s kw_11_3 (spl_s kw_11_2 (spl_s kw_11_1 (spl_s kw_11_0 rfl a0) a1) a2) a3) a4) a5)⟩
  · rintro ⟨t, h⟩
    obtain ⟨q, g6⟩ := isw_e h
    have b5 : p_at p (f + 5) = 115 := spl_r kw_11_5 g6
    have g5 : p_spl p f 11 5 = true := spl_l g6
    have b4 : p_at p (f + 4) = 116 := spl_r kw_11_4 g5
    have g4 : p_spl p f 11 4 = true := spl_l g5
    have b3 : p_at p (f + 3) = 115 := spl_r kw_11_3 g4
    have g3 : p_spl p f 11 3 = true := spl_l g4
    have b2 : p_at p (f + 2) = 97 := spl_r kw_11_2 g3
    have g2 : p_spl p f 11 2 = true := spl_l g3
    have b1 : p_at p (f + 1) = 101 := spl_r kw_11_1 g2
    have g1 : p_spl p f 11 1 = true := spl_l g2
    have b0 : p_at p (f + 0) = 98 := spl_r kw_11_0 g1
    exact ⟨⟨t, q⟩, ⟨b0, b1, b2⟩, ⟨b3, b4, b5⟩⟩
theorem wf_12 {p : TP} {D : DJ} {f e : Nat} : (p_wd D f e 4 ∧ p_w3 p f 0 119 105 110 ∧ p_w3 p f 1 105 110 100) ↔ (d_tk D = 1 ∧ p_isw p f e 12 = true) := by
  constructor
  · rintro ⟨⟨t, q⟩, ⟨a0, a1, a2⟩, ⟨_, _, a3⟩⟩
    exact ⟨t, isw_i q (spl_s kw_12_3 (spl_s kw_12_2 (spl_s kw_12_1 (spl_s kw_12_0 rfl a0) a1) a2) a3)⟩
  · rintro ⟨t, h⟩
    obtain ⟨q, g4⟩ := isw_e h
    have b3 : p_at p (f + 3) = 100 := spl_r kw_12_3 g4
    have g3 : p_spl p f 12 3 = true := spl_l g4
    have b2 : p_at p (f + 2) = 110 := spl_r kw_12_2 g3
    have g2 : p_spl p f 12 2 = true := spl_l g3
    have b1 : p_at p (f + 1) = 105 := spl_r kw_12_1 g2
    have g1 : p_spl p f 12 1 = true := spl_l g2
    have b0 : p_at p (f + 0) = 119 := spl_r kw_12_0 g1
    exact ⟨⟨t, q⟩, ⟨b0, b1, b2⟩, ⟨b1, b2, b3⟩⟩
theorem wf_13 {p : TP} {D : DJ} {f e : Nat} : (p_wd D f e 2 ∧ p_at p f = 105 ∧ p_at p (f + 1) = 110) ↔ (d_tk D = 1 ∧ p_isw p f e 13 = true) := by
  constructor
  · rintro ⟨⟨t, q⟩, a0, a1⟩
    exact ⟨t, isw_i q (spl_s kw_13_1 (spl_s kw_13_0 rfl a0) a1)⟩
  · rintro ⟨t, h⟩
    obtain ⟨q, g2⟩ := isw_e h
    have b1 : p_at p (f + 1) = 110 := spl_r kw_13_1 g2
    have g1 : p_spl p f 13 1 = true := spl_l g2
    have b0 : p_at p (f + 0) = 105 := spl_r kw_13_0 g1
    exact ⟨⟨t, q⟩, b0, b1⟩
theorem wf_14 {p : TP} {D : DJ} {f e : Nat} : (p_wd D f e 4 ∧ p_w3 p f 0 98 97 99 ∧ p_w3 p f 1 97 99 107) ↔ (d_tk D = 1 ∧ p_isw p f e 14 = true) := by
  constructor
  · rintro ⟨⟨t, q⟩, ⟨a0, a1, a2⟩, ⟨_, _, a3⟩⟩
    exact ⟨t, isw_i q (spl_s kw_14_3 (spl_s kw_14_2 (spl_s kw_14_1 (spl_s kw_14_0 rfl a0) a1) a2) a3)⟩
  · rintro ⟨t, h⟩
    obtain ⟨q, g4⟩ := isw_e h
    have b3 : p_at p (f + 3) = 107 := spl_r kw_14_3 g4
    have g3 : p_spl p f 14 3 = true := spl_l g4
    have b2 : p_at p (f + 2) = 99 := spl_r kw_14_2 g3
    have g2 : p_spl p f 14 2 = true := spl_l g3
    have b1 : p_at p (f + 1) = 97 := spl_r kw_14_1 g2
    have g1 : p_spl p f 14 1 = true := spl_l g2
    have b0 : p_at p (f + 0) = 98 := spl_r kw_14_0 g1
    exact ⟨⟨t, q⟩, ⟨b0, b1, b2⟩, ⟨b1, b2, b3⟩⟩
theorem wf_15 {p : TP} {D : DJ} {f e : Nat} : (p_wd D f e 4 ∧ p_w3 p f 0 109 111 111 ∧ p_w3 p f 1 111 111 100) ↔ (d_tk D = 1 ∧ p_isw p f e 15 = true) := by
  constructor
  · rintro ⟨⟨t, q⟩, ⟨a0, a1, a2⟩, ⟨_, _, a3⟩⟩
    exact ⟨t, isw_i q (spl_s kw_15_3 (spl_s kw_15_2 (spl_s kw_15_1 (spl_s kw_15_0 rfl a0) a1) a2) a3)⟩
  · rintro ⟨t, h⟩
    obtain ⟨q, g4⟩ := isw_e h
    have b3 : p_at p (f + 3) = 100 := spl_r kw_15_3 g4
    have g3 : p_spl p f 15 3 = true := spl_l g4
    have b2 : p_at p (f + 2) = 111 := spl_r kw_15_2 g3
    have g2 : p_spl p f 15 2 = true := spl_l g3
    have b1 : p_at p (f + 1) = 111 := spl_r kw_15_1 g2
    have g1 : p_spl p f 15 1 = true := spl_l g2
    have b0 : p_at p (f + 0) = 109 := spl_r kw_15_0 g1
    exact ⟨⟨t, q⟩, ⟨b0, b1, b2⟩, ⟨b1, b2, b3⟩⟩
