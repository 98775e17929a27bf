/-! THE TOKENS IN THEIR ORDER -/
def p_pos (p : TP) : Nat → Nat
  | 0 => 0
  | t + 1 => p_to p (p_from p (p_pos p t))
abbrev p_fr (p : TP) (t : Nat) : Nat := p_from p (p_pos p t)
abbrev p_so (p : TP) (t : Nat) : Int32 := p_sort (p_at p (p_fr p t))
def d_sq (p : TP) (D : DJ) (t : Nat) : DJ := (d_bf D, d_as D, d_gn D, p_so p t, nI (p_fr p t), nI (p_pos p (t + 1)), p_vl p (p_fr p t), d_fa D)
theorem p_pos_le (p : TP) : ∀ t, p_pos p t ≤ p.2
  | 0 => Nat.zero_le _
  | t + 1 => (p_to_le (p_from_le (p_pos_le p t)).2).2
theorem p_fr_le (p : TP) (t : Nat) : p_pos p t ≤ p_fr p t ∧ p_fr p t ≤ p.2 := p_from_le (p_pos_le p t)
theorem p_fe_le (p : TP) (t : Nat) : p_fr p t ≤ p_pos p (t + 1) ∧ p_pos p (t + 1) ≤ p.2 := p_to_le (p_fr_le p t).2
theorem d_sq_nx {p : TP} (hq : p.2 ≤ 120) (D : DJ) (t : Nat) : p_nx p (d_sq p D t) = d_sq p D (t + 1) := by
  have := p_pos_le p (t + 1)
  have e : (d_to (d_sq p D t)).toNatClampNeg = p_pos p (t + 1) := nI_clamp (n := p_pos p (t + 1)) (by omega)
  rw [p_nx, e]; rfl
theorem d_sq_0 {p : TP} (F : FS) (D : DJ) : p_nx p (d_start F D) = d_sq p (d_start F D) 0 := by
  have e : (d_to (d_start F D)).toNatClampNeg = 0 := rfl
  rw [p_nx, e]; rfl
/-! BYTES -/
abbrev b_of (u : Int32) : Int32 := u.toInt8.toInt32
def c_of (b : Int32) : Int32 := if isLt b then 0 else if isDg b then 1 else if b = 59 then 2 else if b = 32 then 3 else 4
def c_srt (s : Int32) : Int32 := if s = 1 then 0 else if s = 2 then 1 else if s = 3 then 2 else if s = 0 then 5 else 4
abbrev p_byt (p : TP) : Prop := ∀ i, ∃ n : Nat, n < 256 ∧ p.1 i = nI n
theorem b_of_lo : ∀ n : Fin 128, b_of (nI n.val) = nI n.val := by decide +kernel
theorem b_of_dg {u : Int32} (h : inR u 0 127) : b_of u = u := by
  obtain ⟨n, hn, e⟩ := kn_rng (n := 127) h rfl
  rw [e]; exact b_of_lo ⟨n, by omega⟩
theorem p_at_in {p : TP} {i : Nat} (h : i < p.2) : p_at p i = p.1 i := if_pos h
theorem c_sort_nI : ∀ n : Fin 256, (c_of (b_of (nI n.val)) = 0 ↔ isLt (nI n.val)) ∧ (c_of (b_of (nI n.val)) = 1 ↔ isDg (nI n.val)) ∧ (c_of (b_of (nI n.val)) = 3 ↔ nI n.val = 32) ∧ (isLt (nI n.val) → p_sort (nI n.val) = 1) ∧ (isDg (nI n.val) → p_sort (nI n.val) = 2) ∧ (¬ isLt (nI n.val) → ¬ isDg (nI n.val) → p_sort (nI n.val) = 3 ∨ p_sort (nI n.val) = 4) ∧ (¬ nI n.val = 32 → c_of (b_of (nI n.val)) = c_srt (p_sort (nI n.val))) := by decide +kernel
theorem c_sort_at {p : TP} (hb : p_byt p) {i : Nat} (h : i < p.2) : (c_of (b_of (p.1 i)) = 0 ↔ isLt (p_at p i)) ∧ (c_of (b_of (p.1 i)) = 1 ↔ isDg (p_at p i)) ∧ (c_of (b_of (p.1 i)) = 3 ↔ p_at p i = 32) ∧ (isLt (p_at p i) → p_sort (p_at p i) = 1) ∧ (isDg (p_at p i) → p_sort (p_at p i) = 2) ∧ (¬ isLt (p_at p i) → ¬ isDg (p_at p i) → p_sort (p_at p i) = 3 ∨ p_sort (p_at p i) = 4) ∧ (¬ p_at p i = 32 → c_of (b_of (p.1 i)) = c_srt (p_sort (p_at p i))) := by
  obtain ⟨n, hn, e⟩ := hb i
  rw [p_at_in h, e]; exact c_sort_nI ⟨n, hn⟩
/-! WHAT SPLIT LEAVES -/
abbrev k_tok (p : TP) (J : TJ) (t : Nat) : Prop := J.1 t = c_srt (p_so p t) ∧ J.2.1 t = nI (p_fr p t) ∧ (¬ p_so p t = 0 → J.2.2.1 t = nI (p_pos p (t + 1) - p_fr p t))
abbrev k_all (p : TP) (J : TJ) (n : Nat) : Prop := n ≤ 120 ∧ (∀ t, t ≤ n → k_tok p J t) ∧ p_fr p n = p.2
theorem k_all_end {p : TP} {J : TJ} {n : Nat} (h : k_all p J n) : p_so p n = 0 := by
  rw [p_so, h.2.2, p_at_end]; rfl
theorem k_all_lt {p : TP} {J : TJ} {n t : Nat} (h : k_all p J n) (ht : t ≤ n) (hs : ¬ p_so p t = 0) : t + 1 ≤ n := by
  rcases Nat.lt_or_ge t n with q | q
  · exact q
  · have : t = n := by omega
    subst this
    exact absurd (k_all_end h) hs
/-! WORDS AND NUMBERS ARE OF ONE SORT -/
theorem o_find_all (q : Nat → Bool) : ∀ n i j, i ≤ j → j < o_find q n i → q j = false
  | 0, i, j, h1, h2 => by rw [o_find] at h2; omega
  | n + 1, i, j, h1, h2 => by
    rw [o_find] at h2
    by_cases c : q i = true
    · rw [if_pos c] at h2; omega
    · rw [if_neg c] at h2
      rcases Nat.lt_or_ge i j with g | g
      · exact o_find_all q n (i + 1) j g h2
      · have : i = j := by omega
        subst this
        exact Bool.eq_false_iff.mpr c
theorem p_to_lt {p : TP} {f j : Nat} (hs : p_sort (p_at p f) = 1) (h1 : f ≤ j) (h2 : j < p_to p f) : isLt (p_at p j) := by
  rw [p_to, if_pos hs] at h2
  have := o_find_all (q_nl p) _ _ _ h1 h2
  rw [q_nl] at this
  by_cases c : isLt (p_at p j)
  · exact c
  · rw [decide_eq_false c] at this; exact Bool.noConfusion this
theorem p_to_dg {p : TP} {f j : Nat} (hs : p_sort (p_at p f) = 2) (h1 : f ≤ j) (h2 : j < p_to p f) : isDg (p_at p j) := by
  rw [p_to, if_neg (by rw [hs]; decide), if_pos hs] at h2
  have := o_find_all (q_nd p) _ _ _ h1 h2
  rw [q_nd] at this
  by_cases c : isDg (p_at p j)
  · exact c
  · rw [decide_eq_false c] at this; exact Bool.noConfusion this
theorem inR_lt {u : Int32} (h : isLt u) : inR u 0 127 := by
  obtain ⟨n, hn, e⟩ := kn_rng (n := 122) (x := u) ⟨Int32.le_trans (by decide) h.1, h.2⟩ rfl
  subst e
  exact ⟨Int32.le_trans (by decide) h.1, Int32.le_trans h.2 (by decide)⟩
theorem inR_dg {u : Int32} (h : isDg u) : inR u 0 127 := ⟨Int32.le_trans (by decide) h.1, Int32.le_trans h.2 (by decide)⟩
/-- the byte of a letter -/
theorem b_of_lt {p : TP} {j : Nat} (h : isLt (p_at p j)) : b_of (p.1 j) = p_at p j := by
  have := p_at_lt' (p := p) (Or.inl h)
  rw [p_at_in this] at h ⊢
  exact b_of_dg (inR_lt h)
theorem b_of_dg' {p : TP} {j : Nat} (h : isDg (p_at p j)) : b_of (p.1 j) = p_at p j := by
  have := p_at_lt' (p := p) (Or.inr h)
  rw [p_at_in this] at h ⊢
  exact b_of_dg (inR_dg h)
/-! NUMBERS -/
theorem nI_dg {u : Int32} (h : isDg u) : ∃ d : Nat, d ≤ 9 ∧ u = nI (48 + d) := by
  obtain ⟨n, hn, e⟩ := kn_rng (n := 57) (x := u) ⟨Int32.le_trans (by decide) h.1, h.2⟩ rfl
  subst e
  have := (nI_leI (a := 48) (b := n) (by omega) (by omega)).mp h.1
  exact ⟨n - 48, by omega, by rw [show 48 + (n - 48) = n by omega]⟩
theorem p_num_rng {p : TP} {f e : Nat} (hd : ∀ j, f ≤ j → j < e → isDg (p_at p j)) : ∀ k, f + k ≤ e → ∃ a : Nat, a ≤ 99999 ∧ p_num p f k = nI a
  | 0, _ => ⟨0, by omega, rfl⟩
  | k + 1, h => by
    obtain ⟨a, ha, e1⟩ := p_num_rng hd k (by omega)
    obtain ⟨d, hd1, e2⟩ := nI_dg (hd (f + k) (by omega) (by omega))
    rw [p_num, e1]
    by_cases c : nI a ≤ 9999
    · have c2 := (nI_leI (a := a) (b := 9999) (by omega) (by omega)).mp c
      refine ⟨10 * a + d, by omega, ?_⟩
      rw [if_pos c, e2, show (10 : Int32) = nI 10 from rfl, pk_mul, kn_add, show (48 : Int32) = nI 48 from rfl, pk_sub (by omega)]
      exact congrArg nI (by omega)
    · rw [if_neg c]; exact ⟨a, ha, rfl⟩
/-- one more digit, held below 10001 -/
theorem p_num_cap {p : TP} {f k a : Nat} {v : Int32} (ha : a ≤ 99999) (e1 : p_num p f k = nI a) (hd : isDg (p_at p (f + k))) (hv : v = nI (min a 10000)) : ∃ a2 : Nat, a2 ≤ 99999 ∧ p_num p f (k + 1) = nI a2 ∧ f_mn (v * 10 + (p_at p (f + k) - 48)) 10000 = nI (min a2 10000) := by
  obtain ⟨d, hd1, e2⟩ := nI_dg hd
  have e3 : p_at p (f + k) - 48 = nI d := by
    rw [e2, show (48 : Int32) = nI 48 from rfl, pk_sub (by omega)]
    exact congrArg nI (by omega)
  have e4 : v * 10 + (p_at p (f + k) - 48) = nI (min a 10000 * 10 + d) := by
    rw [e3, hv, show (10 : Int32) = nI 10 from rfl, pk_mul, kn_add]
  have e5 : f_mn (v * 10 + (p_at p (f + k) - 48)) 10000 = nI (min (min a 10000 * 10 + d) 10000) := by
    rw [e4, f_mn, show (10000 : Int32) = nI 10000 from rfl]
    by_cases c : nI 10000 < nI (min a 10000 * 10 + d)
    · have := (nI_ltI (a := 10000) (b := min a 10000 * 10 + d) (by omega) (by omega)).mp c
      rw [if_pos c]; exact congrArg nI (by omega)
    · have : ¬ 10000 < min a 10000 * 10 + d := fun h => c ((nI_ltI (a := 10000) (b := min a 10000 * 10 + d) (by omega) (by omega)).mpr h)
      rw [if_neg c]; exact congrArg nI (by omega)
  rw [e5, p_num, e1]
  by_cases c : nI a ≤ 9999
  · have c2 := (nI_leI (a := a) (b := 9999) (by omega) (by omega)).mp c
    refine ⟨10 * a + d, by omega, ?_, congrArg nI (by omega)⟩
    rw [if_pos c, e2, show (10 : Int32) = nI 10 from rfl, pk_mul, kn_add, show (48 : Int32) = nI 48 from rfl, pk_sub (by omega)]
    exact congrArg nI (by omega)
  · have c2 : ¬ a ≤ 9999 := fun h => c ((nI_leI (a := a) (b := 9999) (by omega) (by omega)).mpr h)
    rw [if_neg c]; exact ⟨a, ha, rfl, congrArg nI (by omega)⟩
/-! WORDS -/
def p_lt8 (p : TP) (f e i : Nat) : Int32 := if i < e - f then p_at p (f + i) else 32
abbrev p_m8 (p : TP) (f e k : Nat) : Prop := ∀ i, i < 8 → p_lt8 p f e i = k_word (8 * k + i)
theorem k_word_32 : ∀ (k : Fin 16) (i : Fin 8), (k_word (8 * k.val + i.val) = 32 ↔ p_len k.val ≤ i.val) := by
  simp only [k_word, k_let]; decide +kernel
theorem k_len_8 : ∀ k : Fin 16, p_len k.val ≤ 8 := by decide +kernel
theorem k_word_inj : ∀ (j k : Fin 16), (∀ i : Fin 8, k_word (8 * j.val + i.val) = k_word (8 * k.val + i.val)) → j = k := by
  simp only [k_word, k_let]; decide +kernel
theorem spl_all {p : TP} {f k : Nat} : ∀ n, p_spl p f k n = true ↔ ∀ i, i < n → p_at p (f + i) = k_word (8 * k + i)
  | 0 => ⟨fun _ i h => absurd h (Nat.not_lt_zero i), fun _ => rfl⟩
  | n + 1 => by
    rw [p_spl, Bool.and_eq_true, spl_all n, decide_eq_true_iff]
    constructor
    · rintro ⟨h1, h2⟩ i hi
      rcases Nat.lt_or_ge i n with q | q
      · exact h1 i q
      · rw [show i = n by omega]; exact h2
    · intro h
      exact ⟨fun i hi => h i (by omega), h n (by omega)⟩
theorem isw_m8 {p : TP} {f e k : Nat} (hk : k < 16) (h : p_isw p f e k = true) : p_m8 p f e k := by
  obtain ⟨h1, h2⟩ := isw_e h
  intro i hi
  rw [p_lt8]
  by_cases c : i < p_len k
  · rw [if_pos (by omega)]; exact (spl_all _).mp h2 i c
  · rw [if_neg (by omega)]; exact ((k_word_32 ⟨k, hk⟩ ⟨i, hi⟩).mpr (by show p_len k ≤ i; omega)).symm
theorem m8_isw {p : TP} {f e k : Nat} (hk : k < 16) (hfe : f ≤ e) (h8 : e - f ≤ 8) (hl : ∀ j, f ≤ j → j < e → isLt (p_at p j)) (h : p_m8 p f e k) : p_isw p f e k = true := by
  have hL : p_len k ≤ 8 := k_len_8 ⟨k, hk⟩
  have h1 : ¬ p_len k < e - f := by
    intro c
    have e1 := h (p_len k) (by omega)
    rw [(k_word_32 ⟨k, hk⟩ ⟨p_len k, by omega⟩).mpr (Nat.le_refl _), p_lt8, if_pos c] at e1
    have := hl (f + p_len k) (by omega) (by omega)
    rw [e1] at this
    exact absurd this (by decide)
  have h2 : ¬ e - f < p_len k := by
    intro c
    have e1 := h (e - f) (by omega)
    rw [p_lt8, if_neg (by omega)] at e1
    have := (k_word_32 ⟨k, hk⟩ ⟨e - f, by omega⟩).mp e1.symm
    exact absurd this (by show ¬ p_len k ≤ e - f; omega)
  refine isw_i (by omega) ((spl_all _).mpr (fun i hi => ?_))
  have e1 := h i (by omega)
  rw [p_lt8, if_pos (by omega)] at e1
  exact e1
theorem isw_inj {p : TP} {f e j k : Nat} (hj : j < 16) (hk : k < 16) (h1 : p_isw p f e j = true) (h2 : p_isw p f e k = true) : j = k := by
  have a := isw_m8 hj h1
  have b := isw_m8 hk h2
  have := k_word_inj ⟨j, hj⟩ ⟨k, hk⟩ (fun i => (a i.val i.isLt).symm.trans (b i.val i.isLt))
  exact congrArg Fin.val this
abbrev j_at (J : TJ) (t : Nat) : TJ := (J.1, J.2.1, J.2.2.1, nI t)
abbrev k_w (p : TP) (t k : Nat) : Prop := p_so p t = 1 ∧ p_isw p (p_fr p t) (p_pos p (t + 1)) k = true
theorem k_w_t {p : TP} (hq : p.2 ≤ 120) {D : DJ} {t k : Nat} : t_w p (d_sq p D t) k ↔ k_w p t k := by
  have := p_fe_le p t
  exact t_w_fe (p := p) (D := d_sq p D t) (f := p_fr p t) (e := p_pos p (t + 1)) rfl rfl (by omega) (by omega)
theorem k_w_one {p : TP} {t j k : Nat} (hj : j < 16) (hk : k < 16) (h1 : k_w p t j) (h2 : k_w p t k) : j = k := isw_inj hj hk h1.2 h2.2
theorem c_srt_0 {s : Int32} : c_srt s = 0 ↔ s = 1 := by
  rw [c_srt]
  constructor
  · intro h
    by_cases c : s = 1
    · exact c
    · rw [if_neg c] at h
      repeat' split at h
      all_goals exact absurd h (by decide)
  · intro h; rw [if_pos h]
theorem c_srt_1 {s : Int32} : c_srt s = 1 ↔ s = 2 := by
  rw [c_srt]
  constructor
  · intro h
    by_cases c : s = 2
    · exact c
    · rw [if_neg c] at h
      repeat' split at h
      all_goals exact absurd h (by decide)
  · intro h; subst h; decide
theorem c_srt_2 {s : Int32} : c_srt s = 2 ↔ s = 3 := by
  rw [c_srt]
  constructor
  · intro h
    by_cases c : s = 3
    · exact c
    · rw [if_neg c] at h
      repeat' split at h
      all_goals exact absurd h (by decide)
  · intro h; subst h; decide
theorem c_srt_5 {s : Int32} : c_srt s = 5 ↔ s = 0 := by
  rw [c_srt]
  constructor
  · intro h
    by_cases c : s = 0
    · exact c
    · rw [if_neg c] at h
      repeat' split at h
      all_goals exact absurd h (by decide)
  · intro h; subst h; decide
/-! SPLIT, STEP BY STEP: i bytes are read, n tokens begun -/
abbrev k_sp (p : TP) (i n : Nat) (last : Int32) (J : TJ) : Prop := n ≤ i ∧ (((∀ t, t < n → k_tok p J t) ∧ p_fr p n = p_from p i ∧ ¬ last = 0 ∧ ¬ last = 1) ∨ ∃ m f : Nat, n = m + 1 ∧ (∀ t, t < m → k_tok p J t) ∧ p_fr p m = f ∧ f < i ∧ J.1 m = last ∧ J.2.1 m = nI f ∧ J.2.2.1 m = nI (i - f) ∧ ((last = 0 ∧ p_so p m = 1 ∧ p_to p f = o_find (q_nl p) (p.2 - i) i) ∨ (last = 1 ∧ p_so p m = 2 ∧ p_to p f = o_find (q_nd p) (p.2 - i) i)))
abbrev k_on (c last : Int32) (n : Nat) : Prop := c = last ∧ (c = 0 ∨ c = 1) ∧ 0 < n
theorem o_find_y {q : Nat → Bool} {n i : Nat} (h : q i = true) : o_find q n i = i := by
  cases n with
  | zero => rfl
  | succ n => rw [o_find, if_pos h]
theorem o_find_n {q : Nat → Bool} {n i : Nat} (hi : i < n) (h : q i = false) : o_find q (n - i) i = o_find q (n - (i + 1)) (i + 1) := by
  rw [show n - i = (n - (i + 1)) + 1 by omega, o_find, if_neg (by rw [h]; decide)]
theorem sp_0 {p : TP} {J : TJ} : k_sp p 0 0 3 J := ⟨Nat.le_refl 0, Or.inl ⟨fun t h => absurd h (Nat.not_lt_zero t), rfl, by decide, by decide⟩⟩
/-- the last token ends where the sort changes -/
theorem sp_close {p : TP} (hb : p_byt p) {i n : Nat} {last : Int32} {J : TJ} (h : k_sp p i n last J) (hi : i ≤ p.2) (hc : i < p.2 → ¬ k_on (c_of (b_of (p.1 i))) last n) : (∀ t, t < n → k_tok p J t) ∧ p_fr p n = p_from p i := by
  obtain ⟨hn, h | h⟩ := h
  · exact ⟨h.1, h.2.1⟩
  · obtain ⟨m, f, rfl, h1, h2, h3, h4, h5, h6, h7⟩ := h
    have key : p_to p f = i ∧ J.1 m = c_srt (p_so p m) := by
      rcases h7 with ⟨h8, h9, h10⟩ | ⟨h8, h9, h10⟩
      · refine ⟨?_, by rw [h4, h8, h9]; rfl⟩
        rw [h10]
        rcases Nat.lt_or_ge i p.2 with q | q
        · refine o_find_y ?_
          rw [q_nl, decide_eq_false]
          · rfl
          · intro hl
            have := (c_sort_at hb q).1.mpr hl
            exact hc q ⟨by rw [this, h8], Or.inl this, by omega⟩
        · rw [show p.2 - i = 0 by omega]; rfl
      · refine ⟨?_, by rw [h4, h8, h9]; rfl⟩
        rw [h10]
        rcases Nat.lt_or_ge i p.2 with q | q
        · refine o_find_y ?_
          rw [q_nd, decide_eq_false]
          · rfl
          · intro hl
            have := (c_sort_at hb q).2.1.mpr hl
            exact hc q ⟨by rw [this, h8], Or.inr this, by omega⟩
        · rw [show p.2 - i = 0 by omega]; rfl
    have e1 : p_pos p (m + 1) = i := by rw [p_pos]; rw [p_fr] at h2; rw [h2]; exact key.1
    refine ⟨fun t ht => ?_, by rw [p_fr, e1]⟩
    rcases Nat.lt_or_ge t m with q | q
    · exact h1 t q
    · have : t = m := by omega
      subst this
      exact ⟨key.2, by rw [h5, h2], fun _ => by rw [h6, e1, h2]⟩
theorem k_tok_up {p : TP} {J : TJ} {n t : Nat} {a b c x : Int32} (ht : t < n) (h : k_tok p J t) : k_tok p (upd J.1 n a, upd J.2.1 n b, upd J.2.2.1 n c, x) t := by
  have : t ≠ n := by omega
  exact ⟨(pk_un this).trans h.1, (pk_un this).trans h.2.1, fun h9 => (pk_un this).trans (h.2.2 h9)⟩
/-- a byte that goes on with a word or a number -/
theorem sp_on {p : TP} (hb : p_byt p) {i n : Nat} {last : Int32} {J : TJ} (h : k_sp p i n last J) (hi : i < p.2) (hq : p.2 ≤ 120) (hc : k_on (c_of (b_of (p.1 i))) last n) : ∃ m, n = m + 1 ∧ k_sp p (i + 1) n (c_of (b_of (p.1 i))) (J.1, J.2.1, upd J.2.2.1 m (J.2.2.1 m + 1), J.2.2.2) := by
  obtain ⟨hn, h | h⟩ := h
  · exfalso
    obtain ⟨c1, c2 | c2, c3⟩ := hc
    · exact h.2.2.1 (c1.symm.trans c2)
    · exact h.2.2.2 (c1.symm.trans c2)
  · obtain ⟨m, f, rfl, h1, h2, h3, h4, h5, h6, h7⟩ := h
    refine ⟨m, rfl, by omega, Or.inr ⟨m, f, rfl, fun t ht => ?_, h2, by omega, h4.trans hc.1.symm, h5, ?_, ?_⟩⟩
    · have hh := h1 t ht
      exact ⟨hh.1, hh.2.1, fun h9 => (pk_un (by omega)).trans (hh.2.2 h9)⟩
    · show upd J.2.2.1 m (J.2.2.1 m + 1) m = nI (i + 1 - f)
      rw [pk_us, h6, show (1 : Int32) = nI 1 from rfl, kn_add]
      exact congrArg nI (by omega)
    · rcases h7 with ⟨h8, h9, h10⟩ | ⟨h8, h9, h10⟩
      · have hl := (c_sort_at hb hi).1.mp (hc.1.trans h8)
        exact Or.inl ⟨hc.1.trans h8, h9, by rw [h10]; exact o_find_n hi (by rw [q_nl, decide_eq_true hl]; rfl)⟩
      · have hl := (c_sort_at hb hi).2.1.mp (hc.1.trans h8)
        exact Or.inr ⟨hc.1.trans h8, h9, by rw [h10]; exact o_find_n hi (by rw [q_nd, decide_eq_true hl]; rfl)⟩
theorem sp_blank {p : TP} (hb : p_byt p) {i n : Nat} {last : Int32} {J : TJ} (h : k_sp p i n last J) (hi : i < p.2) (hc : ¬ k_on (c_of (b_of (p.1 i))) last n) (h3 : c_of (b_of (p.1 i)) = 3) : k_sp p (i + 1) n (c_of (b_of (p.1 i))) J := by
  have h0 := sp_close hb h (by omega) (fun _ => hc)
  have e := (c_sort_at hb hi).2.2.1.mp h3
  refine ⟨by have := h.1; omega, Or.inl ⟨h0.1, ?_, by rw [h3]; decide, by rw [h3]; decide⟩⟩
  rw [h0.2, p_from, p_from]
  exact o_find_n hi (by rw [q_ns, decide_eq_true e]; rfl)
theorem sp_new {p : TP} (hb : p_byt p) {i n : Nat} {last : Int32} {J : TJ} (h : k_sp p i n last J) (hi : i < p.2) (hc : ¬ k_on (c_of (b_of (p.1 i))) last n) (h3 : ¬ c_of (b_of (p.1 i)) = 3) : k_sp p (i + 1) (n + 1) (c_of (b_of (p.1 i))) (upd J.1 n (c_of (b_of (p.1 i))), upd J.2.1 n (nI i), upd J.2.2.1 n 1, J.2.2.2) := by
  have h0 := sp_close hb h (by omega) (fun _ => hc)
  obtain ⟨k1, k2, k3, k4, k5, k6, k7⟩ := c_sort_at hb hi
  have hs : ¬ p_at p i = 32 := fun h9 => h3 (k3.mpr h9)
  have ef : p_fr p n = i := by
    rw [h0.2, p_from]
    exact o_find_y (by rw [q_ns, decide_eq_false hs]; rfl)
  have es : p_so p n = p_sort (p_at p i) := by rw [p_so, ef]
  have el : (1 : Int32) = nI (i + 1 - i) := by rw [show i + 1 - i = 1 by omega]; rfl
  refine ⟨by have := h.1; omega, ?_⟩
  by_cases c1 : isLt (p_at p i)
  · refine Or.inr ⟨n, i, rfl, fun t ht => k_tok_up ht (h0.1 t ht), ef, by omega, pk_us, pk_us, pk_us.trans el, Or.inl ⟨k1.mpr c1, es.trans (k4 c1), ?_⟩⟩
    rw [p_to, if_pos (k4 c1)]
    exact o_find_n hi (by rw [q_nl, decide_eq_true c1]; rfl)
  by_cases c2 : isDg (p_at p i)
  · refine Or.inr ⟨n, i, rfl, fun t ht => k_tok_up ht (h0.1 t ht), ef, by omega, pk_us, pk_us, pk_us.trans el, Or.inr ⟨k2.mpr c2, es.trans (k5 c2), ?_⟩⟩
    rw [p_to, if_neg (by rw [k5 c2]; decide), if_pos (k5 c2)]
    exact o_find_n hi (by rw [q_nd, decide_eq_true c2]; rfl)
  · have k34 := k6 c1 c2
    have et : p_to p i = i + 1 := by
      rw [p_to]
      rcases k34 with e | e <;> (rw [e]; rfl)
    have ep : p_pos p (n + 1) = i + 1 := by
      rw [p_pos]; rw [p_fr] at ef; rw [ef]; exact et
    refine Or.inl ⟨fun t ht => ?_, by rw [p_fr, ep], fun h9 => c1 (k1.mp h9), fun h9 => c2 (k2.mp h9)⟩
    rcases Nat.lt_or_ge t n with q | q
    · exact k_tok_up q (h0.1 t q)
    · have : t = n := by omega
      subst this
      exact ⟨pk_us.trans (by rw [es]; exact k7 hs), pk_us.trans (by rw [ef]), fun _ => pk_us.trans (by rw [ep, ef]; exact el)⟩
theorem sp_end {p : TP} (hb : p_byt p) (hq : p.2 ≤ 120) {n : Nat} {last : Int32} {J : TJ} (h : k_sp p p.2 n last J) : k_all p (upd J.1 n 5, upd J.2.1 n (nI p.2), upd J.2.2.1 n 1, J.2.2.2) n := by
  have h0 := sp_close hb h (Nat.le_refl _) (fun h9 => absurd h9 (Nat.lt_irrefl _))
  have ef : p_fr p n = p.2 := by
    rw [h0.2, p_from, Nat.sub_self]; rfl
  have es : p_so p n = 0 := by rw [p_so, ef, p_at_end]; rfl
  refine ⟨by have := h.1; omega, fun t ht => ?_, ef⟩
  rcases Nat.lt_or_ge t n with q | q
  · exact k_tok_up q (h0.1 t q)
  · have : t = n := by omega
    subst this
    exact ⟨pk_us.trans (by rw [es]; rfl), pk_us.trans (by rw [ef]), fun h9 => absurd es h9⟩
