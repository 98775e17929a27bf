/-! WHO STAYS AT HOME: the best so far, and the first of the fewest -/
theorem o_find_at {p : Nat → Bool} {k : Nat} : ∀ n i, (∀ j, j < k → p (i + j) = false) → p (i + k) = true → k < n → o_find p n i = i + k := by
  induction k with
  | zero =>
    intro n i _ h hn
    cases n with
    | zero => omega
    | succ n =>
      rw [Nat.add_zero] at h
      rw [o_find, if_pos h]; rfl
  | succ k ih =>
    intro n i h1 h2 hn
    cases n with
    | zero => omega
    | succ n =>
      have h0 := h1 0 (by omega)
      rw [Nat.add_zero] at h0
      rw [o_find, if_neg (by rw [h0]; decide), ih n (i + 1) (fun j hj => by rw [show i + 1 + j = i + (j + 1) by omega]; exact h1 (j + 1) (by omega)) (by rw [show i + 1 + k = i + (k + 1) by omega]; exact h2) (by omega)]
      omega
theorem o_find_no {p : Nat → Bool} : ∀ n i, (∀ j, j < n → p (i + j) = false) → o_find p n i = i + n
  | 0, i, _ => rfl
  | n + 1, i, h => by
    have h0 := h 0 (by omega)
    rw [Nat.add_zero] at h0
    rw [o_find, if_neg (by rw [h0]; decide), o_find_no n (i + 1) (fun j hj => by rw [show i + 1 + j = i + (j + 1) by omega]; exact h (j + 1) (by omega))]
    omega
def r_home (W : Nat → Bool) (c : Nat → Nat) : Nat → Option Nat
  | 0 => none
  | i + 1 => match r_home W c i with
    | none => if W i = true then some i else none
    | some b => if c i < c b ∧ W i = true then some i else some b
def r_bv : Option Nat → Int32
  | none => -1
  | some b => nI b
theorem r_home_no {W : Nat → Bool} {c : Nat → Nat} : ∀ z, r_home W c z = none → ∀ i, i < z → W i = false
  | 0, _, i, h => absurd h (Nat.not_lt_zero i)
  | z + 1, h, i, hi => by
    rw [r_home] at h
    cases e : r_home W c z with
    | none =>
      rw [e] at h
      dsimp only at h
      by_cases hw : W z = true
      · rw [if_pos hw] at h; cases h
      · rcases Nat.lt_or_ge i z with q | q
        · exact r_home_no z e i q
        · rw [show i = z by omega]; exact Bool.eq_false_iff.mpr hw
    | some b =>
      rw [e] at h
      dsimp only at h
      split at h <;> cases h
theorem r_home_is {W : Nat → Bool} {c : Nat → Nat} : ∀ z b, r_home W c z = some b → b < z ∧ W b = true ∧ (∀ i, i < z → W i = true → c b ≤ c i) ∧ ∀ i, i < b → W i = true → c b < c i
  | 0, b, h => by cases h
  | z + 1, b, h => by
    rw [r_home] at h
    cases e : r_home W c z with
    | none =>
      rw [e] at h
      dsimp only at h
      by_cases hw : W z = true
      · rw [if_pos hw] at h
        cases h
        have hn := r_home_no z e
        refine ⟨by omega, hw, fun i hi hwi => ?_, fun i hi hwi => ?_⟩
        · rcases Nat.lt_or_ge i z with q | q
          · rw [hn i q] at hwi; cases hwi
          · rw [show i = z by omega]; exact Nat.le_refl _
        · rw [hn i hi] at hwi; cases hwi
      · rw [if_neg hw] at h; cases h
    | some a =>
      rw [e] at h
      dsimp only at h
      obtain ⟨h1, h2, h3, h4⟩ := r_home_is z a e
      by_cases hw : c z < c a ∧ W z = true
      · rw [if_pos hw] at h
        cases h
        refine ⟨by omega, hw.2, fun i hi hwi => ?_, fun i hi hwi => ?_⟩
        · rcases Nat.lt_or_ge i z with q | q
          · have := h3 i q hwi; omega
          · rw [show i = z by omega]; exact Nat.le_refl _
        · have := h3 i hi hwi; omega
      · rw [if_neg hw] at h
        cases h
        refine ⟨by omega, h2, fun i hi hwi => ?_, h4⟩
        rcases Nat.lt_or_ge i z with q | q
        · exact h3 i q hwi
        · have e2 : i = z := by omega
          subst e2
          rcases Nat.lt_or_ge (c i) (c b) with q2 | q2
          · exact absurd ⟨q2, hwi⟩ hw
          · exact q2
def k_bc (i : Nat) : Nat := (j_bc (nI i)).toNatClampNeg
def w_home (F : FS) (f : Nat) (v : Int32) (n i : Nat) : Bool := !decide (v < f_bs (f_hoursC (goH i) F n) f)
theorem k_bc_le : ∀ m, m < 9 → ∀ b, b < 2 ^ m → k_bc b ≤ m := by decide +kernel
theorem k_bc_eq {b : Nat} (h : b < 256) : j_bc (nI b) = nI (k_bc b) ∧ k_bc b ≤ 8 := ⟨(j_bc_small b h).2, (j_bc_small b h).1⟩
theorem p_home_eq {F : FS} {f : Nat} {v : Int32} {n k i : Nat} (hi : i < 256) (hk : k ≤ 8) : p_home F f v n k i = (decide (k_bc i = k) && w_home F f v n i) := by
  unfold p_home w_home
  congr 1
  rw [(k_bc_eq hi).1]
  exact decide_eq_decide.mpr (nI_eq (by have := (k_bc_eq hi).2; omega) (by omega))
theorem o_home_is {X : AS} {f : Nat} {v : Int32} {n m b : Nat} (hm : m ≤ 8) (hm2 : f_wk (a_F X) = nI m) (h : r_home (w_home (a_F X) f v n) k_bc (2 ^ m) = some b) : o_homes X f v n = (nI b, X) := by
  obtain ⟨h1, h2, h3, h4⟩ := r_home_is _ b h
  have hz := kn_pow hm
  have hb := k_bc_le m (by omega) b h1
  have e1 : o_find (p_home (a_F X) f v n (k_bc b)) (2 ^ m) 0 = b := by
    refine (o_find_at (k := b) (2 ^ m) 0 (fun j hj => ?_) ?_ h1).trans (Nat.zero_add _)
    · rw [Nat.zero_add, p_home_eq (by omega) (by omega)]
      by_cases hw : w_home (a_F X) f v n j = true
      · have := h4 j hj hw
        rw [decide_eq_false (by omega), Bool.false_and]
      · rw [Bool.eq_false_iff.mpr hw, Bool.and_false]
    · rw [Nat.zero_add, p_home_eq (by omega) (by omega), h2, decide_eq_true rfl]; rfl
  have e2 : o_find (p_homes (a_F X) f v n (2 ^ m)) (m + 1) 0 = k_bc b := by
    refine (o_find_at (k := k_bc b) (m + 1) 0 (fun j hj => ?_) ?_ (by omega)).trans (Nat.zero_add _)
    · have e3 : o_find (p_home (a_F X) f v n j) (2 ^ m) 0 = 0 + 2 ^ m := by
        refine o_find_no (2 ^ m) 0 (fun i hi => ?_)
        rw [Nat.zero_add, p_home_eq (by omega) (by omega)]
        by_cases hw : w_home (a_F X) f v n i = true
        · have := h3 i hi hw
          rw [decide_eq_false (by omega), Bool.false_and]
        · rw [Bool.eq_false_iff.mpr hw, Bool.and_false]
      rw [Nat.zero_add, p_homes, e3, decide_eq_false (by omega)]
    · rw [Nat.zero_add, p_homes, e1, decide_eq_true h1]
  unfold o_homes
  rw [f_mm hm hm2, e2, if_pos hb, e1]
theorem o_home_no {X : AS} {f : Nat} {v : Int32} {n m : Nat} (hm : m ≤ 8) (hm2 : f_wk (a_F X) = nI m) (h : r_home (w_home (a_F X) f v n) k_bc (2 ^ m) = none) : o_homes X f v n = a_fin X 3 := by
  have hn := r_home_no _ h
  have hz := kn_pow hm
  have e2 : o_find (p_homes (a_F X) f v n (2 ^ m)) (m + 1) 0 = 0 + (m + 1) := o_find_no (m + 1) 0 (fun j hj => by
    rw [Nat.zero_add, p_homes, o_find_no (2 ^ m) 0 (fun i hi => by
      rw [Nat.zero_add, p_home_eq (by omega) (by omega), hn i hi, Bool.and_false]), decide_eq_false (by omega)])
  unfold o_homes
  rw [f_mm hm hm2, e2, if_neg (by omega)]
theorem goH_gn : ∀ i, i < 256 → ∀ w, w < 8 → f_gn (nI i) w = goH i w := by decide +kernel
theorem hH_bs {F : FS} {m i : Nat} (hi : i < 256) (hm : m ≤ 8) (hm2 : f_wk F = nI m) (n f : Nat) : f_bs (f_hoursR (f_gn (nI i)) F n) f = f_bs (f_hoursC (goH i) F n) f := by
  rw [f_hoursR_bs, f_hoursC_cg (go' := goH i) (fun w hw => goH_gn i hi w (by have := hC_m hm hm2; omega))]
theorem r_home_y0 {W : Nat → Bool} {c : Nat → Nat} {i : Nat} (h : r_home W c i = none) (hw : W i = true) : r_home W c (i + 1) = some i := by rw [r_home, h]; exact if_pos hw
theorem r_home_n0 {W : Nat → Bool} {c : Nat → Nat} {i : Nat} (h : r_home W c i = none) (hw : ¬ W i = true) : r_home W c (i + 1) = none := by rw [r_home, h]; exact if_neg hw
theorem r_home_y1 {W : Nat → Bool} {c : Nat → Nat} {i b : Nat} (h : r_home W c i = some b) (hc : c i < c b) (hw : W i = true) : r_home W c (i + 1) = some i := by rw [r_home, h]; exact if_pos ⟨hc, hw⟩
theorem r_home_n1 {W : Nat → Bool} {c : Nat → Nat} {i b : Nat} (h : r_home W c i = some b) (hw : ¬ W i = true) : r_home W c (i + 1) = some b := by rw [r_home, h]; exact if_neg (fun q => hw q.2)
theorem r_home_m1 {W : Nat → Bool} {c : Nat → Nat} {i b : Nat} (h : r_home W c i = some b) (hc : ¬ c i < c b) : r_home W c (i + 1) = some b := by rw [r_home, h]; exact if_neg (fun q => hc q.1)
