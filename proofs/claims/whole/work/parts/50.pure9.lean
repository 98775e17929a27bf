/-! COPIES IN ONE ROW; FRACTIONS BY HALVES -/
theorem m_cpi_lt {a b n k : Nat} (h : k < n) : m_cpi a b n k < n := by
  unfold m_cpi
  split <;> omega
theorem kn_sub2 {k i : Nat} (h : i < k) : nI k - 1 - nI i = nI (k - 1 - i) := by
  obtain ⟨j, rfl⟩ : ∃ j, k = j + 1 := ⟨k - 1, by omega⟩
  rw [nI_pred, pk_sub (a := j) (by omega)]; rfl
theorem m_cp_cpy (S : Nat → SS) {y x a b n : Nat} (ha : a + n ≤ 40) (hb : b + n ≤ 40) (u z : Int32) : m_cp (m_nm S) (40 * y + a) (40 * x + b) n n = m_nm (k_upS S x (va_cpy (s_nm (S y)) (s_nm (S x)) a b n, u, z)) := by
  funext j
  rw [m_cp_end]
  show _ = s_nm (if j / 40 = x then (va_cpy (s_nm (S y)) (s_nm (S x)) a b n, u, z) else S (j / 40)) (j % 40)
  by_cases h : 40 * x + b ≤ j ∧ j < 40 * x + b + n
  · rw [if_pos h, if_pos (by omega)]
    show _ = (if b ≤ j % 40 ∧ j % 40 < b + n then _ else _)
    rw [if_pos (by omega), ← m_nm_at S (by omega)]
    congr 1
    omega
  · rw [if_neg h]
    by_cases h2 : j / 40 = x
    · rw [if_pos h2]
      show _ = (if b ≤ j % 40 ∧ j % 40 < b + n then _ else _)
      rw [if_neg (by omega)]
      unfold m_nm
      rw [h2]
    · rw [if_neg h2]; rfl
theorem o_copys_no {X : AS} {y x : Nat} {f t n : Int32} (h1 : ¬ s_bt (a_S X y) = 0) (h2 : ¬ s_bt (a_S X x) = 0) (h3 : s_bt (a_S X y) = s_bt (a_S X x)) (hno : ¬ (s_has (s_sz (a_S X y)) f n ∧ s_has (s_sz (a_S X x)) t n)) : o_copys X y f x t n = a_fin X 0 := by
  unfold o_copys
  rw [if_neg h1, if_neg h2, if_pos h3]
  by_cases h4 : s_has (s_sz (a_S X y)) f n
  · rw [if_pos h4, if_neg (fun h5 => hno ⟨h4, h5⟩)]
  · rw [if_neg h4]
theorem o_copys_yes {X : AS} {y x : Nat} {f t n : Int32} (h1 : ¬ s_bt (a_S X y) = 0) (h2 : ¬ s_bt (a_S X x) = 0) (h3 : s_bt (a_S X y) = s_bt (a_S X x)) (h4 : s_has (s_sz (a_S X y)) f n) (h5 : s_has (s_sz (a_S X x)) t n) : o_copys X y f x t n = o_copyd X y f x t n := by
  unfold o_copys
  rw [if_neg h1, if_neg h2, if_pos h3, if_pos h4, if_pos h5]
def r_p8 : Nat → Int64
  | 0 => 1
  | i + 1 => r_p8 i * 8
abbrev r_ev (x : Int64) : Prop := lg_cmp (x - x / 2 * 2) 0 = 0
def r_hv : Nat → Int64 → Int64 → Int64 × Int64
  | 0, a, b => (a, b)
  | k + 1, a, b => if r_ev a ∧ r_ev b then r_hv k (a / 2) (b / 2) else (a, b)
def r_hvE : Nat → Int64 → Int64 → Bool
  | 0, a, b => !decide (r_ev a ∧ r_ev b)
  | k + 1, a, b => !decide (r_ev a ∧ r_ev b) || r_hvE k (a / 2) (b / 2)
theorem r_hv_end {k : Nat} {a b : Int64} (h : ¬ (r_ev a ∧ r_ev b)) : r_hv k a b = (a, b) := by
  cases k with
  | zero => rfl
  | succ k => rw [r_hv, if_neg h]
theorem r_hv_step {k : Nat} {a b : Int64} (h : r_ev a ∧ r_ev b) (h1 : r_hvE k a b = true) : 1 ≤ k ∧ r_hvE (k - 1) (a / 2) (b / 2) = true ∧ r_hv k a b = r_hv (k - 1) (a / 2) (b / 2) := by
  cases k with
  | zero => rw [r_hvE, decide_eq_true h] at h1; exact absurd h1 (by decide)
  | succ k =>
    refine ⟨by omega, ?_, ?_⟩
    · rw [r_hvE, decide_eq_true h, Bool.not_true, Bool.false_or] at h1; exact h1
    · rw [r_hv, if_pos h]; rfl
theorem od_all : ∀ c, c < 9 → ∀ n, n < 21 → r_hvE 61 (j_pow (nI c) n) (if lg_cmp (j_pow (nI c) n) 0 = 0 then 1 else r_p8 n) = true ∧ r_hv 61 (j_pow (nI c) n) (if lg_cmp (j_pow (nI c) n) 0 = 0 then 1 else r_p8 n) = (j_pow (o_above8 c) n, j_pow (o_below8 c) n) := by decide +kernel
