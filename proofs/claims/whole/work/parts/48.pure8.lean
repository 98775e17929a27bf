/-! SHEETS OF THE MODEL, CHANGED -/
theorem bt_ge {b : Int32} (h : isBits b) : 0 ≤ b := by
  rcases h with rfl | rfl | rfl | rfl <;> decide
theorem wM_nm {Z : kz_Z} {B : Nat → Nat} {F K : FS} {kp : Int32} {fd : Nat → Int32} {tp : TP} {S : Nat → SS} {D : DJ} {t : Nat} {nm f : Nat → Int32} (h : f = m_nm (k_upS S t (nm, s_bt (S t), s_sz (S t)))) :
    (w_M Z B (F, K, kp, fd, tp, S) D).set 9 (B 9, .inl (Z.2.1 0, 160, .inl f)) = w_M Z B (F, K, kp, fd, tp, k_upS S t (nm, s_bt (S t), s_sz (S t))) D := by
  subst h
  have e1 := m_bt_sm S t nm
  have e2 := m_sz_sm S t nm
  simp only [w_M, List.set_cons_succ, List.set_cons_zero]
  rw [e1, e2]
theorem wM_sh {Z : kz_Z} {B : Nat → Nat} {F K : FS} {kp : Int32} {fd : Nat → Int32} {tp : TP} {S : Nat → SS} {D : DJ} {t : Nat} {b z : Int32} {f g h : Nat → Int32} (h7 : f = m_bt (k_upS S t (s_clr (S t) 40, b, z))) (h8 : g = m_sz (k_upS S t (s_clr (S t) 40, b, z))) (h9 : h = m_nm (k_upS S t (s_clr (S t) 40, b, z))) :
    (((w_M Z B (F, K, kp, fd, tp, S) D).set 7 (B 7, .inl (Z.2.1 0, 4, .inl f))).set 8 (B 8, .inl (Z.2.1 0, 4, .inl g))).set 9 (B 9, .inl (Z.2.1 0, 160, .inl h)) = w_M Z B (F, K, kp, fd, tp, k_upS S t (s_clr (S t) 40, b, z)) D := by
  subst h7 h8 h9
  rfl
theorem s_has_iff {z : Nat} {f n : Int32} (hz : z ≤ 40) (hf : ¬ f < 0) (hn : ¬ n < 0) : s_has (nI z) f n ↔ n ≤ nI z - f := by
  obtain ⟨a, ha, rfl⟩ := nI_of hf
  obtain ⟨b, hb, rfl⟩ := nI_of hn
  have e1 : (nI z).toInt = z := nI_toInt (by omega)
  have e2 : (nI a).toInt = a := nI_toInt ha
  have e3 : (nI b).toInt = b := nI_toInt hb
  have e4 : (nI z - nI a).toInt = (z : Int) - a := by
    rw [Int32.toInt_sub, e1, e2]
    exact Int.bmod_eq_of_le (by omega) (by omega)
  have e5 : (nI z - nI b).toInt = (z : Int) - b := by
    rw [Int32.toInt_sub, e1, e3]
    exact Int.bmod_eq_of_le (by omega) (by omega)
  unfold s_has
  rw [fa_lt, fa_lt, fa_lt, fa_lt, fa_le, e1, e2, e3, e4, e5, show (0 : Int32).toInt = 0 from rfl]
  omega
/-- the row's own way: forth where it lies behind, else back -/
def m_cpi (a b n k : Nat) : Nat := if a < b then n - 1 - k else k
def m_cp (g : Nat → Int32) (a b n : Nat) : Nat → Nat → Int32
  | 0 => g
  | k + 1 => upd (m_cp g a b n k) (b + m_cpi a b n k) (m_cp g a b n k (a + m_cpi a b n k))
theorem m_cp_at (g : Nat → Int32) (a b n : Nat) : ∀ k, k ≤ n → ∀ j, m_cp g a b n k j = if (a < b ∧ b + n - k ≤ j ∧ j < b + n) ∨ (¬ a < b ∧ b ≤ j ∧ j < b + k) then g (j - b + a) else g j
  | 0, _, j => by rw [m_cp, if_neg (by omega)]
  | k + 1, hk, j => by
    have ih := m_cp_at g a b n k (by omega)
    rw [m_cp]
    by_cases hab : a < b
    · have ei : m_cpi a b n k = n - 1 - k := by rw [m_cpi, if_pos hab]
      rw [ei]
      by_cases e : j = b + (n - 1 - k)
      · rw [e, pk_us, ih, if_neg (by omega), if_pos (by omega)]
        congr 1
        omega
      · rw [pk_un e, ih]
        by_cases h : b + n - k ≤ j ∧ j < b + n
        · rw [if_pos (by omega), if_pos (by omega)]
        · rw [if_neg (by omega), if_neg (by omega)]
    · have ei : m_cpi a b n k = k := by rw [m_cpi, if_neg hab]
      rw [ei]
      by_cases e : j = b + k
      · rw [e, pk_us, ih, if_neg (by omega), if_pos (by omega)]
        congr 1
        omega
      · rw [pk_un e, ih]
        by_cases h : b ≤ j ∧ j < b + k
        · rw [if_pos (by omega), if_pos (by omega)]
        · rw [if_neg (by omega), if_neg (by omega)]
theorem m_cp_end (g : Nat → Int32) (a b n j : Nat) : m_cp g a b n n j = if b ≤ j ∧ j < b + n then g (j - b + a) else g j := by
  rw [m_cp_at g a b n n (Nat.le_refl n)]
  by_cases h : b ≤ j ∧ j < b + n
  · rw [if_pos h, if_pos (by omega)]
  · rw [if_neg h, if_neg (by omega)]
