/-! GALES, BYTES, SHEETS LAID INTO ONE ROW -/
def f_galesR (F : FS) : Nat → FS
  | 0 => F
  | i + 1 => f_hourR (f_gn 0) (f_ga3 (f_galesR F i))
theorem f_galesR_wk (F : FS) (n : Nat) : f_wk (f_galesR F n) = f_wk F := by
  induction n with
  | zero => rfl
  | succ n ih => rw [f_galesR, f_hourR_wk, f_ga3_wk, ih]
theorem f_ok_ga3 {F : FS} (h : f_ok F) : f_ok (f_ga3 F) := by
  refine ⟨h.1, fun k hk => ?_⟩
  show ∃ b : Nat, b ≤ 3 ∧ upd (f_gs F) _ 2 k = nI b
  by_cases e : k = (f_r8 (f_drw (f_nz (f_nz (f_zz F))))).toNatClampNeg
  · rw [e, pk_us]; exact ⟨2, by omega, rfl⟩
  · rw [pk_un e]; exact h.2 k hk
theorem f_ok_galesR {F : FS} (h : f_ok F) (hm : f_m F ≤ 8) : ∀ n, f_ok (f_galesR F n)
  | 0 => h
  | n + 1 => f_ok_hourR _ (f_ok_ga3 (f_ok_galesR h hm n)) (by rw [f_m, f_ga3_wk, f_galesR_wk]; exact hm)
theorem f_setz_hr (F : FS) (z : Int32) : f_hr (f_setz F z) = f_hr F := rfl
theorem f_setwd_hr (F : FS) (z : Int32) : f_hr (f_setwd F z) = f_hr F := rfl
theorem f_setgs_hr (F : FS) (g : Nat → Int32) : f_hr (f_setgs F g) = f_hr F := rfl
theorem f_ga3_hr (F : FS) : f_hr (f_ga3 F) = f_hr F := by rw [f_ga3, f_setgs_hr, f_ga2, f_setz_hr, f_ga1, f_setwd_hr, f_setz_hr]
theorem f_galesRC {F : FS} {h : Nat} (hm : f_m F ≤ 8) (e : f_hr F = nI h) : ∀ n, h + n ≤ 99999 → f_galesR F n = f_gales F n ∧ f_hr (f_gales F n) = nI (h + n)
  | 0, _ => ⟨rfl, e⟩
  | n + 1, hn => by
    obtain ⟨e1, e2⟩ := f_galesRC hm e n (by omega)
    have e3 : f_hr (f_ga3 (f_gales F n)) = nI (h + n) := (f_ga3_hr _).trans e2
    have hm3 : f_m (f_ga3 (f_gales F n)) ≤ 8 := by rw [f_m, f_ga3_wk, f_gales_wk]; exact hm
    have e4 : f_hourR (f_gn 0) (f_ga3 (f_gales F n)) = f_hourC goA (f_ga3 (f_gales F n)) :=
      (f_hoursR_C (f_gn 0) _ (n := 1) e3 (by omega)).trans (f_allC hm3 1)
    refine ⟨by rw [f_galesR, e1, e4]; rfl, ?_⟩
    exact f_hoursC_hr goA _ e3 1 (by omega)
theorem f_gaC {F : FS} {m n : Nat} (hm : m ≤ 8) (hm2 : f_wk F = nI m) (hh : ∃ h : Nat, h ≤ 99999 ∧ f_hr F = nI h) (hn : n ≤ 60) (c : f_hr F + nI n ≤ 99999) : f_galesR F n = f_gales F n := by
  obtain ⟨h, h1, h2⟩ := hh
  rw [h2, kn_add] at c
  have h3 := (nI_leI (a := h + n) (b := 99999) (by omega) (by omega)).mp c
  exact (f_galesRC (hC_m hm hm2) h2 n h3).1
theorem bv_sh (x : BitVec 32) (k : Nat) (hk : k ≤ 24) : x.sshiftRight k &&& 255#32 = (x >>> k) &&& 255#32 := by
  apply BitVec.eq_of_getLsbD_eq
  intro i hi
  rw [BitVec.getLsbD_and, BitVec.getLsbD_and, BitVec.getLsbD_sshiftRight, BitVec.getLsbD_ushiftRight]
  by_cases h : i < 8
  · rw [decide_eq_false (by omega), if_pos (by omega)]; rfl
  · have e : (255#32).getLsbD i = false := by
      have : ∀ j, j < 32 → ¬ j < 8 → (255#32).getLsbD j = false := by decide
      exact this i hi h
    rw [e, Bool.and_false, Bool.and_false]
theorem fd_sh (b : Int32) : ∀ i : Nat, i < 4 → (b >>> (nI (8 * i) &&& 31)) &&& 255 = j_us b (nI (8 * i)) &&& 255 := by
  intro i hi
  rcases (show i = 0 ∨ i = 1 ∨ i = 2 ∨ i = 3 by omega) with rfl | rfl | rfl | rfl
  · exact Int32.toBitVec_inj.mp (bv_sh b.toBitVec 0 (by omega))
  · exact Int32.toBitVec_inj.mp (bv_sh b.toBitVec 8 (by omega))
  · exact Int32.toBitVec_inj.mp (bv_sh b.toBitVec 16 (by omega))
  · exact Int32.toBitVec_inj.mp (bv_sh b.toBitVec 24 (by omega))
theorem m_bt_up (S : Nat → SS) (t : Nat) (nm : Nat → Int32) (b z : Int32) : upd (m_bt S) t (if b = 0 then -1 else b) = m_bt (k_upS S t (nm, b, z)) := by
  funext k
  unfold m_bt k_upS
  by_cases e : k = t
  · rw [e, pk_us, if_pos rfl]
  · rw [pk_un e, if_neg e]
theorem m_sz_up (S : Nat → SS) (t : Nat) (nm : Nat → Int32) (b z : Int32) : upd (m_sz S) t z = m_sz (k_upS S t (nm, b, z)) := by
  funext k
  unfold m_sz k_upS
  by_cases e : k = t
  · rw [e, pk_us, if_pos rfl]
  · rw [pk_un e, if_neg e]
theorem m_bt_sm (S : Nat → SS) (t : Nat) (nm : Nat → Int32) : m_bt S = m_bt (k_upS S t (nm, s_bt (S t), s_sz (S t))) := by
  funext k
  unfold m_bt k_upS
  by_cases e : k = t
  · rw [e, if_pos rfl]
  · rw [if_neg e]
theorem m_sz_sm (S : Nat → SS) (t : Nat) (nm : Nat → Int32) : m_sz S = m_sz (k_upS S t (nm, s_bt (S t), s_sz (S t))) := by
  funext k
  unfold m_sz k_upS
  by_cases e : k = t
  · rw [e, if_pos rfl]
  · rw [if_neg e]
theorem m_nm_up (S : Nat → SS) {t i : Nat} (hi : i < 40) (v b z : Int32) : upd (m_nm S) (40 * t + i) v = m_nm (k_upS S t (upd (s_nm (S t)) i v, b, z)) := by
  funext k
  unfold m_nm k_upS
  by_cases e : k = 40 * t + i
  · rw [e, pk_us, show (40 * t + i) / 40 = t by omega, show (40 * t + i) % 40 = i by omega, if_pos rfl]
    exact pk_us.symm
  · rw [pk_un e]
    by_cases h : k / 40 = t
    · rw [if_pos h, h]
      exact (pk_un (by omega)).symm
    · rw [if_neg h]
def m_clr (f : Nat → Int32) (t : Nat) : Nat → Nat → Int32
  | 0 => f
  | i + 1 => upd (m_clr f t i) (40 * t + i) 0
theorem m_clr_at (f : Nat → Int32) (t k : Nat) : ∀ n, m_clr f t n k = if 40 * t ≤ k ∧ k < 40 * t + n then 0 else f k
  | 0 => by rw [m_clr, if_neg (by omega)]
  | n + 1 => by
    rw [m_clr]
    by_cases e : k = 40 * t + n
    · rw [e, pk_us, if_pos (by omega)]
    · rw [pk_un e, m_clr_at f t k n]
      by_cases h : 40 * t ≤ k ∧ k < 40 * t + n
      · rw [if_pos h, if_pos (by omega)]
      · rw [if_neg h, if_neg (by omega)]
theorem s_clr_at (S : SS) (k : Nat) : ∀ n, k < n → s_clr S n k = 0
  | 0, h => absurd h (Nat.not_lt_zero k)
  | n + 1, h => by
    rw [s_clr]
    by_cases e : k = n
    · rw [e, pk_us]
    · rw [pk_un e]; exact s_clr_at S k n (by omega)
theorem m_nm_clr (S : Nat → SS) (t : Nat) (b z : Int32) : m_clr (m_nm S) t 40 = m_nm (k_upS S t (s_clr (S t) 40, b, z)) := by
  funext k
  rw [m_clr_at]
  unfold m_nm k_upS
  by_cases h : k / 40 = t
  · rw [if_pos (by omega), if_pos h]
    exact (s_clr_at _ _ 40 (by omega)).symm
  · rw [if_neg (by omega), if_neg h]
