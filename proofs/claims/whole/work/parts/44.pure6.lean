/-! KINDS UNDER KINDS, COUNTS, THE BEST SO FAR AS A NUMBER -/
theorem bc_le {b i : Nat} (hb : b < 256) (hi : i < 256) : j_bc (nI b) ≤ j_bc (nI i) ↔ k_bc b ≤ k_bc i := by
  rw [(k_bc_eq hb).1, (k_bc_eq hi).1]
  exact nI_leI (by have := (k_bc_eq hb).2; omega) (by have := (k_bc_eq hi).2; omega)
def r_und (a b : Nat) : Bool := decide (b = 0 ∨ a = b ∨ (b = 2 ∧ (a = 3 ∨ a = 4)) ∨ (b = 3 ∧ a = 4) ∨ (b = 1 ∧ a = 6))
theorem j_und : ∀ a, a < 7 → ∀ b, b < 7 → j_under 7 (nI a) (nI b) = r_und a b := by decide +kernel
/-- kinds are 0 to 6, spots hold walkers or nobody -/
def f_kok (F : FS) : Prop := ∀ w, w < 8 → ∃ a : Nat, a ≤ 6 ∧ f_kd F w = nI a
def f_hok (F : FS) (m : Nat) : Prop := ∀ k, k < 10 → f_hd F k = -1 ∨ ∃ j : Nat, j < m ∧ f_hd F k = nI j
theorem isW_j {X : AS} {m j : Nat} (hm : m ≤ 8) (hm2 : f_wk (a_F X) = nI m) (hj : j < m) : isW X (nI j) := isW_of hm hm2 (nI_pos (by omega)) (fun h => by have := (nI_leI (a := m) (b := j) (by omega) (by omega)).mp h; omega)
theorem isW_m1 {X : AS} : ¬ isW X (-1) := fun h => absurd h.1 (by decide)
theorem f_spn_neg {F : FS} {k : Nat} (h : ¬ 0 ≤ f_hd F k) (hh : f_hd F k = -1 ∨ ∃ j : Nat, j < 8 ∧ f_hd F k = nI j) : f_spn F k + 0 = f_spn F (k + 1) := by
  rcases hh with e | ⟨j, hj, e⟩
  · rw [f_spn, if_pos e, Int32.add_zero]
  · rw [e] at h; exact absurd (nI_pos' (by omega)) h
theorem f_spn_pos {F : FS} {k : Nat} (h : 0 ≤ f_hd F k) : f_spn F k + 1 = f_spn F (k + 1) := by
  rw [f_spn, if_neg (fun e => by rw [e] at h; exact absurd h (by decide))]
theorem st_ix {x : Int32} (f : Nat → Int32) (h : inR x (-1) 6) : ∃ j : Nat, j ≤ 7 ∧ x + 1 = nI j ∧ m_fd f j = if 0 ≤ x then f x.toNatClampNeg else a_sum f 7 := by
  by_cases h0 : 0 ≤ x
  · obtain ⟨j, hj, rfl⟩ := kn_m1 h h0
    refine ⟨j + 1, by omega, nI_1 .., ?_⟩
    rw [if_pos h0, nI_clamp (by omega)]; rfl
  · have e : x = -1 := by
      have h1 := h.1
      rw [fa_le] at h0 h1
      exact Int32.toInt_inj.mp (by
        have e1 : (-1 : Int32).toInt = -1 := rfl
        have e2 : (0 : Int32).toInt = 0 := rfl
        rw [e1] at h1
        rw [e2] at h0
        rw [e1]
        omega)
    subst e
    exact ⟨0, by omega, by decide, by rw [if_neg h0]; rfl⟩
