/-! ROWS ARE COPIED; WHAT WILL BE, IN THE CLASS'S WORDS -/
def k_cp (f g : Nat → Int32) : Nat → Nat → Int32
  | 0 => g
  | k + 1 => upd (k_cp f g k) k (f k)
theorem k_cp_at (f g : Nat → Int32) {j : Nat} : ∀ n, j < n → k_cp f g n j = f j
  | 0, h => absurd h (Nat.not_lt_zero j)
  | n + 1, h => by
    rw [k_cp]
    by_cases e : j = n
    · rw [e, pk_us]
    · rw [pk_un e]; exact k_cp_at f g n (by omega)
theorem hC_m {F : FS} {m : Nat} (hm : m ≤ 8) (hm2 : f_wk F = nI m) : f_m F ≤ 8 := by rw [f_mm hm hm2]; exact hm
theorem hC_bs {F : FS} {m : Nat} (hm : m ≤ 8) (hm2 : f_wk F = nI m) (n f : Nat) : f_bs (f_hoursR (f_gn 0) F n) f = f_bs (f_hoursC goA F n) f := by rw [f_hoursR_bs, f_allC (hC_m hm hm2)]
theorem hC_gs {F : FS} {m : Nat} (hm : m ≤ 8) (hm2 : f_wk F = nI m) (n f : Nat) : f_gs (f_hoursR (f_gn 0) F n) f = f_gs (f_hoursC goA F n) f := by rw [f_hoursR_gs, f_allC (hC_m hm hm2)]
theorem hC_fd {F : FS} {m : Nat} (hm : m ≤ 8) (hm2 : f_wk F = nI m) (n f : Nat) : f_fd (f_hoursR (f_gn 0) F n) f = f_fd (f_hoursC goA F n) f := by rw [f_hoursR_fd, f_allC (hC_m hm hm2)]
theorem hC_md {F : FS} {m : Nat} (hm : m ≤ 8) (hm2 : f_wk F = nI m) (n f : Nat) : f_md (f_hoursR (f_gn 0) F n) f = f_md (f_hoursC goA F n) f := by rw [f_hoursR_md, f_allC (hC_m hm hm2)]
theorem f_goC {F : FS} {m n : Nat} (hm : m ≤ 8) (hm2 : f_wk F = nI m) (hh : ∃ h : Nat, h ≤ 99999 ∧ f_hr F = nI h) (hn : n ≤ 60) (c : f_hr F + nI n ≤ 99999) : f_hoursR (f_gn 0) F n = f_hoursC goA F n := by
  obtain ⟨h, h1, h2⟩ := hh
  rw [h2, kn_add] at c
  have h3 := (nI_leI (a := h + n) (b := 99999) (by omega) (by omega)).mp c
  rw [f_hoursR_C _ F h2 h3, f_allC (hC_m hm hm2)]
