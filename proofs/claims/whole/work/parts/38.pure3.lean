/-! BITS COUNTED ONE BY ONE; THE LOWEST; ROWS LAID BACK -/
def r_many : Nat → Int32 → Int32 → Int32
  | 0, _, n => n
  | k + 1, x, n => if x = 0 then n else r_many k (x &&& (x - 1)) (n + 1)
def r_ends : Nat → Int32 → Bool
  | 0, x => decide (x = 0)
  | k + 1, x => decide (x = 0) || r_ends k (x &&& (x - 1))
theorem r_many_0 (k : Nat) (n : Int32) : r_many k 0 n = n := by
  cases k with
  | zero => rfl
  | succ k => rw [r_many, if_pos rfl]
theorem r_step {k : Nat} {x : Int32} (h : ¬ x = 0) (h1 : r_ends k x = true) : 1 ≤ k ∧ r_ends (k - 1) (x &&& (x - 1)) = true ∧ ∀ n, r_many k x n = r_many (k - 1) (x &&& (x - 1)) (n + 1) := by
  cases k with
  | zero => exact absurd (of_decide_eq_true h1) h
  | succ k =>
    refine ⟨by omega, ?_, fun n => ?_⟩
    · rw [r_ends, decide_eq_false h, Bool.false_or] at h1; exact h1
    · rw [r_many, if_neg h]; rfl
theorem r_many_bc : ∀ t : Nat, t < 256 → r_ends 8 (nI t) = true ∧ r_many 8 (nI t) 0 = j_bc (nI t) := by decide +kernel
def r_bit (t k : Nat) : Bool := decide ((nI t >>> (nI k &&& 31)) &&& 1 = 0)
def r_low (t : Nat) : Nat := if t = 0 then 0 else (j_ntz (nI t)).toNatClampNeg
def r_lowB (t : Nat) : Bool := decide (r_low t ≤ 8) && (decide (t = 0) || (decide (j_ntz (nI t) = nI (r_low t)) && !r_bit t (r_low t))) && (List.range (r_low t)).all (fun k => r_bit t k)
theorem r_lowOk : ∀ t : Nat, t < 512 → r_lowB t = true := by decide +kernel
theorem r_lowE {t : Nat} (ht : t < 512) : ∃ z : Nat, z ≤ 8 ∧ (¬ t = 0 → j_ntz (nI t) = nI z ∧ ¬ ((nI t >>> (nI z &&& 31)) &&& 1 = 0)) ∧ ∀ k, k < z → (nI t >>> (nI k &&& 31)) &&& 1 = 0 := by
  have h := r_lowOk t ht
  unfold r_lowB at h
  rw [Bool.and_eq_true, Bool.and_eq_true, List.all_eq_true] at h
  obtain ⟨⟨h1, h2⟩, h3⟩ := h
  refine ⟨r_low t, of_decide_eq_true h1, fun h0 => ?_, fun k hk => ?_⟩
  · rw [decide_eq_false h0, Bool.false_or, Bool.and_eq_true] at h2
    refine ⟨of_decide_eq_true h2.1, fun h9 => ?_⟩
    have h4 := h2.2
    rw [r_bit, decide_eq_true h9] at h4
    exact absurd h4 (by decide)
  · exact of_decide_eq_true (h3 k (List.mem_range.mpr hk))
theorem upd_upd (f : Nat → Int32) (k : Nat) (x y : Int32) : upd (upd f k x) k y = upd f k y := by
  funext j
  by_cases e : j = k
  · rw [e, pk_us, pk_us]
  · rw [pk_un e, pk_un e, pk_un e]
theorem f_rr (F : FS) {k : Nat} (hk : k < 5) (w : Nat) (x y : Int32) : f_setrow (f_setrow F k (upd (f_row F k) w x)) k (upd (f_row (f_setrow F k (upd (f_row F k) w x)) k) w y) = f_setrow F k (upd (f_row F k) w y) := by
  rw [row_set F hk _ hk, if_pos rfl, upd_upd]
  rcases (show k = 0 ∨ k = 1 ∨ k = 2 ∨ k = 3 ∨ k = 4 by omega) with rfl | rfl | rfl | rfl | rfl <;> rfl
theorem f_rself (F : FS) {k : Nat} (hk : k < 5) (w : Nat) : f_setrow F k (upd (f_row F k) w (f_row F k w)) = F := by
  rw [upd_self]
  rcases (show k = 0 ∨ k = 1 ∨ k = 2 ∨ k = 3 ∨ k = 4 by omega) with rfl | rfl | rfl | rfl | rfl <;> rfl
theorem f_rback (F : FS) {k : Nat} (hk : k < 5) (w : Nat) (x : Int32) : f_setrow (f_setrow F k (upd (f_row F k) w x)) k (upd (f_row (f_setrow F k (upd (f_row F k) w x)) k) w (f_row F k w)) = F := by rw [f_rr F hk, f_rself F hk]
theorem f_gback (F : FS) (g : Nat) (x : Int32) : f_setgs (f_setgs F (upd (f_gs F) g x)) (upd (f_gs (f_setgs F (upd (f_gs F) g x))) g (f_gs F g)) = F := by
  show f_setgs (f_setgs F (upd (f_gs F) g x)) (upd (upd (f_gs F) g x) g (f_gs F g)) = F
  rw [upd_upd, upd_self]; rfl
theorem f_ok_md {F : FS} (h : f_ok F) {w v : Nat} (hv : v ≤ 9) : f_ok (f_setrow F 3 (upd (f_row F 3) w (nI v))) := by
  refine ⟨fun u hu => ?_, h.2⟩
  show ∃ a : Nat, a ≤ 9 ∧ upd (f_md F) w (nI v) u = nI a
  by_cases e : u = w
  · rw [e, pk_us]; exact ⟨v, hv, rfl⟩
  · rw [pk_un e]; exact h.1 u hu
theorem f_ok_g0 {F : FS} (h : f_ok F) {g : Nat} : f_ok (f_setgs F (upd (f_gs F) g 0)) := by
  refine ⟨h.1, fun k hk => ?_⟩
  show ∃ b : Nat, b ≤ 3 ∧ upd (f_gs F) g 0 k = nI b
  by_cases e : k = g
  · rw [e, pk_us]; exact ⟨0, by omega, rfl⟩
  · rw [pk_un e]; exact h.2 k hk
theorem f_vset_nat (F : FS) (k w g : Nat) (s : Int32) (n : Nat) : ∀ v, v ≤ 9 → ∃ t, t < 2 ^ v ∧ f_vset F k w g s n v = nI t
  | 0, _ => ⟨0, by omega, rfl⟩
  | v + 1, hv => by
    obtain ⟨t, ht, e⟩ := f_vset_nat F k w g s n v (by omega)
    rw [f_vset, e]
    split
    · exact ⟨2 ^ v + t, by rw [Nat.pow_succ]; omega, kn_bit (by omega) ht⟩
    · exact ⟨t, by rw [Nat.pow_succ]; omega, rfl⟩
theorem f_mn_lt {v f : Int32} (h : v < f) : f_mn v f = v := by
  rw [f_mn, if_neg]
  intro h9
  rw [fa_lt] at h h9
  omega
theorem f_mn_ge {v f : Int32} (h : ¬ v < f) : f_mn v f = f := by
  rw [f_mn]
  by_cases h9 : f < v
  · rw [if_pos h9]
  · rw [if_neg h9]
    rw [fa_lt] at h h9
    exact Int32.toInt_inj.mp (by omega)
