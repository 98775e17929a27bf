/-! SHEETS OF THE MODEL -/
theorem m_nm_at (S : Nat → SS) {t k : Nat} (hk : k < 40) : m_nm S (40 * t + k) = s_nm (S t) k := by
  unfold m_nm
  rw [show (40 * t + k) / 40 = t by omega, show (40 * t + k) % 40 = k by omega]
abbrev a_btok (X : AS) : Prop := ∀ s, s < 4 → isBits (s_bt (a_S X s))
theorem m_bt_lt {b : Int32} (h : isBits b) : (if b = 0 then (-1 : Int32) else b) < 0 ↔ b = 0 := by
  rcases h with rfl | rfl | rfl | rfl <;> decide
def k_ab (m w : Nat) : Int32 := (((1 : Int32) <<< (nI m &&& 31)) - 1) &&& (((1 : Int32) <<< (nI w &&& 31)) ^^^ (-1))
theorem k_ab_gm : ∀ m, m < 9 → ∀ w, w < 8 → ∀ u, u < m → f_gn (k_ab m w) u = f_gm ((1 : Int32) <<< (nI w &&& 31)) u := by decide +kernel
theorem told_1 {nm gs : Nat → Int32} {i : Nat} (h : nm i = -1 ∨ nm i = gs i) : (if f_told nm gs i = true then (1 : Int32) else 0) &&& 1 = if f_told nm gs (i + 1) = true then 1 else 0 := by
  have e : (decide (nm i = -1) || decide (nm i = gs i)) = true := by
    rcases h with h | h
    · rw [decide_eq_true h, Bool.true_or]
    · rw [decide_eq_true h, Bool.or_true]
  rw [f_told, e, Bool.and_true]
  by_cases q : f_told nm gs i = true
  · rw [if_pos q]; rfl
  · rw [if_neg q]; rfl
theorem told_0 {nm gs : Nat → Int32} {i : Nat} (h1 : ¬ nm i = -1) (h2 : ¬ nm i = gs i) : (if f_told nm gs i = true then (1 : Int32) else 0) &&& 0 = if f_told nm gs (i + 1) = true then 1 else 0 := by
  rw [f_told, decide_eq_false h1, decide_eq_false h2, Bool.or_false, Bool.and_false, Int32.and_zero]; rfl
theorem told_C {X : AS} {F : FS} {m : Nat} (hm : m ≤ 8) (hm2 : f_wk F = nI m) (s : Nat) {w : Nat} (hw : w < 8) (n : Nat) : p_told X s (f_hoursR (f_gn (k_ab m w)) F n) = p_told X s (f_hoursC (f_gm ((1 : Int32) <<< (nI w &&& 31))) F n) := by
  unfold p_told
  rw [f_hoursR_gs, f_hoursC_cg (go' := f_gm ((1 : Int32) <<< (nI w &&& 31))) (fun u hu => k_ab_gm m (by omega) w hw u (by rw [f_mm hm hm2] at hu; exact hu))]
theorem f_ok_bs {F : FS} (h : f_ok F) (b : Nat → Int32) : f_ok (f_setbs F b) := h
