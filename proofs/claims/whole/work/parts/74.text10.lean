/-! AN ITEM GOES ON ALONG THE TAPE -/
theorem p_pos_word {p : TP} (hq : p.2 ≤ 120) {t : Nat} (h : p_so p t = 1) : p_pos p t + 1 ≤ p_pos p (t + 1) := by
  have h0 := p_pos_le p t
  have h1 := p_pos_le p (t + 1)
  have e : (nI (p_pos p t)).toNatClampNeg = p_pos p t := nI_clamp (n := p_pos p t) (by omega)
  have h2 : t_at p (p_pos p t) (fun _ => 0, fun _ => 0, fun _ => 0, 0, 0, nI (p_pos p t), 0, 0) := ⟨p_pos p t, Nat.le_refl _, h0, rfl⟩
  have e2 : p_nx p (fun _ => 0, fun _ => 0, fun _ => 0, 0, 0, nI (p_pos p t), 0, 0) = p_tok p (p_pos p t) (fun _ => 0, fun _ => 0, fun _ => 0, 0, 0, nI (p_pos p t), 0, 0) := by
    rw [p_nx, show (d_to (fun _ => 0, fun _ => 0, fun _ => 0, 0, 0, nI (p_pos p t), 0, 0)).toNatClampNeg = p_pos p t from e]
  obtain ⟨j, j1, j2, j3⟩ := p_nx_wat hq h2 (by rw [e2]; exact h)
  rw [e2] at j3
  have : p_pos p (t + 1) = j := (nI_eq (a := p_pos p (t + 1)) (b := j) (by omega) (by omega)).mp j3
  omega
theorem pos_item {p : TP} (hq : p.2 ≤ 120) {D : DJ} {F : FS} {t t2 : Nat} (h : (i_item p F (d_sq p D t)).1 = true) (e : (i_item p F (d_sq p D t)).2.2 = d_sq p D t2) : p_pos p t + 1 ≤ p_pos p (t2 + 1) := by
  have h1 := p_pos_word hq (t := t) (i_item_word h)
  have h2 := p_pos_le p (t + 1)
  have h3 := p_pos_le p (t2 + 1)
  obtain ⟨j, j1, j2, j3⟩ := (i_item_ok (F := F) hq (show t_at p (p_pos p (t + 1)) (d_sq p D t) from ⟨p_pos p (t + 1), Nat.le_refl _, h2, rfl⟩)).1
  rw [e] at j3
  have : p_pos p (t2 + 1) = j := (nI_eq (a := p_pos p (t2 + 1)) (b := j) (by omega) (by omega)).mp j3
  omega
theorem p_so_last {p : TP} {t : Nat} (h : p.2 ≤ p_pos p t) : p_so p t = 0 := by
  have h1 := p_fr_le p t
  have : p_fr p t = p.2 := by omega
  rw [p_so, this, p_at_end]; rfl
