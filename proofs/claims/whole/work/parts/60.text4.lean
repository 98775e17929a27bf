/-! TOKENS STAY ON THE TAPE -/
theorem o_find_le (q : Nat → Bool) : ∀ n i, i ≤ o_find q n i ∧ o_find q n i ≤ i + n
  | 0, i => ⟨Nat.le_refl i, Nat.le_refl i⟩
  | n + 1, i => by
    rw [o_find]
    split
    · omega
    · have := o_find_le q n (i + 1)
      omega
theorem p_from_le {p : TP} {i : Nat} (h : i ≤ p.2) : i ≤ p_from p i ∧ p_from p i ≤ p.2 := by
  have := o_find_le (q_ns p) (p.2 - i) i
  rw [p_from]
  omega
theorem p_to_le {p : TP} {f : Nat} (h : f ≤ p.2) : f ≤ p_to p f ∧ p_to p f ≤ p.2 := by
  rw [p_to]
  split
  · have := o_find_le (q_nl p) (p.2 - f) f
    omega
  split
  · have := o_find_le (q_nd p) (p.2 - f) f
    omega
  split
  · omega
  · rename_i h0
    rcases Nat.lt_or_ge f p.2 with q | q
    · omega
    · exact absurd (by rw [p_at, if_neg (by omega)]; rfl) h0
/-- the next token, from where the last one ended -/
def p_nx (p : TP) (D : DJ) : DJ := p_tok p (d_to D).toNatClampNeg D
abbrev d_in (p : TP) (D : DJ) : Prop := ∃ i : Nat, i ≤ p.2 ∧ d_to D = nI i
abbrev d_fe (p : TP) (D : DJ) : Prop := ∃ f e : Nat, d_fr D = nI f ∧ d_to D = nI e ∧ f ≤ e ∧ e ≤ p.2
theorem p_nx_fe {p : TP} {D : DJ} (hq : p.2 ≤ 120) (h : d_in p D) : d_fe p (p_nx p D) := by
  obtain ⟨i, hi, e⟩ := h
  have h1 := p_from_le (p := p) hi
  have h2 := p_to_le (p := p) h1.2
  have e9 : (d_to D).toNatClampNeg = i := by rw [e, nI_clamp (by omega)]
  refine ⟨p_from p i, p_to p (p_from p i), ?_, ?_, h2.1, h2.2⟩
  · rw [p_nx, e9]; rfl
  · rw [p_nx, e9]; rfl
theorem d_fe_in {p : TP} {D : DJ} (h : d_fe p D) : d_in p D := by
  obtain ⟨f, e, h1, h2, h3, h4⟩ := h
  exact ⟨e, h4, h2⟩
theorem p_nx_in {p : TP} {D : DJ} (hq : p.2 ≤ 120) (h : d_in p D) : d_in p (p_nx p D) := d_fe_in (p_nx_fe hq h)
theorem p_nx_eq {p : TP} {D : DJ} {i : Nat} (hi : i < 1000) (e : d_to D = nI i) : p_tok p i D = p_nx p D := by
  rw [p_nx, e, nI_clamp (by omega)]
