/-! WORDS AND NUMBERS AMONG THE TOKENS -/
abbrev p_w3 (p : TP) (f i : Nat) (a b c : Int32) : Prop := p_at p (f + i) = a ∧ p_at p (f + i + 1) = b ∧ p_at p (f + i + 2) = c
abbrev p_wd (D : DJ) (f e n : Nat) : Prop := d_tk D = 1 ∧ e = f + n
theorem kn_subn {f e n : Nat} (hfe : f ≤ e) (he : e < 1000) (hn : n < 1000) : nI e - nI f = nI n ↔ e = f + n := by
  rw [pk_sub hfe]
  constructor
  · intro h
    have := (nI_eq (a := e - f) (b := n) (by omega) (by omega)).mp h
    omega
  · intro h
    rw [show e - f = n by omega]
def d_setfa (D : DJ) (v : Int32) : DJ := (d_bf D, d_as D, d_gn D, d_tk D, d_fr D, d_to D, d_vl D, v)
