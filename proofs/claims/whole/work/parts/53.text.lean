/-! TEXT: tokens on the tape -/
def p_at (p : TP) (i : Nat) : Int32 := if i < p.2 then p.1 i else -1
abbrev isLt (c : Int32) : Prop := inR c 97 122
abbrev isDg (c : Int32) : Prop := inR c 48 57
def p_sort (c : Int32) : Int32 := if c < 0 then 0 else if isLt c then 1 else if isDg c then 2 else if c = 59 then 3 else 4
def q_ns (p : TP) (j : Nat) : Bool := !decide (p_at p j = 32)
def q_nl (p : TP) (j : Nat) : Bool := !decide (isLt (p_at p j))
def q_nd (p : TP) (j : Nat) : Bool := !decide (isDg (p_at p j))
def p_from (p : TP) (i : Nat) : Nat := o_find (q_ns p) (p.2 - i) i
def p_to (p : TP) (f : Nat) : Nat := if p_sort (p_at p f) = 1 then o_find (q_nl p) (p.2 - f) f else if p_sort (p_at p f) = 2 then o_find (q_nd p) (p.2 - f) f else if p_sort (p_at p f) = 0 then f else f + 1
def p_num (p : TP) (f : Nat) : Nat → Int32
  | 0 => 0
  | k + 1 => if p_num p f k ≤ 9999 then 10 * p_num p f k + p_at p (f + k) - 48 else p_num p f k
def p_vl (p : TP) (f : Nat) : Int32 := if p_sort (p_at p f) = 2 then p_num p f (p_to p f - f) else 0
def p_tok (p : TP) (i : Nat) (D : DJ) : DJ := (d_bf D, d_as D, d_gn D, p_sort (p_at p (p_from p i)), nI (p_from p i), nI (p_to p (p_from p i)), p_vl p (p_from p i), d_fa D)
theorem p_at_end (p : TP) : p_at p p.2 = -1 := if_neg (Nat.lt_irrefl _)
theorem p_tok_0 {p : TP} {i j : Nat} {D : DJ} (hf : p_from p i = j) (h0 : p_at p j < 0) : p_tok p i D = (d_bf D, d_as D, d_gn D, 0, nI j, nI j, 0, d_fa D) := by
  have e : p_sort (p_at p j) = 0 := by rw [p_sort, if_pos h0]
  rw [p_tok, hf, p_vl, p_to, e]; rfl
theorem p_tok_1 {p : TP} {i j e : Nat} {D : DJ} (hf : p_from p i = j) (h0 : ¬ p_at p j < 0) (h1 : isLt (p_at p j)) (he : o_find (q_nl p) (p.2 - j) j = e) : p_tok p i D = (d_bf D, d_as D, d_gn D, 1, nI j, nI e, 0, d_fa D) := by
  have e1 : p_sort (p_at p j) = 1 := by rw [p_sort, if_neg h0, if_pos h1]
  rw [p_tok, hf, p_vl, p_to, e1, if_pos rfl, he]; rfl
theorem p_tok_2 {p : TP} {i j e : Nat} {D : DJ} (hf : p_from p i = j) (h0 : ¬ p_at p j < 0) (h1 : ¬ isLt (p_at p j)) (h2 : isDg (p_at p j)) (he : o_find (q_nd p) (p.2 - j) j = e) : p_tok p i D = (d_bf D, d_as D, d_gn D, 2, nI j, nI e, p_num p j (e - j), d_fa D) := by
  have e1 : p_sort (p_at p j) = 2 := by rw [p_sort, if_neg h0, if_neg h1, if_pos h2]
  have e2 : p_to p j = e := by rw [p_to, e1, if_neg (by decide), if_pos rfl, he]
  rw [p_tok, hf, p_vl, e2, e1, if_pos rfl]
theorem p_tok_3 {p : TP} {i j : Nat} {D : DJ} (hf : p_from p i = j) (h0 : ¬ p_at p j < 0) (h1 : ¬ isLt (p_at p j)) (h2 : ¬ isDg (p_at p j)) (h3 : p_at p j = 59) : p_tok p i D = (d_bf D, d_as D, d_gn D, 3, nI j, nI (j + 1), 0, d_fa D) := by
  have e1 : p_sort (p_at p j) = 3 := by rw [p_sort, if_neg h0, if_neg h1, if_neg h2, if_pos h3]
  rw [p_tok, hf, p_vl, p_to, e1]; rfl
theorem p_tok_4 {p : TP} {i j : Nat} {D : DJ} (hf : p_from p i = j) (h0 : ¬ p_at p j < 0) (h1 : ¬ isLt (p_at p j)) (h2 : ¬ isDg (p_at p j)) (h3 : ¬ p_at p j = 59) : p_tok p i D = (d_bf D, d_as D, d_gn D, 4, nI j, nI (j + 1), 0, d_fa D) := by
  have e1 : p_sort (p_at p j) = 4 := by rw [p_sort, if_neg h0, if_neg h1, if_neg h2, if_neg h3]
  rw [p_tok, hf, p_vl, p_to, e1]; rfl
theorem p_at_lt {p : TP} {j : Nat} {c : Int32} (h : p_at p j = c) (hc : ¬ c = -1) : j < p.2 := by
  rcases Nat.lt_or_ge j p.2 with q | q
  · exact q
  · rw [p_at, if_neg (by omega)] at h; exact absurd h.symm hc
theorem p_at_lt' {p : TP} {j : Nat} (h : isLt (p_at p j) ∨ isDg (p_at p j)) : j < p.2 := by
  rcases Nat.lt_or_ge j p.2 with q | q
  · exact q
  · rw [p_at, if_neg (by omega)] at h
    exact absurd h (by decide)
