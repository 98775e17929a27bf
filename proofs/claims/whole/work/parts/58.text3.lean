/-! WHICH WORD -/
def p_any (D : DJ) (p : TP) (f e : Nat) : Nat → Nat → Int32
  | _, 0 => -1
  | k, n + 1 => if d_tk D = 1 ∧ p_isw p f e k = true then nI k else p_any D p f e (k + 1) n
def p_kd (D : DJ) (p : TP) (f e : Nat) : Int32 := if d_tk D = 1 ∧ p_isw p f e 0 = true then 0 else if d_tk D = 1 ∧ p_isw p f e 1 = true then 1 else if d_tk D = 1 ∧ p_isw p f e 2 = true then 2 else if d_tk D = 1 ∧ p_isw p f e 3 = true then 3 else if d_tk D = 1 ∧ p_isw p f e 4 = true then 4 else if d_tk D = 1 ∧ p_isw p f e 5 = true then 5 else if d_tk D = 1 ∧ p_isw p f e 6 = true then 6 else -1
def p_st (D : DJ) (p : TP) (f e : Nat) : Int32 := if d_tk D = 1 ∧ p_isw p f e 7 = true then 0 else if d_tk D = 1 ∧ p_isw p f e 8 = true then 1 else if d_tk D = 1 ∧ p_isw p f e 9 = true then 2 else if d_tk D = 1 ∧ p_isw p f e 10 = true then 3 else -1
