/-! ITEMS, as pure functions of a farm and of the model's token (D): well?, the farm, the token -/
abbrev t_w (p : TP) (D : DJ) (k : Nat) : Prop := d_tk D = 1 ∧ p_isw p (d_fr D).toNatClampNeg (d_to D).toNatClampNeg k = true
abbrev t_n (D : DJ) (hi : Int32) : Prop := d_tk D = 2 ∧ inR (d_vl D) 0 hi
def t_fail (F : FS) (D : DJ) : Bool × FS × DJ := (false, F, d_setfa D (d_fr D))
def i_in (p : TP) (m : Nat) (F : FS) (D : DJ) : Bool × FS × DJ := if t_w p D 13 then (if t_n (p_nx p D) 8 then (true, f_setrow F 1 (upd (f_row F 1) m (d_vl (p_nx p D))), p_nx p (p_nx p D)) else t_fail F (p_nx p D)) else (true, F, D)
def i_back (p : TP) (m : Nat) (F : FS) (D : DJ) : FS × DJ := if t_w p D 14 then (f_setrow F 2 (upd (f_row F 2) m 1), p_nx p D) else (F, D)
def i_mood (p : TP) (m : Nat) (F : FS) (D : DJ) : Bool × FS × DJ := if t_w p D 15 then (if t_n (p_nx p D) 9 then (true, f_setrow F 3 (upd (f_row F 3) m (d_vl (p_nx p D))), p_nx p (p_nx p D)) else t_fail F (p_nx p D)) else (true, F, D)
def i_walker (p : TP) (kind : Int32) (F : FS) (D : DJ) : Bool × FS × DJ := if f_m F = 8 then t_fail F D else match i_in p (f_m F) (f_add F kind 0 (f_m F)) (p_nx p D) with
  | (false, F1, D1) => (false, F1, D1)
  | (true, F1, D1) => i_mood p (f_m F) (i_back p (f_m F) F1 D1).1 (i_back p (f_m F) F1 D1).2
def i_gate (p : TP) (v : Int32) (F : FS) (D : DJ) : Bool × FS × DJ := if t_n (p_nx p D) 7 then (true, f_setgs F (upd (f_gs F) (d_vl (p_nx p D)).toNatClampNeg v), p_nx p (p_nx p D)) else t_fail F (p_nx p D)
def i_beasts (p : TP) (F : FS) (D : DJ) : Bool × FS × DJ := if t_n (p_nx p D) 8 then (if t_n (p_nx p (p_nx p D)) 9999 then (true, f_setbs F (upd (f_bs F) (d_vl (p_nx p D)).toNatClampNeg (d_vl (p_nx p (p_nx p D)))), p_nx p (p_nx p (p_nx p D))) else t_fail F (p_nx p (p_nx p D))) else t_fail F (p_nx p D)
def i_wind (p : TP) (F : FS) (D : DJ) : Bool × FS × DJ := if t_n (p_nx p D) 9 then (true, f_setwd F (d_vl (p_nx p D)), p_nx p (p_nx p D)) else t_fail F (p_nx p D)
