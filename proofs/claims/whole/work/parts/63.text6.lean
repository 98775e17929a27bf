/-! A TOKEN'S TWO ENDS; AN ITEM'S ANSWER -/
theorem t_w_fe {p : TP} {D : DJ} {f e k : Nat} (hfr : d_fr D = nI f) (hto : d_to D = nI e) (hfe : f ≤ e) (he : e ≤ 121) : t_w p D k ↔ (d_tk D = 1 ∧ p_isw p f e k = true) := by
  rw [t_w, hfr, hto, nI_clamp (n := f) (by omega), nI_clamp (n := e) (by omega)]
def t_res (Z : kz_Z) (B : Nat → Nat) (X : AS) (T : Bool × FS × DJ) (r : Int32) (w2 : va_W) : Prop := r = (if T.1 = true then 1 else 0) ∧ w2 = w_M Z B (a_setF X T.2.1) T.2.2
theorem t_res_t {Z : kz_Z} {B : Nat → Nat} {X : AS} {T : Bool × FS × DJ} {F : FS} {D : DJ} (e : T = (true, F, D)) : t_res Z B X T 1 (w_M Z B (a_setF X F) D) := by subst e; exact ⟨rfl, rfl⟩
theorem t_res_f {Z : kz_Z} {B : Nat → Nat} {X : AS} {T : Bool × FS × DJ} {F : FS} {D : DJ} (e : T = (false, F, D)) : t_res Z B X T 0 (w_M Z B (a_setF X F) D) := by subst e; exact ⟨rfl, rfl⟩
/-- which kind, which way of standing the token names -/
def t_kd (p : TP) (D : DJ) : Int32 := p_kd D p (d_fr D).toNatClampNeg (d_to D).toNatClampNeg
def t_st (p : TP) (D : DJ) : Int32 := p_st D p (d_fr D).toNatClampNeg (d_to D).toNatClampNeg
theorem t_kd_fe {p : TP} {D : DJ} {f e : Nat} (hfr : d_fr D = nI f) (hto : d_to D = nI e) (hfe : f ≤ e) (he : e ≤ 121) : p_kd D p f e = t_kd p D := by
  rw [t_kd, hfr, hto, nI_clamp (n := f) (by omega), nI_clamp (n := e) (by omega)]
theorem t_st_fe {p : TP} {D : DJ} {f e : Nat} (hfr : d_fr D = nI f) (hto : d_to D = nI e) (hfe : f ≤ e) (he : e ≤ 121) : p_st D p f e = t_st p D := by
  rw [t_st, hfr, hto, nI_clamp (n := f) (by omega), nI_clamp (n := e) (by omega)]
def i_item (p : TP) (F : FS) (D : DJ) : Bool × FS × DJ := if 0 ≤ t_kd p D then i_walker p (t_kd p D) F D else if 0 ≤ t_st p D then i_gate p (t_st p D) F D else if t_w p D 11 then i_beasts p F D else if t_w p D 12 then i_wind p F D else t_fail F D
theorem i_walker_full {p : TP} {kind : Int32} {F : FS} {D : DJ} {m : Nat} (hm : m ≤ 8) (hm2 : f_wk F = nI m) (h : m = 8) : i_walker p kind F D = t_fail F D := by
  rw [i_walker, f_mm hm hm2, if_pos h]
theorem i_walker_go {p : TP} {kind : Int32} {F : FS} {D : DJ} {m : Nat} (hm : m ≤ 8) (hm2 : f_wk F = nI m) (h : ¬ m = 8) (ht : ¬ t_w p (p_nx p D) 13) : i_walker p kind F D = i_mood p m (i_back p m (f_add F kind 0 m) (p_nx p D)).1 (i_back p m (f_add F kind 0 m) (p_nx p D)).2 := by
  rw [i_walker, f_mm hm hm2, if_neg h, i_in, if_neg ht]
theorem i_walker_in {p : TP} {kind : Int32} {F : FS} {D : DJ} {m : Nat} (hm : m ≤ 8) (hm2 : f_wk F = nI m) (h : ¬ m = 8) (ht : t_w p (p_nx p D) 13) (hn : t_n (p_nx p (p_nx p D)) 8) : i_walker p kind F D = i_mood p m (i_back p m (f_setrow (f_add F kind 0 m) 1 (upd (f_row (f_add F kind 0 m) 1) m (d_vl (p_nx p (p_nx p D))))) (p_nx p (p_nx p (p_nx p D)))).1 (i_back p m (f_setrow (f_add F kind 0 m) 1 (upd (f_row (f_add F kind 0 m) 1) m (d_vl (p_nx p (p_nx p D))))) (p_nx p (p_nx p (p_nx p D)))).2 := by
  rw [i_walker, f_mm hm hm2, if_neg h, i_in, if_pos ht, if_pos hn]
theorem i_walker_bad {p : TP} {kind : Int32} {F : FS} {D : DJ} {m : Nat} (hm : m ≤ 8) (hm2 : f_wk F = nI m) (h : ¬ m = 8) (ht : t_w p (p_nx p D) 13) (hn : ¬ t_n (p_nx p (p_nx p D)) 8) : i_walker p kind F D = t_fail (f_add F kind 0 m) (p_nx p (p_nx p D)) := by
  rw [i_walker, f_mm hm hm2, if_neg h, i_in, if_pos ht, if_neg hn]; rfl
theorem i_back_y {p : TP} {m : Nat} {F : FS} {D : DJ} (ht : t_w p D 14) : i_mood p m (i_back p m F D).1 (i_back p m F D).2 = i_mood p m (f_setrow F 2 (upd (f_row F 2) m 1)) (p_nx p D) := by rw [i_back, if_pos ht]
theorem i_back_n {p : TP} {m : Nat} {F : FS} {D : DJ} (ht : ¬ t_w p D 14) : i_mood p m (i_back p m F D).1 (i_back p m F D).2 = i_mood p m F D := by rw [i_back, if_neg ht]
theorem i_mood_y {p : TP} {m : Nat} {F : FS} {D : DJ} (ht : t_w p D 15) (hn : t_n (p_nx p D) 9) : i_mood p m F D = (true, f_setrow F 3 (upd (f_row F 3) m (d_vl (p_nx p D))), p_nx p (p_nx p D)) := by rw [i_mood, if_pos ht, if_pos hn]
theorem i_mood_b {p : TP} {m : Nat} {F : FS} {D : DJ} (ht : t_w p D 15) (hn : ¬ t_n (p_nx p D) 9) : i_mood p m F D = t_fail F (p_nx p D) := by rw [i_mood, if_pos ht, if_neg hn]
theorem i_mood_n {p : TP} {m : Nat} {F : FS} {D : DJ} (ht : ¬ t_w p D 15) : i_mood p m F D = (true, F, D) := by rw [i_mood, if_neg ht]
