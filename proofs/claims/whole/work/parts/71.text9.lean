/-! ITEMS OVER THE ROW OF TOKENS -/
abbrev n_sq (p : TP) (t : Nat) (hi : Int32) : Prop := p_so p t = 2 ∧ inR (p_vl p (p_fr p t)) 0 hi
theorem n_sq_i {p : TP} (hq : p.2 ≤ 120) {D : DJ} {t : Nat} {hi : Int32} : t_n (p_nx p (d_sq p D t)) hi ↔ n_sq p (t + 1) hi := by
  rw [d_sq_nx hq]; exact Iff.rfl
theorem wind_y {p : TP} (hq : p.2 ≤ 120) {D : DJ} {t : Nat} {F : FS} (h : n_sq p (t + 1) 9) : i_wind p F (d_sq p D t) = (true, f_setwd F (p_vl p (p_fr p (t + 1))), d_sq p D (t + 1 + 1)) := by
  rw [i_wind, if_pos ((n_sq_i hq).mpr h), d_sq_nx hq, d_sq_nx hq]; rfl
theorem wind_n {p : TP} (hq : p.2 ≤ 120) {D : DJ} {t : Nat} {F : FS} (h : ¬ n_sq p (t + 1) 9) : i_wind p F (d_sq p D t) = t_fail F (d_sq p D (t + 1)) := by
  rw [i_wind, if_neg (fun h9 => h ((n_sq_i hq).mp h9)), d_sq_nx hq]
theorem gate_y {p : TP} (hq : p.2 ≤ 120) {D : DJ} {t : Nat} {F : FS} {v : Int32} (h : n_sq p (t + 1) 7) : i_gate p v F (d_sq p D t) = (true, f_setgs F (upd (f_gs F) (p_vl p (p_fr p (t + 1))).toNatClampNeg v), d_sq p D (t + 1 + 1)) := by
  rw [i_gate, if_pos ((n_sq_i hq).mpr h), d_sq_nx hq, d_sq_nx hq]; rfl
theorem gate_n {p : TP} (hq : p.2 ≤ 120) {D : DJ} {t : Nat} {F : FS} {v : Int32} (h : ¬ n_sq p (t + 1) 7) : i_gate p v F (d_sq p D t) = t_fail F (d_sq p D (t + 1)) := by
  rw [i_gate, if_neg (fun h9 => h ((n_sq_i hq).mp h9)), d_sq_nx hq]
theorem beasts_y {p : TP} (hq : p.2 ≤ 120) {D : DJ} {t : Nat} {F : FS} (h : n_sq p (t + 1) 8) (h2 : n_sq p (t + 1 + 1) 9999) : i_beasts p F (d_sq p D t) = (true, f_setbs F (upd (f_bs F) (p_vl p (p_fr p (t + 1))).toNatClampNeg (p_vl p (p_fr p (t + 1 + 1)))), d_sq p D (t + 1 + 1 + 1)) := by
  rw [i_beasts, if_pos ((n_sq_i hq).mpr h), d_sq_nx hq, if_pos ((n_sq_i hq).mpr h2), d_sq_nx hq, d_sq_nx hq]; rfl
theorem beasts_2 {p : TP} (hq : p.2 ≤ 120) {D : DJ} {t : Nat} {F : FS} (h : n_sq p (t + 1) 8) (h2 : ¬ n_sq p (t + 1 + 1) 9999) : i_beasts p F (d_sq p D t) = t_fail F (d_sq p D (t + 1 + 1)) := by
  rw [i_beasts, if_pos ((n_sq_i hq).mpr h), d_sq_nx hq, if_neg (fun h9 => h2 ((n_sq_i hq).mp h9)), d_sq_nx hq]
theorem beasts_n {p : TP} (hq : p.2 ≤ 120) {D : DJ} {t : Nat} {F : FS} (h : ¬ n_sq p (t + 1) 8) : i_beasts p F (d_sq p D t) = t_fail F (d_sq p D (t + 1)) := by
  rw [i_beasts, if_neg (fun h9 => h ((n_sq_i hq).mp h9)), d_sq_nx hq]
theorem mood_y {p : TP} (hq : p.2 ≤ 120) {D : DJ} {t m : Nat} {F : FS} (hw : k_w p t 15) (h : n_sq p (t + 1) 9) : i_mood p m F (d_sq p D t) = (true, f_setrow F 3 (upd (f_row F 3) m (p_vl p (p_fr p (t + 1)))), d_sq p D (t + 1 + 1)) := by
  rw [i_mood_y ((k_w_t hq).mpr hw) ((n_sq_i hq).mpr h), d_sq_nx hq, d_sq_nx hq]; rfl
theorem mood_b {p : TP} (hq : p.2 ≤ 120) {D : DJ} {t m : Nat} {F : FS} (hw : k_w p t 15) (h : ¬ n_sq p (t + 1) 9) : i_mood p m F (d_sq p D t) = t_fail F (d_sq p D (t + 1)) := by
  rw [i_mood_b ((k_w_t hq).mpr hw) (fun h9 => h ((n_sq_i hq).mp h9)), d_sq_nx hq]
theorem mood_n {p : TP} (hq : p.2 ≤ 120) {D : DJ} {t m : Nat} {F : FS} (hw : ¬ k_w p t 15) : i_mood p m F (d_sq p D t) = (true, F, d_sq p D t) := i_mood_n (fun h9 => hw ((k_w_t hq).mp h9))
abbrev b_m (p : TP) (m : Nat) (F : FS) (D : DJ) : Bool × FS × DJ := i_mood p m (i_back p m F D).1 (i_back p m F D).2
theorem back_y {p : TP} (hq : p.2 ≤ 120) {D : DJ} {t m : Nat} {F : FS} (hw : k_w p t 14) : b_m p m F (d_sq p D t) = i_mood p m (f_setrow F 2 (upd (f_row F 2) m 1)) (d_sq p D (t + 1)) := by
  rw [b_m, i_back_y ((k_w_t hq).mpr hw), d_sq_nx hq]
theorem back_n {p : TP} (hq : p.2 ≤ 120) {D : DJ} {t m : Nat} {F : FS} (hw : ¬ k_w p t 14) : b_m p m F (d_sq p D t) = i_mood p m F (d_sq p D t) := i_back_n (fun h9 => hw ((k_w_t hq).mp h9))
theorem walk_go {p : TP} (hq : p.2 ≤ 120) {kind : Int32} {F : FS} {D : DJ} {t m : Nat} (hm : m ≤ 8) (hm2 : f_wk F = nI m) (h : ¬ m = 8) (hw : ¬ k_w p (t + 1) 13) : i_walker p kind F (d_sq p D t) = b_m p m (f_add F kind 0 m) (d_sq p D (t + 1)) := by
  have e := d_sq_nx hq D t
  rw [i_walker_go hm hm2 h (by rw [e]; exact fun h9 => hw ((k_w_t hq).mp h9)), e]
theorem walk_in {p : TP} (hq : p.2 ≤ 120) {kind : Int32} {F : FS} {D : DJ} {t m : Nat} (hm : m ≤ 8) (hm2 : f_wk F = nI m) (h : ¬ m = 8) (hw : k_w p (t + 1) 13) (hn : n_sq p (t + 1 + 1) 8) : i_walker p kind F (d_sq p D t) = b_m p m (f_setrow (f_add F kind 0 m) 1 (upd (f_row (f_add F kind 0 m) 1) m (p_vl p (p_fr p (t + 1 + 1))))) (d_sq p D (t + 1 + 1 + 1)) := by
  have e := d_sq_nx hq D t
  rw [i_walker_in hm hm2 h (by rw [e]; exact (k_w_t hq).mpr hw) (by rw [e]; exact (n_sq_i hq).mpr hn), e, d_sq_nx hq, d_sq_nx hq]; rfl
theorem walk_bad {p : TP} (hq : p.2 ≤ 120) {kind : Int32} {F : FS} {D : DJ} {t m : Nat} (hm : m ≤ 8) (hm2 : f_wk F = nI m) (h : ¬ m = 8) (hw : k_w p (t + 1) 13) (hn : ¬ n_sq p (t + 1 + 1) 8) : i_walker p kind F (d_sq p D t) = t_fail (f_add F kind 0 m) (d_sq p D (t + 1 + 1)) := by
  have e := d_sq_nx hq D t
  rw [i_walker_bad hm hm2 h (by rw [e]; exact (k_w_t hq).mpr hw) (by rw [e]; exact fun h9 => hn ((n_sq_i hq).mp h9)), e, d_sq_nx hq]
/-! WHICH ITEM, BY THE WORD AHEAD -/
theorem p_kd_k {p : TP} {D : DJ} {f e k : Nat} (ht : d_tk D = 1) (hk : k < 7) (h : p_isw p f e k = true) (hl : ∀ j, j < k → ¬ p_isw p f e j = true) : p_kd D p f e = nI k := by
  rw [p_kd]
  rcases (show k = 0 ∨ k = 1 ∨ k = 2 ∨ k = 3 ∨ k = 4 ∨ k = 5 ∨ k = 6 by omega) with rfl | rfl | rfl | rfl | rfl | rfl | rfl
  · rw [if_pos ⟨ht, h⟩]; rfl
  · rw [if_neg (fun h9 => hl 0 (by omega) h9.2), if_pos ⟨ht, h⟩]; rfl
  · rw [if_neg (fun h9 => hl 0 (by omega) h9.2), if_neg (fun h9 => hl 1 (by omega) h9.2), if_pos ⟨ht, h⟩]; rfl
  · rw [if_neg (fun h9 => hl 0 (by omega) h9.2), if_neg (fun h9 => hl 1 (by omega) h9.2), if_neg (fun h9 => hl 2 (by omega) h9.2), if_pos ⟨ht, h⟩]; rfl
  · rw [if_neg (fun h9 => hl 0 (by omega) h9.2), if_neg (fun h9 => hl 1 (by omega) h9.2), if_neg (fun h9 => hl 2 (by omega) h9.2), if_neg (fun h9 => hl 3 (by omega) h9.2), if_pos ⟨ht, h⟩]; rfl
  · rw [if_neg (fun h9 => hl 0 (by omega) h9.2), if_neg (fun h9 => hl 1 (by omega) h9.2), if_neg (fun h9 => hl 2 (by omega) h9.2), if_neg (fun h9 => hl 3 (by omega) h9.2), if_neg (fun h9 => hl 4 (by omega) h9.2), if_pos ⟨ht, h⟩]; rfl
  · rw [if_neg (fun h9 => hl 0 (by omega) h9.2), if_neg (fun h9 => hl 1 (by omega) h9.2), if_neg (fun h9 => hl 2 (by omega) h9.2), if_neg (fun h9 => hl 3 (by omega) h9.2), if_neg (fun h9 => hl 4 (by omega) h9.2), if_neg (fun h9 => hl 5 (by omega) h9.2), if_pos ⟨ht, h⟩]; rfl
theorem p_kd_n {p : TP} {D : DJ} {f e : Nat} (hl : ∀ j, j < 7 → ¬ (d_tk D = 1 ∧ p_isw p f e j = true)) : p_kd D p f e = -1 := by
  rw [p_kd, if_neg (hl 0 (by omega)), if_neg (hl 1 (by omega)), if_neg (hl 2 (by omega)), if_neg (hl 3 (by omega)), if_neg (hl 4 (by omega)), if_neg (hl 5 (by omega)), if_neg (hl 6 (by omega))]
theorem p_st_k {p : TP} {D : DJ} {f e k : Nat} (ht : d_tk D = 1) (hk : k < 4) (h : p_isw p f e (k + 7) = true) (hl : ∀ j, j < k → ¬ p_isw p f e (j + 7) = true) : p_st D p f e = nI k := by
  rw [p_st]
  rcases (show k = 0 ∨ k = 1 ∨ k = 2 ∨ k = 3 by omega) with rfl | rfl | rfl | rfl
  · rw [if_pos ⟨ht, h⟩]; rfl
  · rw [if_neg (fun h9 => hl 0 (by omega) h9.2), if_pos ⟨ht, h⟩]; rfl
  · rw [if_neg (fun h9 => hl 0 (by omega) h9.2), if_neg (fun h9 => hl 1 (by omega) h9.2), if_pos ⟨ht, h⟩]; rfl
  · rw [if_neg (fun h9 => hl 0 (by omega) h9.2), if_neg (fun h9 => hl 1 (by omega) h9.2), if_neg (fun h9 => hl 2 (by omega) h9.2), if_pos ⟨ht, h⟩]; rfl
theorem p_st_n {p : TP} {D : DJ} {f e : Nat} (hl : ∀ j, j < 4 → ¬ (d_tk D = 1 ∧ p_isw p f e (j + 7) = true)) : p_st D p f e = -1 := by
  rw [p_st, if_neg (hl 0 (by omega)), if_neg (hl 1 (by omega)), if_neg (hl 2 (by omega)), if_neg (hl 3 (by omega))]
theorem t_kd_sq {p : TP} (hq : p.2 ≤ 120) {D : DJ} {t : Nat} : t_kd p (d_sq p D t) = p_kd (d_sq p D t) p (p_fr p t) (p_pos p (t + 1)) := by
  have := p_fe_le p t
  exact (t_kd_fe (D := d_sq p D t) (f := p_fr p t) (e := p_pos p (t + 1)) rfl rfl (by omega) (by omega)).symm
theorem t_st_sq {p : TP} (hq : p.2 ≤ 120) {D : DJ} {t : Nat} : t_st p (d_sq p D t) = p_st (d_sq p D t) p (p_fr p t) (p_pos p (t + 1)) := by
  have := p_fe_le p t
  exact (t_st_fe (D := d_sq p D t) (f := p_fr p t) (e := p_pos p (t + 1)) rfl rfl (by omega) (by omega)).symm
theorem nI_ge0 {k : Nat} (h : k < 1000) : (0 : Int32) ≤ nI k := (nI_leI (a := 0) (b := k) (by omega) (by omega)).mpr (Nat.zero_le k)
theorem item_none {p : TP} (hq : p.2 ≤ 120) {D : DJ} {t : Nat} {F : FS} (h : ∀ j, j < 13 → ¬ k_w p t j) : i_item p F (d_sq p D t) = t_fail F (d_sq p D t) := by
  have e1 : t_kd p (d_sq p D t) = -1 := (t_kd_sq hq).trans (p_kd_n (fun j hj => h j (by omega)))
  have e2 : t_st p (d_sq p D t) = -1 := (t_st_sq hq).trans (p_st_n (fun j hj => h (j + 7) (by omega)))
  rw [i_item, e1, e2, if_neg (by decide), if_neg (by decide), if_neg (fun h9 => h 11 (by omega) ((k_w_t hq).mp h9)), if_neg (fun h9 => h 12 (by omega) ((k_w_t hq).mp h9))]
theorem item_walker {p : TP} (hq : p.2 ≤ 120) {D : DJ} {t k : Nat} {F : FS} (hk : k < 7) (hw : k_w p t k) (hl : ∀ j, j < k → ¬ k_w p t j) : i_item p F (d_sq p D t) = i_walker p (nI k) F (d_sq p D t) := by
  have e1 : t_kd p (d_sq p D t) = nI k := (t_kd_sq hq).trans (p_kd_k hw.1 hk hw.2 (fun j hj h9 => hl j hj ⟨hw.1, h9⟩))
  rw [i_item, e1, if_pos (nI_ge0 (by omega))]
theorem item_gate {p : TP} (hq : p.2 ≤ 120) {D : DJ} {t k : Nat} {F : FS} (hk : k < 4) (hw : k_w p t (k + 7)) (hl : ∀ j, j < k + 7 → ¬ k_w p t j) : i_item p F (d_sq p D t) = i_gate p (nI k) F (d_sq p D t) := by
  have e1 : t_kd p (d_sq p D t) = -1 := (t_kd_sq hq).trans (p_kd_n (fun j hj => hl j (by omega)))
  have e2 : t_st p (d_sq p D t) = nI k := (t_st_sq hq).trans (p_st_k hw.1 hk hw.2 (fun j hj h9 => hl (j + 7) (by omega) ⟨hw.1, h9⟩))
  rw [i_item, e1, if_neg (by decide), e2, if_pos (nI_ge0 (by omega))]
theorem item_beasts {p : TP} (hq : p.2 ≤ 120) {D : DJ} {t : Nat} {F : FS} (hw : k_w p t 11) (hl : ∀ j, j < 11 → ¬ k_w p t j) : i_item p F (d_sq p D t) = i_beasts p F (d_sq p D t) := by
  have e1 : t_kd p (d_sq p D t) = -1 := (t_kd_sq hq).trans (p_kd_n (fun j hj => hl j (by omega)))
  have e2 : t_st p (d_sq p D t) = -1 := (t_st_sq hq).trans (p_st_n (fun j hj => hl (j + 7) (by omega)))
  rw [i_item, e1, e2, if_neg (by decide), if_neg (by decide), if_pos ((k_w_t hq).mpr hw)]
theorem item_wind {p : TP} (hq : p.2 ≤ 120) {D : DJ} {t : Nat} {F : FS} (hw : k_w p t 12) (hl : ∀ j, j < 12 → ¬ k_w p t j) : i_item p F (d_sq p D t) = i_wind p F (d_sq p D t) := by
  have e1 : t_kd p (d_sq p D t) = -1 := (t_kd_sq hq).trans (p_kd_n (fun j hj => hl j (by omega)))
  have e2 : t_st p (d_sq p D t) = -1 := (t_st_sq hq).trans (p_st_n (fun j hj => hl (j + 7) (by omega)))
  rw [i_item, e1, e2, if_neg (by decide), if_neg (by decide), if_neg (fun h9 => hl 11 (by omega) ((k_w_t hq).mp h9)), if_pos ((k_w_t hq).mpr hw)]
/-! an item's answer, in the class -/
def k_res (Z : kz_Z) (a c : Nat → Nat) (p : TP) (J : TJ) (n : Nat) (D : DJ) (T : Bool × FS × DJ) (r : Int32) (w2 : va_W) : Prop := r = (if T.1 = true then 1 else 0) ∧ ∃ t2, t2 ≤ n ∧ w2 = w_F Z a T.2.1 ++ w_T Z c (t_of p (j_at J t2)) ∧ (T.1 = true → T.2.2 = d_sq p D t2) ∧ (T.1 = false → T.2.2 = d_setfa (d_sq p D t2) (d_fr (d_sq p D t2)))
theorem k_res_t {Z : kz_Z} {a c : Nat → Nat} {p : TP} {J : TJ} {n t2 : Nat} {D : DJ} {T : Bool × FS × DJ} {F : FS} (e : T = (true, F, d_sq p D t2)) (h : t2 ≤ n) : k_res Z a c p J n D T 1 (w_F Z a F ++ w_T Z c (t_of p (j_at J t2))) := by
  subst e; exact ⟨rfl, t2, h, rfl, fun _ => rfl, fun h9 => Bool.noConfusion h9⟩
theorem k_res_f {Z : kz_Z} {a c : Nat → Nat} {p : TP} {J : TJ} {n t2 : Nat} {D : DJ} {T : Bool × FS × DJ} {F : FS} (e : T = t_fail F (d_sq p D t2)) (h : t2 ≤ n) : k_res Z a c p J n D T 0 (w_F Z a F ++ w_T Z c (t_of p (j_at J t2))) := by
  subst e; exact ⟨rfl, t2, h, rfl, fun h9 => Bool.noConfusion h9, fun _ => rfl⟩
theorem k_so1 {p : TP} {t k : Nat} (h : k_w p t k) : ¬ p_so p t = 0 := by rw [h.1]; decide
theorem k_so2 {p : TP} {t : Nat} {hi : Int32} (h : n_sq p t hi) : ¬ p_so p t = 0 := by rw [h.1]; decide
