/-! ALL THE ITEMS; THE TEXT -/
def i_items (p : TP) : Nat → Nat → Bool × FS × DJ → Nat × (Bool × FS × DJ)
  | 0, k, T => (k, T)
  | n + 1, k, T => if T.1 = true ∧ d_tk T.2.2 = 3 then i_items p n (k + 1) (i_item p T.2.1 (p_nx p T.2.2)) else (k, T)
def d_start (F : FS) (D : DJ) : DJ := (f_rw F, d_as D, d_gn D, d_tk D, d_fr D, 0, d_vl D, d_fa D)
def i_all (X : AS) (D : DJ) : Nat × (Bool × FS × DJ) := i_items (a_tp X) 121 1 (i_item (a_tp X) (a_F X) (p_nx (a_tp X) (d_start (a_F X) D)))
def o_text (X : AS) (D : DJ) : Int32 × AS := if (i_all X D).2.1 = true ∧ d_tk (i_all X D).2.2.2 = 0 then (nI (i_all X D).1, ((i_all X D).2.2.1, a_K X, a_kp X, a_fd X, ((a_tp X).1, 0), a_S X)) else (-1 - d_fr (i_all X D).2.2.2, (a_F X, a_K X, a_kp X, a_fd X, ((a_tp X).1, 0), a_S X))
theorem i_items_end {p : TP} {n k : Nat} {T : Bool × FS × DJ} (h : ¬ (T.1 = true ∧ d_tk T.2.2 = 3)) : i_items p n k T = (k, T) := by
  cases n with
  | zero => rfl
  | succ n => rw [i_items, if_neg h]
/-! where a token ends; a fault's place -/
abbrev t_at (p : TP) (i : Nat) (D : DJ) : Prop := ∃ j : Nat, i ≤ j ∧ j ≤ p.2 ∧ d_to D = nI j
theorem p_nx_at {p : TP} {D : DJ} {i : Nat} (hq : p.2 ≤ 120) (h : t_at p i D) : t_at p i (p_nx p D) := by
  obtain ⟨j, h1, h2, e⟩ := h
  have e9 : (d_to D).toNatClampNeg = j := by rw [e, nI_clamp (by omega)]
  have h3 := p_from_le (p := p) h2
  have h4 := p_to_le (p := p) h3.2
  exact ⟨p_to p (p_from p j), by omega, h4.2, by rw [p_nx, e9]; rfl⟩
theorem p_nx_wat {p : TP} {D : DJ} {i : Nat} (hq : p.2 ≤ 120) (h : t_at p i D) (hw : d_tk (p_nx p D) = 1) : t_at p (i + 1) (p_nx p D) := by
  obtain ⟨j, h1, h2, e⟩ := h
  have e9 : (d_to D).toNatClampNeg = j := by rw [e, nI_clamp (by omega)]
  have h3 := p_from_le (p := p) h2
  have h4 := p_to_le (p := p) h3.2
  have e1 : p_sort (p_at p (p_from p j)) = 1 := by rw [p_nx, e9] at hw; exact hw
  refine ⟨p_to p (p_from p j), ?_, h4.2, by rw [p_nx, e9]; rfl⟩
  have hlt : p_from p j < p.2 := by
    rcases Nat.lt_or_ge (p_from p j) p.2 with q | q
    · exact q
    · rw [p_at, if_neg (by omega)] at e1; exact absurd e1 (by decide)
  have hl : isLt (p_at p (p_from p j)) := by
    by_cases c : isLt (p_at p (p_from p j))
    · exact c
    · exfalso
      rw [p_sort, if_neg c] at e1
      split at e1
      · exact absurd e1 (by decide)
      split at e1
      · exact absurd e1 (by decide)
      split at e1 <;> exact absurd e1 (by decide)
  rw [p_to, if_pos e1, show p.2 - p_from p j = (p.2 - p_from p j - 1) + 1 by omega, o_find, if_neg (by rw [q_nl, decide_eq_true hl]; decide)]
  have := o_find_le (q_nl p) (p.2 - p_from p j - 1) (p_from p j + 1)
  omega
abbrev t_ok (p : TP) (i : Nat) (T : Bool × FS × DJ) : Prop := t_at p i T.2.2 ∧ (T.1 = false → d_fa T.2.2 = d_fr T.2.2)
theorem t_ok_fail {p : TP} {i : Nat} {F : FS} {D : DJ} (h : t_at p i D) : t_ok p i (t_fail F D) := ⟨h, fun _ => rfl⟩
theorem t_ok_t {p : TP} {i : Nat} {F : FS} {D : DJ} (h : t_at p i D) : t_ok p i (true, F, D) := ⟨h, fun h9 => Bool.noConfusion h9⟩
theorem i_in_ok {p : TP} {i m : Nat} {F : FS} {D : DJ} (hq : p.2 ≤ 120) (h : t_at p i D) : t_ok p i (i_in p m F D) := by
  rw [i_in]
  split
  · split
    · exact t_ok_t (p_nx_at hq (p_nx_at hq h))
    · exact t_ok_fail (p_nx_at hq h)
  · exact t_ok_t h
theorem i_back_ok {p : TP} {i m : Nat} {F : FS} {D : DJ} (hq : p.2 ≤ 120) (h : t_at p i D) : t_at p i (i_back p m F D).2 := by
  rw [i_back]
  split
  · exact p_nx_at hq h
  · exact h
theorem i_mood_ok {p : TP} {i m : Nat} {F : FS} {D : DJ} (hq : p.2 ≤ 120) (h : t_at p i D) : t_ok p i (i_mood p m F D) := by
  rw [i_mood]
  split
  · split
    · exact t_ok_t (p_nx_at hq (p_nx_at hq h))
    · exact t_ok_fail (p_nx_at hq h)
  · exact t_ok_t h
theorem i_walker_ok {p : TP} {i : Nat} {kind : Int32} {F : FS} {D : DJ} (hq : p.2 ≤ 120) (h : t_at p i D) : t_ok p i (i_walker p kind F D) := by
  rw [i_walker]
  split
  · exact t_ok_fail h
  · have h1 := i_in_ok (m := f_m F) (F := f_add F kind 0 (f_m F)) hq (p_nx_at hq h)
    rcases hT : i_in p (f_m F) (f_add F kind 0 (f_m F)) (p_nx p D) with ⟨b, F1, D1⟩
    rw [hT] at h1
    cases b with
    | false => exact h1
    | true => exact i_mood_ok hq (i_back_ok hq h1.1)
theorem i_gate_ok {p : TP} {i : Nat} {v : Int32} {F : FS} {D : DJ} (hq : p.2 ≤ 120) (h : t_at p i D) : t_ok p i (i_gate p v F D) := by
  rw [i_gate]
  split
  · exact t_ok_t (p_nx_at hq (p_nx_at hq h))
  · exact t_ok_fail (p_nx_at hq h)
theorem i_wind_ok {p : TP} {i : Nat} {F : FS} {D : DJ} (hq : p.2 ≤ 120) (h : t_at p i D) : t_ok p i (i_wind p F D) := by
  rw [i_wind]
  split
  · exact t_ok_t (p_nx_at hq (p_nx_at hq h))
  · exact t_ok_fail (p_nx_at hq h)
theorem i_beasts_ok {p : TP} {i : Nat} {F : FS} {D : DJ} (hq : p.2 ≤ 120) (h : t_at p i D) : t_ok p i (i_beasts p F D) := by
  rw [i_beasts]
  split
  · split
    · exact t_ok_t (p_nx_at hq (p_nx_at hq (p_nx_at hq h)))
    · exact t_ok_fail (p_nx_at hq (p_nx_at hq h))
  · exact t_ok_fail (p_nx_at hq h)
theorem i_item_ok {p : TP} {i : Nat} {F : FS} {D : DJ} (hq : p.2 ≤ 120) (h : t_at p i D) : t_ok p i (i_item p F D) := by
  rw [i_item]
  split
  · exact i_walker_ok hq h
  split
  · exact i_gate_ok hq h
  split
  · exact i_beasts_ok hq h
  split
  · exact i_wind_ok hq h
  · exact t_ok_fail h
/-- an item that is well begins with a word -/
theorem i_item_word {p : TP} {F : FS} {D : DJ} (h : (i_item p F D).1 = true) : d_tk D = 1 := by
  by_cases c : d_tk D = 1
  · exact c
  · exfalso
    have e1 : t_kd p D = -1 := by
      rw [t_kd, p_kd, if_neg (fun h9 => c h9.1), if_neg (fun h9 => c h9.1), if_neg (fun h9 => c h9.1), if_neg (fun h9 => c h9.1), if_neg (fun h9 => c h9.1), if_neg (fun h9 => c h9.1), if_neg (fun h9 => c h9.1)]
    have e2 : t_st p D = -1 := by
      rw [t_st, p_st, if_neg (fun h9 => c h9.1), if_neg (fun h9 => c h9.1), if_neg (fun h9 => c h9.1), if_neg (fun h9 => c h9.1)]
    rw [i_item, e1, e2, if_neg (by decide), if_neg (by decide), if_neg (fun h9 => c h9.1), if_neg (fun h9 => c h9.1)] at h
    exact Bool.noConfusion h
/-- an item after a place goes beyond it -/
theorem i_item_nx {p : TP} {i : Nat} {F : FS} {D : DJ} (hq : p.2 ≤ 120) (h : t_at p i D) : t_ok p i (i_item p F (p_nx p D)) ∧ ((i_item p F (p_nx p D)).1 = true → t_at p (i + 1) (i_item p F (p_nx p D)).2.2) := by
  refine ⟨i_item_ok hq (p_nx_at hq h), fun h9 => ?_⟩
  exact (i_item_ok (F := F) hq (p_nx_wat hq h (i_item_word h9))).1
/-! WHAT ITEMS KEEP -/
def i_keeps (P : FS → Prop) : Prop := (∀ F kind, P F → f_m F < 8 → inR kind 0 6 → P (f_add F kind 0 (f_m F))) ∧ (∀ F w v, P F → w < 8 → inR v 0 8 → P (f_setrow F 1 (upd (f_row F 1) w v))) ∧ (∀ F w, P F → w < 8 → P (f_setrow F 2 (upd (f_row F 2) w 1))) ∧ (∀ F w v, P F → w < 8 → inR v 0 9 → P (f_setrow F 3 (upd (f_row F 3) w v))) ∧ (∀ F g v, P F → g < 8 → inR v 0 3 → P (f_setgs F (upd (f_gs F) g v))) ∧ (∀ F f v, P F → f < 9 → inR v 0 9999 → P (f_setbs F (upd (f_bs F) f v))) ∧ (∀ F v, P F → inR v 0 9 → P (f_setwd F v))
theorem t_kd_rng {p : TP} {D : DJ} (h : 0 ≤ t_kd p D) : inR (t_kd p D) 0 6 := by
  rw [t_kd, p_kd] at h ⊢
  repeat' split
  all_goals first | decide | skip
  all_goals (exfalso; simp_all)
theorem t_st_rng {p : TP} {D : DJ} (h : 0 ≤ t_st p D) : inR (t_st p D) 0 3 := by
  rw [t_st, p_st] at h ⊢
  repeat' split
  all_goals first | decide | skip
  all_goals (exfalso; simp_all)
theorem i_mood_P {P : FS → Prop} (K : i_keeps P) {p : TP} {m : Nat} {F : FS} {D : DJ} (hm : m < 8) (h : P F) : P (i_mood p m F D).2.1 := by
  rw [i_mood]
  split
  · split
    · rename_i h2; exact K.2.2.2.1 _ _ _ h hm h2.2
    · exact h
  · exact h
theorem i_back_P {P : FS → Prop} (K : i_keeps P) {p : TP} {m : Nat} {F : FS} {D : DJ} (hm : m < 8) (h : P F) : P (i_back p m F D).1 := by
  rw [i_back]
  split
  · exact K.2.2.1 _ _ h hm
  · exact h
theorem i_in_P {P : FS → Prop} (K : i_keeps P) {p : TP} {m : Nat} {F : FS} {D : DJ} (hm : m < 8) (h : P F) : P (i_in p m F D).2.1 := by
  rw [i_in]
  split
  · split
    · rename_i h2; exact K.2.1 _ _ _ h hm h2.2
    · exact h
  · exact h
theorem i_item_P {P : FS → Prop} (K : i_keeps P) {p : TP} {F : FS} {D : DJ} (hm : f_m F ≤ 8) (h : P F) : P (i_item p F D).2.1 := by
  rw [i_item]
  split
  · rename_i hk
    rw [i_walker]
    split
    · exact h
    · rename_i h8
      have h1 := i_in_P K (p := p) (D := p_nx p D) (m := f_m F) (by omega) (K.1 F (t_kd p D) h (by omega) (t_kd_rng hk))
      rcases hT : i_in p (f_m F) (f_add F (t_kd p D) 0 (f_m F)) (p_nx p D) with ⟨b, F1, D1⟩
      rw [hT] at h1
      cases b with
      | false => exact h1
      | true => exact i_mood_P K (by omega) (i_back_P K (by omega) h1)
  split
  · rename_i hs
    rw [i_gate]
    split
    · rename_i h2
      obtain ⟨g, hg, eg⟩ := kn_rng (n := 7) h2.2 rfl
      rw [eg, nI_clamp (by omega)]
      exact K.2.2.2.2.1 _ _ _ h (by omega) (t_st_rng hs)
    · exact h
  split
  · rw [i_beasts]
    split
    · rename_i h2
      split
      · rename_i h3
        obtain ⟨g, hg, eg⟩ := kn_rng (n := 8) h2.2 rfl
        rw [eg, nI_clamp (by omega)]
        exact K.2.2.2.2.2.1 _ _ _ h (by omega) h3.2
      · exact h
    · exact h
  split
  · rw [i_wind]
    split
    · rename_i h2
      exact K.2.2.2.2.2.2 _ _ h h2.2
    · exact h
  · exact h
theorem i_items_P {P : FS → Prop} (K : i_keeps P) (hP : ∀ F, P F → f_m F ≤ 8) {p : TP} : ∀ (n k : Nat) (T : Bool × FS × DJ), P T.2.1 → P (i_items p n k T).2.2.1
  | 0, _, _, h => h
  | n + 1, k, T, h => by
    rw [i_items]
    split
    · exact i_items_P K hP n (k + 1) _ (i_item_P K (hP _ h) h)
    · exact h
abbrev f_wok (F : FS) : Prop := ∃ m : Nat, m ≤ 8 ∧ f_wk F = nI m
theorem f_wok_m {F : FS} (h : f_wok F) : f_m F ≤ 8 := by
  obtain ⟨m, h1, h2⟩ := h
  rw [f_mm h1 h2]; exact h1
theorem keeps_wok : i_keeps f_wok := ⟨fun F _ _ hm _ => ⟨f_m F + 1, by omega, rfl⟩, fun _ _ _ h _ _ => h, fun _ _ h _ => h, fun _ _ _ h _ _ => h, fun _ _ _ h _ _ => h, fun _ _ _ h _ _ => h, fun _ _ h _ => h⟩
/-! the row that is laid by stays laid by -/
theorem i_in_bf {p : TP} {m : Nat} {F : FS} {D : DJ} : d_bf (i_in p m F D).2.2 = d_bf D := by
  rw [i_in]
  split
  · split <;> rfl
  · rfl
theorem i_back_bf {p : TP} {m : Nat} {F : FS} {D : DJ} : d_bf (i_back p m F D).2 = d_bf D := by
  rw [i_back]
  split <;> rfl
theorem i_mood_bf {p : TP} {m : Nat} {F : FS} {D : DJ} : d_bf (i_mood p m F D).2.2 = d_bf D := by
  rw [i_mood]
  split
  · split <;> rfl
  · rfl
theorem i_item_bf {p : TP} {F : FS} {D : DJ} : d_bf (i_item p F D).2.2 = d_bf D := by
  rw [i_item]
  split
  · rw [i_walker]
    split
    · rfl
    · have h1 := i_in_bf (p := p) (m := f_m F) (F := f_add F (t_kd p D) 0 (f_m F)) (D := p_nx p D)
      rcases hT : i_in p (f_m F) (f_add F (t_kd p D) 0 (f_m F)) (p_nx p D) with ⟨b, F1, D1⟩
      rw [hT] at h1
      cases b with
      | false => exact h1
      | true => exact (i_mood_bf.trans i_back_bf).trans h1
  split
  · rw [i_gate]; split <;> rfl
  split
  · rw [i_beasts]
    split
    · split <;> rfl
    · rfl
  split
  · rw [i_wind]; split <;> rfl
  · rfl
theorem o_text_y {X : AS} {D : DJ} {k : Nat} {T : Bool × FS × DJ} (hE : i_all X D = (k, T)) (h : T.1 = true) (h0 : d_tk T.2.2 = 0) : o_text X D = (nI k, (T.2.1, a_K X, a_kp X, a_fd X, ((a_tp X).1, 0), a_S X)) := by
  rw [o_text, hE]; exact if_pos ⟨h, h0⟩
theorem o_text_n {X : AS} {D : DJ} {k : Nat} {T : Bool × FS × DJ} (hE : i_all X D = (k, T)) (h : ¬ (T.1 = true ∧ d_tk T.2.2 = 0)) : o_text X D = (-1 - d_fr T.2.2, (a_F X, a_K X, a_kp X, a_fd X, ((a_tp X).1, 0), a_S X)) := by
  rw [o_text, hE]; exact if_neg h
