/-! WHAT EVERY CALL KEEPS -/
abbrev kh (F : FS) : (Nat → Int32) × (Nat → Int32) := (f_kd F, f_hd F)
theorem f_step_kh (F : FS) (w : Nat) : kh (f_step F w) = kh F := by
  unfold f_step
  by_cases h1 : f_gate F w < 0
  · rw [if_pos h1]; rfl
  · rw [if_neg h1]
    by_cases h2 : f_gate F w < 8
    · rw [if_pos h2]; rfl
    · rw [if_neg h2]; rfl
theorem f_its_kh (F : FS) (w : Nat) : ∀ i, kh (f_its F w i) = kh F
  | 0 => rfl
  | i + 1 => (f_step_kh _ w).trans (f_its_kh F w i)
theorem f_wks_kh (go : Nat → Bool) (F : FS) : ∀ w, kh (f_wks go F w) = kh F
  | 0 => rfl
  | w + 1 => by
    show kh (if go w = true then f_letGo (f_wks go F w) w else f_wks go F w) = _
    by_cases h : go w = true
    · rw [if_pos h]; exact (f_its_kh _ w _).trans (f_wks_kh go F w)
    · rw [if_neg h]; exact f_wks_kh go F w
theorem f_hourC_kh (go : Nat → Bool) (F : FS) : kh (f_hourC go F) = kh F := f_wks_kh go F _
theorem f_hoursC_kh (go : Nat → Bool) (F : FS) : ∀ n, kh (f_hoursC go F n) = kh F
  | 0 => rfl
  | n + 1 => (f_hourC_kh go _).trans (f_hoursC_kh go F n)
theorem f_setz_kh (F : FS) (z : Int32) : kh (f_setz F z) = kh F := rfl
theorem f_setwd_kh (F : FS) (z : Int32) : kh (f_setwd F z) = kh F := rfl
theorem f_setgs_kh (F : FS) (g : Nat → Int32) : kh (f_setgs F g) = kh F := rfl
theorem f_ga3_kh (F : FS) : kh (f_ga3 F) = kh F := by rw [f_ga3, f_setgs_kh, f_ga2, f_setz_kh, f_ga1, f_setwd_kh, f_setz_kh]
theorem f_gales_kh (F : FS) (n : Nat) : kh (f_gales F n) = kh F := by
  induction n with
  | zero => rfl
  | succ n ih => rw [f_gales, f_gale, f_hourC_kh, f_ga3_kh, ih]
def f_inv (F : FS) : Prop := (∃ m : Nat, m ≤ 8 ∧ f_wk F = nI m ∧ f_hok F m) ∧ f_ok F ∧ f_kok F ∧ ∃ h : Nat, h ≤ 99999 ∧ f_hr F = nI h
def a_inv (X : AS) : Prop := f_inv (a_F X) ∧ (a_kp X = 0 ∨ f_inv (a_K X)) ∧ a_shok X ∧ a_btok X ∧ (a_tp X).2 ≤ 120 ∧ p_byt (a_tp X)
theorem f_inv_kh {F G : FS} (h : f_inv F) (h1 : f_wk G = f_wk F) (h2 : kh G = kh F) (h3 : f_ok G) (h4 : ∃ h : Nat, h ≤ 99999 ∧ f_hr G = nI h) : f_inv G := by
  have e1 : f_kd G = f_kd F := (Prod.mk.inj h2).1
  have e2 : f_hd G = f_hd F := (Prod.mk.inj h2).2
  obtain ⟨⟨m, a1, a2, a3⟩, -, a5, -⟩ := h
  refine ⟨⟨m, a1, h1.trans a2, ?_⟩, h3, ?_, h4⟩
  · intro k hk; rw [e2]; exact a3 k hk
  · intro w hw; rw [e1]; exact a5 w hw
theorem inv_hours {F : FS} {n : Nat} (h : f_inv F) (hn : n ≤ 60) (c : f_hr F + nI n ≤ 99999) : f_inv (f_hoursC goA F n) := by
  obtain ⟨⟨m, hm, hm2, -⟩, hok, -, hh⟩ := id h
  refine f_inv_kh h (f_hoursC_wk _ _ _) (f_hoursC_kh _ _ _) ?_ ?_
  · rw [← f_goC hm hm2 hh hn c]; exact f_ok_hoursR _ hok (hC_m hm hm2) n
  · obtain ⟨t, ht, e⟩ := hh
    rw [e, kn_add] at c
    have := (nI_leI (a := t + n) (b := 99999) (by omega) (by omega)).mp c
    exact ⟨t + n, this, f_hoursC_hr goA F e n this⟩
theorem inv_gales {F : FS} {n : Nat} (h : f_inv F) (hn : n ≤ 60) (c : f_hr F + nI n ≤ 99999) : f_inv (f_gales F n) := by
  obtain ⟨⟨m, hm, hm2, -⟩, hok, -, hh⟩ := id h
  refine f_inv_kh h (f_gales_wk _ _) (f_gales_kh _ _) ?_ ?_
  · rw [← f_gaC hm hm2 hh hn c]; exact f_ok_galesR hok (hC_m hm hm2) n
  · obtain ⟨t, ht, e⟩ := hh
    rw [e, kn_add] at c
    have := (nI_leI (a := t + n) (b := 99999) (by omega) (by omega)).mp c
    exact ⟨t + n, this, (f_galesRC (hC_m hm hm2) e n this).2⟩
theorem inv_bs {F : FS} {b : Nat → Int32} (h : f_inv F) : f_inv (f_setbs F b) := h
theorem inv_wd {F : FS} {v : Int32} (h : f_inv F) : f_inv (f_setwd F v) := h
theorem inv_z {F : FS} {v : Int32} (h : f_inv F) : f_inv (f_setz F v) := h
theorem inv_gs {F : FS} {g : Nat} {v : Int32} (h : f_inv F) (hv : inR v 0 3) : f_inv (f_setgs F (upd (f_gs F) g v)) := by
  obtain ⟨h1, ⟨h2, h3⟩, h4⟩ := h
  refine ⟨h1, ⟨h2, fun k hk => ?_⟩, h4⟩
  show ∃ b : Nat, b ≤ 3 ∧ upd (f_gs F) g v k = nI b
  by_cases e : k = g
  · rw [e, pk_us]; exact kn_rng (n := 3) hv rfl
  · rw [pk_un e]; exact h3 k hk
theorem inv_md {F : FS} {w : Nat} {v : Int32} (h : f_inv F) (hv : inR v 0 9) : f_inv (f_setrow F 3 (upd (f_row F 3) w v)) := by
  obtain ⟨h1, ⟨h2, h3⟩, h4⟩ := h
  refine ⟨h1, ⟨fun k hk => ?_, h3⟩, h4⟩
  show ∃ b : Nat, b ≤ 9 ∧ upd (f_md F) w v k = nI b
  by_cases e : k = w
  · rw [e, pk_us]; exact kn_rng (n := 9) hv rfl
  · rw [pk_un e]; exact h2 k hk
theorem inv_kd {F : FS} {w : Nat} {v : Int32} (h : f_inv F) (hv : inR v 0 6) : f_inv (f_setrow F 0 (upd (f_row F 0) w v)) := by
  obtain ⟨h1, h2, h3, h4⟩ := h
  refine ⟨h1, h2, fun k hk => ?_, h4⟩
  show ∃ b : Nat, b ≤ 6 ∧ upd (f_kd F) w v k = nI b
  by_cases e : k = w
  · rw [e, pk_us]; exact kn_rng (n := 6) hv rfl
  · rw [pk_un e]; exact h3 k hk
theorem inv_add {F : FS} {kind field : Int32} (h : f_inv F) (hm8 : f_m F < 8) (hk : inR kind 0 6) : f_inv (f_add F kind field (f_m F)) := by
  obtain ⟨⟨m, hm, hm2, hh⟩, ⟨h2, h3⟩, h4, h5⟩ := h
  have e := f_mm hm hm2
  rw [e] at hm8 ⊢
  refine ⟨⟨m + 1, by omega, rfl, fun k hk => ?_⟩, ⟨fun k hk => ?_, h3⟩, fun k hk9 => ?_, h5⟩
  · rcases hh k hk with q | ⟨j, q1, q2⟩
    · exact Or.inl q
    · exact Or.inr ⟨j, by omega, q2⟩
  · show ∃ b : Nat, b ≤ 9 ∧ upd (f_md F) m 3 k = nI b
    by_cases e : k = m
    · rw [e, pk_us]; exact ⟨3, by omega, rfl⟩
    · rw [pk_un e]; exact h2 k hk
  · show ∃ b : Nat, b ≤ 6 ∧ upd (f_kd F) m kind k = nI b
    by_cases e : k = m
    · rw [e, pk_us]; exact kn_rng (n := 6) hk rfl
    · rw [pk_un e]; exact h4 k hk9
theorem inv_hd {F : FS} {k : Nat} {w : Int32} (h : f_inv F) (hw : w = -1 ∨ inR w 0 (f_wk F - 1)) : f_inv (f_sethd F (upd (f_hd F) k w)) := by
  obtain ⟨⟨m, hm, hm2, hh⟩, h2⟩ := h
  refine ⟨⟨m, hm, hm2, fun j hj => ?_⟩, h2⟩
  show upd (f_hd F) k w j = -1 ∨ ∃ i : Nat, i < m ∧ upd (f_hd F) k w j = nI i
  by_cases e : j = k
  · rw [e, pk_us]
    rcases hw with q | q
    · exact Or.inl q
    · obtain ⟨i, q1, q2⟩ := isW_nat (X := (F, F, 0, fun _ => 0, (fun _ => 0, 0), fun _ => (fun _ => 0, 0, 0))) hm hm2 q
      exact Or.inr ⟨i, q1, q2⟩
  · rw [pk_un e]; exact hh j hj
theorem keeps_inv : i_keeps f_inv := ⟨fun _ _ h hm hk => inv_add h hm hk, fun _ _ _ h _ _ => h, fun _ _ h _ => h, fun _ _ _ h _ hv => inv_md h hv, fun _ _ _ h _ hv => inv_gs h hv, fun _ _ _ h _ _ => h, fun _ _ h _ => h⟩
theorem inv_m8 {F : FS} (h : f_inv F) : f_m F ≤ 8 := by
  obtain ⟨⟨m, hm, hm2, -⟩, -⟩ := h
  rw [f_mm hm hm2]; exact hm
theorem inv_fin {X : AS} {k : Nat} (h : a_inv X) : a_inv (a_fin X k).2 := h
theorem inv_F {X : AS} {F : FS} (h : a_inv X) (hF : f_inv F) : a_inv (a_setF X F) := ⟨hF, h.2⟩
theorem k_upS_at {S : Nat → SS} {s t : Nat} {x : SS} : k_upS S s x t = if t = s then x else S t := rfl
theorem inv_S {X : AS} {s : Nat} {x : SS} (h : a_inv X) (h1 : ∃ z : Nat, z ≤ 40 ∧ s_sz x = nI z) (h2 : isBits (s_bt x)) : a_inv (a_setS X s x) := by
  obtain ⟨g1, g2, g3, g4, g5⟩ := h
  refine ⟨g1, g2, fun t ht => ?_, fun t ht => ?_, g5⟩
  · show ∃ z : Nat, z ≤ 40 ∧ s_sz (k_upS (a_S X) s x t) = nI z
    rw [k_upS_at]
    by_cases e : t = s
    · rw [if_pos e]; exact h1
    · rw [if_neg e]; exact g3 t ht
  · show isBits (s_bt (k_upS (a_S X) s x t))
    rw [k_upS_at]
    by_cases e : t = s
    · rw [if_pos e]; exact h2
    · rw [if_neg e]; exact g4 t ht
theorem and255 (v : Int32) : ∃ n : Nat, n < 256 ∧ v &&& 255 = nI n := by
  refine ⟨v.toBitVec.toNat &&& 255, ?_, ?_⟩
  · have := Nat.and_le_right (n := v.toBitVec.toNat) (m := 255)
    omega
  · apply Int32.toBitVec_inj.mp
    apply BitVec.eq_of_toNat_eq
    have h9 := Nat.and_le_right (n := v.toBitVec.toNat) (m := 255)
    rw [pk_tn (by omega)]
    rfl
theorem byt_put {p : TP} {v : Int32} (h : p_byt p) : p_byt (tp_put p v) := fun i => by
  show ∃ n : Nat, n < 256 ∧ upd p.1 p.2 (v &&& 255) i = nI n
  by_cases e : i = p.2
  · rw [e, pk_us]; exact and255 v
  · rw [pk_un e]; exact h i
theorem byt_feed {b : Int32} : ∀ (n : Nat) (p : TP), p_byt p → p_byt (tp_feed p b n)
  | 0, _, h => h
  | n + 1, p, h => byt_feed n _ (byt_put h)
theorem len_feed {b : Int32} : ∀ (n : Nat) (p : TP), (tp_feed p b n).2 = p.2 + n
  | 0, _ => rfl
  | n + 1, p => by
    rw [tp_feed, len_feed n]
    show p.2 + 1 + n = p.2 + (n + 1)
    omega
/-! TWO OBJECTS THAT DIFFER, IF AT ALL, IN WHAT IS KEPT WHILE NOTHING IS KEPT -/
abbrev a_setK (X : AS) (K : FS) : AS := (a_F X, K, a_kp X, a_fd X, a_tp X, a_S X)
def a_rel (X Y : AS) : Prop := Y = X ∨ (a_kp X = 0 ∧ ∃ K, Y = a_setK X K)
theorem rel_inv {X Y : AS} (h : a_inv X) (hr : a_rel X Y) : a_inv Y := by
  rcases hr with rfl | ⟨h0, K, rfl⟩
  · exact h
  · exact ⟨h.1, Or.inl h0, h.2.2⟩
theorem rel_of {α : Type} {o : AS → α × AS} {X Y : AS} (hr : a_rel X Y) (hb : ∀ K, a_kp X = 0 → o (a_setK X K) = ((o X).1, a_setK (o X).2 K)) (hk : a_kp X = 0 → a_kp (o X).2 = 0) : (o X).1 = (o Y).1 ∧ a_rel (o X).2 (o Y).2 := by
  rcases hr with rfl | ⟨h0, K, rfl⟩
  · exact ⟨rfl, Or.inl rfl⟩
  · rw [hb K h0]
    exact ⟨rfl, Or.inr ⟨hk h0, K, rfl⟩⟩
theorem eK_F (X : AS) (K : FS) : a_F (a_setK X K) = a_F X := rfl
theorem eK_S (X : AS) (K : FS) : a_S (a_setK X K) = a_S X := rfl
theorem eK_fd (X : AS) (K : FS) : a_fd (a_setK X K) = a_fd X := rfl
theorem eK_tp (X : AS) (K : FS) : a_tp (a_setK X K) = a_tp X := rfl
theorem eK_kp (X : AS) (K : FS) : a_kp (a_setK X K) = a_kp X := rfl
theorem eK_told (X : AS) (K : FS) (s : Nat) (F : FS) : p_told (a_setK X K) s F = p_told X s F := rfl
theorem eK_who (X : AS) (K : FS) (s : Nat) : ∀ n, f_who (a_setK X K) s n = f_who X s n
  | 0 => rfl
  | n + 1 => by rw [f_who, f_who, eK_who X K s n] <;> rfl
theorem eK_fits (X : AS) (K : FS) (s w n : Nat) : ∀ k, f_fits (a_setK X K) s w n k = f_fits X s w n k
  | 0 => rfl
  | k + 1 => by rw [f_fits, f_fits, eK_fits X K s w n k] <;> rfl
theorem eK_kinds (X : AS) (K : FS) (s w : Nat) : ∀ k, f_kinds (a_setK X K) s w k = f_kinds X s w k
  | 0 => rfl
  | k + 1 => by rw [f_kinds, f_kinds, eK_kinds X K s w k] <;> rfl
