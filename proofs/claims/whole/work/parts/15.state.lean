/-! THE CLASS'S CELLS. A 0: the object, its row of sheets, its counts; A 1, A 2, A 3: farm, trial, kept; A 4: the tape; A 5 .. A 8: the sheets -/
def w_G (Z : kz_Z) (A : Nat → Nat → Nat) (kp : Int32) (fd : Nat → Int32) : va_W := [(A 0 0, .inr (3, [.ref (A 1 0), .ref (A 2 0), .ref (A 3 0), .int kp, .ref (A 4 0), .ref (A 0 1), .ref (A 0 2)])), (A 0 1, .inl (Z.2.1 4, 4, .inr (.inr (.inr (.inr (fun k => some (A (5 + k) 0))))))), (A 0 2, .inl (Z.2.1 0, 7, .inl fd))]
/-- the letters that the tape knows its words by -/
def k_letters : List Nat := "walker  postman dog     child   strangermean    daughtershut    ajar    open    propped beasts  wind    in      back    mood    ".toList.map Char.toNat
def k_word (k : Nat) : Int32 := nI (k_letters.getD k 0)
/-- a tape: bytes, how many, sorts, places, lengths of tokens, the next -/
abbrev TS : Type := (Nat → Int32) × Int32 × (Nat → Int32) × (Nat → Int32) × (Nat → Int32) × Int32
abbrev t_by (P : TS) : Nat → Int32 := P.1
abbrev t_sz (P : TS) : Int32 := P.2.1
abbrev t_so (P : TS) : Nat → Int32 := P.2.2.1
abbrev t_pl (P : TS) : Nat → Int32 := P.2.2.2.1
abbrev t_ln (P : TS) : Nat → Int32 := P.2.2.2.2.1
abbrev t_nx (P : TS) : Int32 := P.2.2.2.2.2
def w_T (Z : kz_Z) (c : Nat → Nat) (P : TS) : va_W := [(c 0, .inr (2, [.ref (c 1), .int (t_sz P), .ref (c 2), .ref (c 3), .ref (c 4), .ref (c 5), .int (t_nx P)])), (c 1, .inl (Z.2.1 2, 120, .inl (t_by P))), (c 2, .inl (Z.2.1 3, 128, .inl k_word)), (c 3, .inl (Z.2.1 0, 121, .inl (t_so P))), (c 4, .inl (Z.2.1 0, 121, .inl (t_pl P))), (c 5, .inl (Z.2.1 0, 121, .inl (t_ln P)))]
/-- the four sheets; all but one -/
def w_SS (Z : kz_Z) (A : Nat → Nat → Nat) (S : Nat → SS) : va_W := w_S Z (A 5) (S 0) ++ (w_S Z (A 6) (S 1) ++ (w_S Z (A 7) (S 2) ++ w_S Z (A 8) (S 3)))
def w_SR (Z : kz_Z) (A : Nat → Nat → Nat) (S : Nat → SS) (s : Nat) : va_W := match s with
  | 0 => w_S Z (A 6) (S 1) ++ (w_S Z (A 7) (S 2) ++ w_S Z (A 8) (S 3))
  | 1 => w_S Z (A 5) (S 0) ++ (w_S Z (A 7) (S 2) ++ w_S Z (A 8) (S 3))
  | 2 => w_S Z (A 5) (S 0) ++ (w_S Z (A 6) (S 1) ++ w_S Z (A 8) (S 3))
  | _ => w_S Z (A 5) (S 0) ++ (w_S Z (A 6) (S 1) ++ w_S Z (A 7) (S 2))
def k_upS (S : Nat → SS) (s : Nat) (x : SS) : Nat → SS := fun k => if k = s then x else S k
theorem k_foc {Z : kz_Z} {A : Nat → Nat → Nat} {S : Nat → SS} {s : Nat} (hs : s < 4) : (w_SS Z A S).Perm (w_S Z (A (5 + s)) (S s) ++ w_SR Z A S s) := by
  unfold w_SS
  rcases (show s = 0 ∨ s = 1 ∨ s = 2 ∨ s = 3 by omega) with rfl | rfl | rfl | rfl
  · exact List.Perm.refl _
  · show (w_S Z (A 5) (S 0) ++ (w_S Z (A 6) (S 1) ++ _)).Perm (w_S Z (A 6) (S 1) ++ (w_S Z (A 5) (S 0) ++ _))
    rw [← List.append_assoc (w_S Z (A 5) (S 0)) (w_S Z (A 6) (S 1)), ← List.append_assoc (w_S Z (A 6) (S 1)) (w_S Z (A 5) (S 0))]
    exact List.Perm.append_right _ List.perm_append_comm
  · show (w_S Z (A 5) (S 0) ++ (w_S Z (A 6) (S 1) ++ (w_S Z (A 7) (S 2) ++ w_S Z (A 8) (S 3)))).Perm (w_S Z (A 7) (S 2) ++ (w_S Z (A 5) (S 0) ++ (w_S Z (A 6) (S 1) ++ w_S Z (A 8) (S 3))))
    refine List.Perm.trans (List.Perm.append_left _ (t₂ := w_S Z (A 7) (S 2) ++ (w_S Z (A 6) (S 1) ++ w_S Z (A 8) (S 3))) ?_) ?_
    · rw [← List.append_assoc (w_S Z (A 6) (S 1)), ← List.append_assoc (w_S Z (A 7) (S 2))]
      exact List.Perm.append_right _ List.perm_append_comm
    · rw [← List.append_assoc (w_S Z (A 5) (S 0)) (w_S Z (A 7) (S 2)), ← List.append_assoc (w_S Z (A 7) (S 2)) (w_S Z (A 5) (S 0))]
      exact List.Perm.append_right _ List.perm_append_comm
  · show (w_S Z (A 5) (S 0) ++ (w_S Z (A 6) (S 1) ++ (w_S Z (A 7) (S 2) ++ w_S Z (A 8) (S 3)))).Perm (w_S Z (A 8) (S 3) ++ (w_S Z (A 5) (S 0) ++ (w_S Z (A 6) (S 1) ++ w_S Z (A 7) (S 2))))
    rw [← List.append_assoc (w_S Z (A 6) (S 1)), ← List.append_assoc (w_S Z (A 5) (S 0))]
    exact List.perm_append_comm
theorem k_unf {Z : kz_Z} {A : Nat → Nat → Nat} {S : Nat → SS} {s : Nat} (hs : s < 4) (x : SS) : (w_S Z (A (5 + s)) x ++ w_SR Z A S s).Perm (w_SS Z A (k_upS S s x)) := by
  have h := (k_foc (Z := Z) (A := A) (S := k_upS S s x) hs).symm
  have e1 : k_upS S s x s = x := if_pos rfl
  have e2 : w_SR Z A (k_upS S s x) s = w_SR Z A S s := by
    rcases (show s = 0 ∨ s = 1 ∨ s = 2 ∨ s = 3 by omega) with rfl | rfl | rfl | rfl <;> rfl
  rw [e1, e2] at h
  exact h
section KP9
variable {M : kT} {nL pc : Nat} {lv : List (Nat × Value)} {st : List Value} {ws ws' : va_W}
theorem k_Pp {D : va_G} {cl : List vw_C} {H : Heap} (h : ws.Perm ws') (hP : va_P D cl ws H) : va_P D cl ws' H := k_P.mpr fun q hq => k_P.mp hP q (h.mem_iff.mpr hq)
theorem k_Dp {A : Nat → Prop} (h : ws.Perm ws') (hD : va_D A ws) : va_D A ws' := by
  rw [k_D] at hD ⊢
  exact ⟨(h.pairwise_iff (fun h9 => Ne.symm h9)).mp hD.1, fun q hq => hD.2 q (h.mem_iff.mpr hq)⟩
theorem q_perm (h : ws.Perm ws') (kk : kJ M nL pc lv st ws') : kJ M nL pc lv st ws := fun H locs ls hP hD hS hl => kk H locs ls (k_Pp h hP) (k_Dp h hD) hS hl
end KP9
theorem kn_rng {x c : Int32} {n : Nat} (h : inR x 0 c) (hc : c.toInt = n) : ∃ j : Nat, j ≤ n ∧ x = nI j := nI_of2 hc (Int32.not_lt.mpr h.1) h.2
def s_clr (S : SS) : Nat → Nat → Int32
  | 0 => s_nm S
  | i + 1 => upd (s_clr S i) i 0
def s_cut (b v : Int32) : Int32 := if b = 8 then v.toInt8.toInt32 else if b = 16 then v.toInt16.toInt32 else v
abbrev s_has (z f n : Int32) : Prop := ¬ f < 0 ∧ ¬ n < 0 ∧ ¬ z < n ∧ ¬ z - n < f
/-! WHAT AN OBJECT IS: the farm, what is kept, whether (0, 1), how many findings of each, the tape's bytes (0 to 255) and their number, the sheets -/
abbrev TP : Type := (Nat → Int32) × Nat
abbrev AS : Type := FS × FS × Int32 × (Nat → Int32) × TP × (Nat → SS)
abbrev a_F (X : AS) : FS := X.1
abbrev a_K (X : AS) : FS := X.2.1
abbrev a_kp (X : AS) : Int32 := X.2.2.1
abbrev a_fd (X : AS) : Nat → Int32 := X.2.2.2.1
abbrev a_tp (X : AS) : TP := X.2.2.2.2.1
abbrev a_S (X : AS) : Nat → SS := X.2.2.2.2.2
/-- what the tape holds beside: sorts, places, lengths, next -/
abbrev TJ : Type := (Nat → Int32) × (Nat → Int32) × (Nat → Int32) × Int32
def t_of (p : TP) (J : TJ) : TS := (fun k => (p.1 k).toInt8.toInt32, nI p.2, J.1, J.2.1, J.2.2.1, J.2.2.2)
def w_C (Z : kz_Z) (A : Nat → Nat → Nat) (X : AS) (T : FS) (J : TJ) : va_W := w_G Z A (a_kp X) (a_fd X) ++ (w_F Z (A 1) (a_F X) ++ (w_F Z (A 2) T ++ (w_F Z (A 3) (a_K X) ++ (w_T Z (A 4) (t_of (a_tp X) J) ++ w_SS Z A (a_S X)))))
def a_setF (X : AS) (F : FS) : AS := (F, a_K X, a_kp X, a_fd X, a_tp X, a_S X)
def a_setfd (X : AS) (f : Nat → Int32) : AS := (a_F X, a_K X, a_kp X, f, a_tp X, a_S X)
def r_fin (k : Nat) : Int32 := -1000001 - nI k
def fd_up (f : Nat → Int32) (k : Nat) : Nat → Int32 := upd f k (f k + 1)
/-- a finding: told and counted -/
def a_fin (X : AS) (k : Nat) : Int32 × AS := (r_fin k, a_setfd X (fd_up (a_fd X) k))
def a_sum (f : Nat → Int32) : Nat → Int32
  | 0 => 0
  | k + 1 => a_sum f k + f k
def f_setbs (F : FS) (b : Nat → Int32) : FS := (b, f_gs F, f_kd F, f_fd F, f_wy F, f_md F, f_ps F, f_hd F, f_wk F, f_wd F, f_hr F, f_zz F)
def f_setgs (F : FS) (b : Nat → Int32) : FS := (f_bs F, b, f_kd F, f_fd F, f_wy F, f_md F, f_ps F, f_hd F, f_wk F, f_wd F, f_hr F, f_zz F)
def f_setwd (F : FS) (b : Int32) : FS := (f_bs F, f_gs F, f_kd F, f_fd F, f_wy F, f_md F, f_ps F, f_hd F, f_wk F, b, f_hr F, f_zz F)
def f_sethd (F : FS) (b : Nat → Int32) : FS := (f_bs F, f_gs F, f_kd F, f_fd F, f_wy F, f_md F, f_ps F, b, f_wk F, f_wd F, f_hr F, f_zz F)
/-- part k of the walkers: kind, field, way, mood, passed -/
def f_row (F : FS) (k : Nat) : Nat → Int32 := match k with
  | 0 => f_kd F
  | 1 => f_fd F
  | 2 => f_wy F
  | 3 => f_md F
  | _ => f_ps F
def f_setrow (F : FS) (k : Nat) (r : Nat → Int32) : FS := match k with
  | 0 => (f_bs F, f_gs F, r, f_fd F, f_wy F, f_md F, f_ps F, f_hd F, f_wk F, f_wd F, f_hr F, f_zz F)
  | 1 => (f_bs F, f_gs F, f_kd F, r, f_wy F, f_md F, f_ps F, f_hd F, f_wk F, f_wd F, f_hr F, f_zz F)
  | 2 => (f_bs F, f_gs F, f_kd F, f_fd F, r, f_md F, f_ps F, f_hd F, f_wk F, f_wd F, f_hr F, f_zz F)
  | 3 => (f_bs F, f_gs F, f_kd F, f_fd F, f_wy F, r, f_ps F, f_hd F, f_wk F, f_wd F, f_hr F, f_zz F)
  | _ => (f_bs F, f_gs F, f_kd F, f_fd F, f_wy F, f_md F, r, f_hd F, f_wk F, f_wd F, f_hr F, f_zz F)
/-- walkers are as many as m tells -/
abbrev f_m (F : FS) : Nat := (f_wk F).toNatClampNeg
/-! THE CALLS, as they answer and what they leave -/
def o_beasts (X : AS) (field v : Int32) : Int32 × AS := if inR field 0 8 then (if inR v 0 9999 then (f_bs (a_F X) field.toNatClampNeg, a_setF X (f_setbs (a_F X) (upd (f_bs (a_F X)) field.toNatClampNeg v))) else a_fin X 0) else a_fin X 0
def o_field (X : AS) (field what : Int32) : Int32 × AS := if inR field 0 8 then (if inR what 0 1 then (if what = 0 then f_bs (a_F X) field.toNatClampNeg else f_wset (a_F X) field (f_m (a_F X)), X) else a_fin X 0) else a_fin X 0
def o_gate (X : AS) (gate v : Int32) : Int32 × AS := if inR gate 0 7 then (if inR v 0 3 then (f_gs (a_F X) gate.toNatClampNeg, a_setF X (f_setgs (a_F X) (upd (f_gs (a_F X)) gate.toNatClampNeg v))) else a_fin X 0) else a_fin X 0
def o_stands (X : AS) (gate : Int32) : Int32 × AS := if inR gate 0 7 then (f_gs (a_F X) gate.toNatClampNeg, X) else a_fin X 0
def o_wind (X : AS) (v : Int32) : Int32 × AS := if inR v 0 9 then (f_wd (a_F X), a_setF X (f_setwd (a_F X) v)) else a_fin X 0
def o_walker (X : AS) (kind field : Int32) : Int32 × AS := if inR kind 0 6 then (if inR field 0 8 then (if f_m (a_F X) = 8 then a_fin X 1 else (f_wk (a_F X), a_setF X (f_add (a_F X) kind field (f_m (a_F X))))) else a_fin X 0) else a_fin X 0
/-- such a walker there is -/
abbrev isW (X : AS) (w : Int32) : Prop := inR w 0 (f_wk (a_F X) - 1)
def o_of (X : AS) (w what : Int32) : Int32 × AS := if isW X w then (if inR what 0 5 then (if what = 5 then f_goes (a_F X) w.toNatClampNeg else f_row (a_F X) what.toNatClampNeg w.toNatClampNeg, X) else a_fin X 0) else a_fin X 0
def o_most (k : Nat) : Int32 := match k with | 0 => 6 | 1 => 8 | 2 => 1 | 3 => 9 | _ => 9999
def o_change (X : AS) (w what v : Int32) : Int32 × AS := if isW X w then (if inR what 0 4 then (if inR v 0 (o_most what.toNatClampNeg) then (f_row (a_F X) what.toNatClampNeg w.toNatClampNeg, a_setF X (f_setrow (a_F X) what.toNatClampNeg (upd (f_row (a_F X) what.toNatClampNeg) w.toNatClampNeg v))) else a_fin X 0) else a_fin X 0) else a_fin X 0
def o_leaves (X : AS) (w s what : Int32) : Int32 × AS := if isW X w then (if inR s 0 3 then (if inR what 0 1 then (if what = 0 then f_leaves (a_F X) w.toNatClampNeg s else f_feels (a_F X) w.toNatClampNeg s, X) else a_fin X 0) else a_fin X 0) else a_fin X 0
theorem isW_nat {X : AS} {w : Int32} {m : Nat} (hm : m ≤ 8) (hm2 : f_wk (a_F X) = nI m) (h : isW X w) : ∃ j : Nat, j < m ∧ w = nI j := by
  obtain ⟨h1, h2⟩ := h
  rw [hm2] at h2
  obtain ⟨j, hj, rfl⟩ := nI_of (Int32.not_lt.mpr h1)
  refine ⟨j, ?_, rfl⟩
  rcases m with _ | k
  · rw [fa_le, nI_toInt hj] at h2
    have : (nI 0 - 1 : Int32).toInt = -1 := rfl
    omega
  · rw [nI_pred, nI_leI hj (by omega)] at h2
    omega
theorem k_sw (a b c : va_W) : (a ++ (b ++ c)).Perm (b ++ (a ++ c)) := by
  rw [← List.append_assoc, ← List.append_assoc]
  exact List.Perm.append_right _ List.perm_append_comm
theorem f_mm {F : FS} {m : Nat} (hm : m ≤ 8) (hm2 : f_wk F = nI m) : f_m F = m := by
  show (f_wk F).toNatClampNeg = m
  rw [hm2, nI_clamp (by omega)]
theorem kn_most (k : Nat) : k_most k = .int (o_most k) := by
  match k with
  | 0 => rfl
  | 1 => rfl
  | 2 => rfl
  | 3 => rfl
  | n + 4 => rfl
theorem kn_rng1 {x c : Int32} {n : Nat} (h : inR x 1 c) (hc : c.toInt = n) : ∃ j : Nat, (1 ≤ j ∧ j ≤ n) ∧ x = nI j := by
  have h1 : ¬ x < 0 := by
    rw [fa_lt]
    have := (fa_le _ _).mp h.1
    have e : (1 : Int32).toInt = 1 := rfl
    have e0 : (0 : Int32).toInt = 0 := rfl
    omega
  obtain ⟨j, hj, rfl⟩ := nI_of2 hc h1 h.2
  refine ⟨j, ⟨?_, hj⟩, rfl⟩
  rcases j with _ | j
  · exact absurd h.1 (by decide)
  · omega
/-- all go -/
abbrev goA : Nat → Bool := f_gm 255
def o_go (X : AS) (n : Int32) : Int32 × AS := if inR n 1 60 then (if f_hr (a_F X) + n ≤ 99999 then (f_by4 (f_hoursC goA (a_F X) n.toNatClampNeg), a_setF X (f_hoursC goA (a_F X) n.toNatClampNeg)) else a_fin X 4) else a_fin X 0
def o_now (X : AS) (what : Int32) : Int32 × AS := if what = 0 then (f_hr (a_F X), X) else if what = 1 then (f_sumb (a_F X) 9, X) else if what = 2 then (f_ns (a_F X) 8, X) else if what = 3 then (f_by4 (a_F X), X) else if what = 4 then (f_sump (a_F X) (f_m (a_F X)), X) else if what = 5 then (nI (f_best (a_F X) 8), X) else a_fin X 0
def o_ahead (X : AS) (field n : Int32) : Int32 × AS := if inR field 0 8 then (if inR n 0 100 then (f_bs (f_hoursC goA (a_F X) n.toNatClampNeg) field.toNatClampNeg, X) else a_fin X 0) else a_fin X 0
def o_stand (X : AS) (gate n : Int32) : Int32 × AS := if inR gate 0 7 then (if inR n 0 100 then (f_gs (f_hoursC goA (a_F X) n.toNatClampNeg) gate.toNatClampNeg, X) else a_fin X 0) else a_fin X 0
def o_where (X : AS) (w what n : Int32) : Int32 × AS := if isW X w then (if what = 1 then (if inR n 0 100 then (f_fd (f_hoursC goA (a_F X) n.toNatClampNeg) w.toNatClampNeg, X) else a_fin X 0) else if what = 3 then (if inR n 0 100 then (f_md (f_hoursC goA (a_F X) n.toNatClampNeg) w.toNatClampNeg, X) else a_fin X 0) else a_fin X 0) else a_fin X 0
/-- the first i from i on, in n steps, that has p; else the end -/
def o_find (p : Nat → Bool) : Nat → Nat → Nat
  | 0, i => i
  | n + 1, i => if p i = true then i else o_find p n (i + 1)
/-- a first number below c, or the finding that there is none -/
def o_none (X : AS) (k c : Nat) : Int32 × AS := if k < c then (nI k, X) else a_fin X 3
def p_corn (F : FS) (f : Nat) (v : Int32) (i : Nat) : Bool := !decide (f_bs (f_hoursC goA F i) f < v)
def p_when (F : FS) (g : Nat) (s : Int32) (i : Nat) : Bool := decide (f_gs (f_hoursC goA F i) g = s)
def p_meet (F : FS) (a b i : Nat) : Bool := decide (f_fd (f_hoursC goA F i) a = f_fd (f_hoursC goA F i) b)
def o_corn (X : AS) (field v : Int32) : Int32 × AS := if inR field 0 8 then (if inR v 0 9999 then o_none X (o_find (p_corn (a_F X) field.toNatClampNeg v) 101 0) 101 else a_fin X 0) else a_fin X 0
def o_when (X : AS) (gate s : Int32) : Int32 × AS := if inR gate 0 7 then (if inR s 0 3 then o_none X (o_find (p_when (a_F X) gate.toNatClampNeg s) 101 0) 101 else a_fin X 0) else a_fin X 0
def o_meet (X : AS) (a b : Int32) : Int32 × AS := if isW X a then (if isW X b then (if a = b then a_fin X 0 else o_none X (o_find (p_meet (a_F X) a.toNatClampNeg b.toNatClampNeg) 101 0) 101) else a_fin X 0) else a_fin X 0
def p_windFor (F : FS) (f : Nat) (v : Int32) (n i : Nat) : Bool := !decide (v < f_bs (f_hoursC goA (f_setwd F (nI i)) n) f)
def o_windFor (X : AS) (field v n : Int32) : Int32 × AS := if inR field 0 8 then (if inR v 0 9999 then (if inR n 0 40 then o_none X (o_find (p_windFor (a_F X) field.toNatClampNeg v n.toNatClampNeg) 10 0) 10 else a_fin X 0) else a_fin X 0) else a_fin X 0
abbrev isWish (X : AS) (w g s n : Int32) : Prop := isW X w ∧ inR g 0 7 ∧ inR s 0 3 ∧ inR n 0 40
/-- the values below a bound that make a gate stand so, as a set -/
def f_vset (F : FS) (k w g : Nat) (s : Int32) (n : Nat) : Nat → Int32
  | 0 => 0
  | v + 1 => if f_gs (f_hoursC goA (f_setrow F k (upd (f_row F k) w (nI v))) n) g = s then f_vset F k w g s n v ||| ((1 : Int32) <<< (nI v &&& 31)) else f_vset F k w g s n v
def o_kindsFor (X : AS) (w g s n : Int32) : Int32 × AS := if isWish X w g s n then (f_vset (a_F X) 0 w.toNatClampNeg g.toNatClampNeg s n.toNatClampNeg 7, X) else a_fin X 0
def o_moods (X : AS) (w g s n : Int32) : Int32 × AS := if isWish X w g s n then (f_vset (a_F X) 3 w.toNatClampNeg g.toNatClampNeg s n.toNatClampNeg 10, X) else a_fin X 0
/-- the best gate below a bound, and how few -/
def f_shut (F : FS) (f n : Nat) : Nat → Nat × Int32
  | 0 => (0, 10000)
  | g + 1 => if (f_shut F f n g).2 ≤ f_bs (f_hoursC goA (f_setgs F (upd (f_gs F) g 0)) n) f then f_shut F f n g else (g, f_bs (f_hoursC goA (f_setgs F (upd (f_gs F) g 0)) n) f)
def o_shut (X : AS) (field n : Int32) : Int32 × AS := if inR field 0 8 then (if inR n 0 40 then (nI (f_shut (a_F X) field.toNatClampNeg n.toNatClampNeg 8).1, X) else a_fin X 0) else a_fin X 0
