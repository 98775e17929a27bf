/-! THE FARM AS NUMBERS: fields' beasts, gates, five rows of walkers, spots, and four numbers -/
abbrev FS : Type := (Nat → Int32) × (Nat → Int32) × (Nat → Int32) × (Nat → Int32) × (Nat → Int32) × (Nat → Int32) × (Nat → Int32) × (Nat → Int32) × Int32 × Int32 × Int32 × Int32
abbrev f_bs (F : FS) : Nat → Int32 := F.1
abbrev f_gs (F : FS) : Nat → Int32 := F.2.1
abbrev f_kd (F : FS) : Nat → Int32 := F.2.2.1
abbrev f_fd (F : FS) : Nat → Int32 := F.2.2.2.1
abbrev f_wy (F : FS) : Nat → Int32 := F.2.2.2.2.1
abbrev f_md (F : FS) : Nat → Int32 := F.2.2.2.2.2.1
abbrev f_ps (F : FS) : Nat → Int32 := F.2.2.2.2.2.2.1
abbrev f_hd (F : FS) : Nat → Int32 := F.2.2.2.2.2.2.2.1
abbrev f_wk (F : FS) : Int32 := F.2.2.2.2.2.2.2.2.1
abbrev f_wd (F : FS) : Int32 := F.2.2.2.2.2.2.2.2.2.1
abbrev f_hr (F : FS) : Int32 := F.2.2.2.2.2.2.2.2.2.2.1
abbrev f_zz (F : FS) : Int32 := F.2.2.2.2.2.2.2.2.2.2.2
/-- a Farm's cells: the object at a 0, its arrays at a 1 to a 4, the rows of parts at a 5 to a 9 -/
def w_F (Z : kz_Z) (a : Nat → Nat) (F : FS) : va_W := [(a 0, .inr (0, [.ref (a 1), .ref (a 2), .ref (a 3), .ref (a 4), .int (f_wk F), .int (f_wd F), .int (f_hr F), .int (f_zz F)])), (a 1, .inl (Z.2.1 0, 9, .inl (f_bs F))), (a 2, .inl (Z.2.1 0, 8, .inl (f_gs F))), (a 3, .inl (Z.2.1 1, 5, .inr (.inr (.inr (.inr (fun k => some (a (5 + k)))))))), (a 4, .inl (Z.2.1 0, 10, .inl (f_hd F))), (a 5, .inl (Z.2.1 0, 8, .inl (f_kd F))), (a 6, .inl (Z.2.1 0, 8, .inl (f_fd F))), (a 7, .inl (Z.2.1 0, 8, .inl (f_wy F))), (a 8, .inl (Z.2.1 0, 8, .inl (f_md F))), (a 9, .inl (Z.2.1 0, 8, .inl (f_ps F)))]
/-! how walkers leave, feel, go -/
def f_pl (F : FS) (s : Int32) : Int32 := if f_wd F < 5 then s else 0
def f_dg (F : FS) (s : Int32) : Int32 := if f_pl F s = 1 then 2 else f_pl F s
def f_r4 (x : Int32) : Int32 := x - x / 4 * 4
def f_ch (F : FS) (w : Nat) (s : Int32) : Int32 := f_r4 (f_dg F s + f_md F w)
def f_leaves (F : FS) (w : Nat) (s : Int32) : Int32 := if f_kd F w = 1 then 3 else if f_kd F w = 2 then f_dg F s else if f_kd F w = 3 then f_ch F w s else if f_kd F w = 4 then 3 - f_ch F w s else if f_kd F w = 5 then 0 else if f_kd F w = 6 then (if s = 0 then 1 else 3) else f_pl F s
def f_mn (x y : Int32) : Int32 := if y < x then y else x
def f_mx (x y : Int32) : Int32 := if x < y then y else x
def f_fdg (F : FS) (w : Nat) (s : Int32) : Int32 := f_mn (f_md F w + s) 9
def f_fch (F : FS) (w : Nat) (s : Int32) : Int32 := f_mn (f_fdg F w s + 1) 9
def f_feels (F : FS) (w : Nat) (s : Int32) : Int32 := if f_kd F w = 1 then 9 else if f_kd F w = 2 then f_fdg F w s else if f_kd F w = 3 then f_fch F w s else if f_kd F w = 4 then f_fch F w s / 2 else if f_kd F w = 5 then f_mx (f_md F w - 1) 0 else if f_kd F w = 6 then 9 - s else f_md F w
def f_gdg (F : FS) (w : Nat) : Int32 := if f_md F w < 5 then 1 else 3
def f_goes (F : FS) (w : Nat) : Int32 := if f_kd F w = 1 then 2 else if f_kd F w = 2 then f_gdg F w else if f_kd F w = 3 then f_gdg F w - 1 else if f_kd F w = 4 then f_gdg F w - 1 else if f_kd F w = 6 then 2 else 1
/-! a walker at a gate; its gates in an hour -/
def f_gate (F : FS) (w : Nat) : Int32 := if f_wy F w = 0 then f_fd F w else f_fd F w - 1
def f_turn (F : FS) (w : Nat) : FS := (f_bs F, f_gs F, f_kd F, f_fd F, upd (f_wy F) w (1 - f_wy F w), f_md F, f_ps F, f_hd F, f_wk F, f_wd F, f_hr F, f_zz F)
def f_go (F : FS) (w g : Nat) : FS := (f_bs F, upd (f_gs F) g (f_leaves F w (f_gs F g)), f_kd F, upd (f_fd F) w (if f_wy F w = 0 then nI (g + 1) else nI g), f_wy F, upd (f_md F) w (f_feels F w (f_gs F g)), upd (f_ps F) w (f_mn (f_ps F w + 1) 9999), f_hd F, f_wk F, f_wd F, f_hr F, f_zz F)
def f_step (F : FS) (w : Nat) : FS := if f_gate F w < 0 then f_turn F w else if f_gate F w < 8 then f_go F w (f_gate F w).toNatClampNeg else f_turn F w
def f_its (F : FS) (w : Nat) : Nat → FS
  | 0 => F
  | i + 1 => f_step (f_its F w i) w
def f_letGo (F : FS) (w : Nat) : FS := f_its F w (f_goes F w).toNatClampNeg
theorem f_goes_nat (F : FS) (w : Nat) : ∃ k : Nat, k ≤ 3 ∧ f_goes F w = nI k := by
  unfold f_goes f_gdg
  by_cases h1 : f_kd F w = 1
  · exact ⟨2, by omega, by simp only [if_pos h1]; rfl⟩
  by_cases h2 : f_md F w < 5
  · simp only [if_neg h1, if_pos h2]
    by_cases h3 : f_kd F w = 2
    · exact ⟨1, by omega, by simp only [if_pos h3]; rfl⟩
    by_cases h4 : f_kd F w = 3
    · exact ⟨0, by omega, by simp only [if_neg h3, if_pos h4]; rfl⟩
    by_cases h5 : f_kd F w = 4
    · exact ⟨0, by omega, by simp only [if_neg h3, if_neg h4, if_pos h5]; rfl⟩
    by_cases h6 : f_kd F w = 6
    · exact ⟨2, by omega, by simp only [if_neg h3, if_neg h4, if_neg h5, if_pos h6]; rfl⟩
    · exact ⟨1, by omega, by simp only [if_neg h3, if_neg h4, if_neg h5, if_neg h6]; rfl⟩
  · simp only [if_neg h1, if_neg h2]
    by_cases h3 : f_kd F w = 2
    · exact ⟨3, by omega, by simp only [if_pos h3]; rfl⟩
    by_cases h4 : f_kd F w = 3
    · exact ⟨2, by omega, by simp only [if_neg h3, if_pos h4]; rfl⟩
    by_cases h5 : f_kd F w = 4
    · exact ⟨2, by omega, by simp only [if_neg h3, if_neg h4, if_pos h5]; rfl⟩
    by_cases h6 : f_kd F w = 6
    · exact ⟨2, by omega, by simp only [if_neg h3, if_neg h4, if_neg h5, if_pos h6]; rfl⟩
    · exact ⟨1, by omega, by simp only [if_neg h3, if_neg h4, if_neg h5, if_neg h6]; rfl⟩
theorem f_step_wk (F : FS) (w : Nat) : f_wk (f_step F w) = f_wk F := by
  unfold f_step
  by_cases h1 : f_gate F w < 0
  · rw [if_pos h1]; rfl
  · rw [if_neg h1]
    by_cases h2 : f_gate F w < 8
    · rw [if_pos h2]; rfl
    · rw [if_neg h2]; rfl
theorem f_its_wk (F : FS) (w : Nat) : ∀ i, f_wk (f_its F w i) = f_wk F
  | 0 => rfl
  | i + 1 => (f_step_wk _ w).trans (f_its_wk F w i)
theorem f_letGo_wk (F : FS) (w : Nat) : f_wk (f_letGo F w) = f_wk F := f_its_wk F w _
/-! beasts move, gates are blown shut, hours -/
def f_thr (s m : Int32) : Int32 := if s = 0 then 0 else if s = 1 then m / 16 else m / 4
def f_mv (F : FS) (g : Nat) : Int32 := f_thr (f_gs F g) (f_bs F g - f_bs F (g + 1))
def f_mvs (F : FS) : Nat → Nat → Int32
  | 0 => f_bs F
  | g + 1 => upd (upd (f_mvs F g) g (f_mvs F g g - f_mv F g)) (g + 1) (upd (f_mvs F g) g (f_mvs F g g - f_mv F g) (g + 1) + f_mv F g)
theorem f_mvs_hi (F : FS) : ∀ (g j : Nat), g < j → f_mvs F g j = f_bs F j
  | 0, _, _ => rfl
  | g + 1, j, h => by
    show upd _ _ _ j = _
    rw [pk_un (by omega), pk_un (by omega)]
    exact f_mvs_hi F g j (by omega)
def f_move (F : FS) : FS := (f_mvs F 8, f_gs F, f_kd F, f_fd F, f_wy F, f_md F, f_ps F, f_hd F, f_wk F, f_wd F, f_hr F, f_zz F)
def f_blw (F : FS) : Nat → Nat → Int32
  | 0 => f_gs F
  | g + 1 => if f_wd F < 7 then f_blw F g else if f_blw F g g = 3 then f_blw F g else upd (f_blw F g) g 0
def f_blow (F : FS) : FS := (f_bs F, f_blw F 8, f_kd F, f_fd F, f_wy F, f_md F, f_ps F, f_hd F, f_wk F, f_wd F, f_hr F, f_zz F)
def f_wks (go : Nat → Bool) (F : FS) : Nat → FS
  | 0 => F
  | w + 1 => if go w = true then f_letGo (f_wks go F w) w else f_wks go F w
theorem f_wks_wk (go : Nat → Bool) (F : FS) : ∀ w, f_wk (f_wks go F w) = f_wk F
  | 0 => rfl
  | w + 1 => by
    show f_wk (if go w = true then f_letGo (f_wks go F w) w else f_wks go F w) = _
    by_cases h : go w = true
    · rw [if_pos h, f_letGo_wk, f_wks_wk go F w]
    · rw [if_neg h, f_wks_wk go F w]
/-- an hour but for the clock -/
def f_hour (go : Nat → Bool) (F : FS) : FS := f_blow (f_move (f_wks go F (f_wk F).toNatClampNeg))
def f_sethr (F : FS) (h : Int32) : FS := (f_bs F, f_gs F, f_kd F, f_fd F, f_wy F, f_md F, f_ps F, f_hd F, f_wk F, f_wd F, h, f_zz F)
def f_hourC (go : Nat → Bool) (F : FS) : FS := f_sethr (f_hour go F) (f_mn (f_hr (f_hour go F) + 1) 99999)
def f_hoursC (go : Nat → Bool) (F : FS) : Nat → FS
  | 0 => F
  | n + 1 => f_hourC go (f_hoursC go F n)
theorem f_hour_wk (go : Nat → Bool) (F : FS) : f_wk (f_hour go F) = f_wk F := by
  unfold f_hour
  generalize (f_wk F).toNatClampNeg = m
  exact f_wks_wk go F m
theorem f_hourC_wk (go : Nat → Bool) (F : FS) : f_wk (f_hourC go F) = f_wk F := by
  unfold f_hourC
  exact f_hour_wk go F
theorem f_hoursC_wk (go : Nat → Bool) (F : FS) (n : Nat) : f_wk (f_hoursC go F n) = f_wk F := by
  induction n with
  | zero => rfl
  | succ n ih => rw [f_hoursC, f_hourC_wk, ih]
/-- who goes, by a mask of those who go -/
def f_gm (g : Int32) (w : Nat) : Bool := decide ((g >>> (nI w &&& 31)) &&& 1 = 1)
theorem f_gm_t {g : Int32} {w : Nat} (h : (g >>> (nI w &&& 31)) &&& 1 = 1) : f_gm g w = true := decide_eq_true h
theorem f_gm_f {g : Int32} {w : Nat} (h : ¬ (g >>> (nI w &&& 31)) &&& 1 = 1) : ¬ f_gm g w = true := fun h9 => h (of_decide_eq_true h9)
theorem kn_ix {x : Int32} {c : Int32} {n : Nat} (h1 : ¬ x < 0) (h2 : x < c) (hc : c.toInt = n) : ∃ g : Nat, g < n ∧ x = nI g := by
  obtain ⟨j, hj, rfl⟩ := nI_of h1
  refine ⟨j, ?_, rfl⟩
  rw [fa_lt, nI_toInt hj, hc] at h2
  omega
/-! what an array holds beyond its end is nothing -/
theorem k_cellext {c : ClassId} {n : Nat} {f g : Nat → Int32} (h : ∀ k, k < n → g k = f k) : vp_cell c (n, .inl g) = vp_cell c (n, .inl f) := by
  rw [vp_cell_i, vp_cell_i]
  unfold arrV
  congr 1
  apply Array.ext
  · simp
  · intro i h1 h2
    simp at h1
    simp [h i h1]
section KE
variable {M : kT} {nL pc : Nat} {lv : List (Nat × Value)} {st : List Value} {ws ws' : va_W}
theorem q_ext (q0 : Nat) {a n : Nat} {c : ClassId} {f : Nat → Int32} (g : Nat → Int32) (he : ws[q0]? = some (a, .inl (c, n, .inl f))) (h : ∀ k, k < n → g k = f k) (hw : ws.set q0 (a, .inl (c, n, .inl g)) = ws') (kk : kJ M nL pc lv st ws') : kJ M nL pc lv st ws := fun H locs ls hP hD hS hl => by
  subst hw
  refine kk H locs ls (hP.set hD he ?_ (fun _ _ => rfl)) (hD.set he) hS hl
  show H[a]? = some (vp_cell c (n, .inl g))
  rw [k_cellext h]
  exact hP q0 _ he
end KE
theorem kn_cpy {f g : Nat → Int32} {n k : Nat} (h : k < n) : f k = va_cpy f g 0 0 n k := by
  rw [pk_cpy_in (Nat.zero_le k) (by omega)]
  congr 1
  omega
/-! a sheet: its numbers, its bits, how many -/
abbrev SS : Type := (Nat → Int32) × Int32 × Int32
abbrev s_nm (S : SS) : Nat → Int32 := S.1
abbrev s_bt (S : SS) : Int32 := S.2.1
abbrev s_sz (S : SS) : Int32 := S.2.2
def w_S (Z : kz_Z) (b : Nat → Nat) (S : SS) : va_W := [(b 0, .inr (1, [.ref (b 1), .int (s_bt S), .int (s_sz S)])), (b 1, .inl (Z.2.1 0, 40, .inl (s_nm S)))]
/-! sums and sets over a farm -/
def f_wset (F : FS) (f : Int32) : Nat → Int32
  | 0 => 0
  | w + 1 => if f_fd F w = f then f_wset F f w ||| ((1 : Int32) <<< (nI w &&& 31)) else f_wset F f w
def f_by4 (F : FS) : Int32 := ((((((((0 * 4 + f_gs F 7) * 4 + f_gs F 6) * 4 + f_gs F 5) * 4 + f_gs F 4) * 4 + f_gs F 3) * 4 + f_gs F 2) * 4 + f_gs F 1) * 4 + f_gs F 0)
def f_ns (F : FS) : Nat → Int32
  | 0 => 0
  | g + 1 => if f_gs F g = 0 then f_ns F g else f_ns F g ||| ((1 : Int32) <<< (nI g &&& 31))
def f_sumb (F : FS) : Nat → Int32
  | 0 => 0
  | f + 1 => f_sumb F f + f_bs F f
def f_sump (F : FS) : Nat → Int32
  | 0 => 0
  | w + 1 => f_sump F w + f_ps F w
def f_best (F : FS) : Nat → Nat
  | 0 => 0
  | k + 1 => if f_bs F (k + 1) ≤ f_bs F (f_best F k) then f_best F k else k + 1
theorem f_best_le (F : FS) : ∀ k, f_best F k ≤ k
  | 0 => Nat.le_refl 0
  | k + 1 => by
    unfold f_best
    have := f_best_le F k
    split <;> omega
def f_spn (F : FS) : Nat → Int32
  | 0 => 0
  | k + 1 => if f_hd F k = -1 then f_spn F k else f_spn F k + 1
/-- gates stand as a row tells, the first i of them -/
def f_told (nm gs : Nat → Int32) : Nat → Bool
  | 0 => true
  | i + 1 => f_told nm gs i && (decide (nm i = -1) || decide (nm i = gs i))
theorem f_told_no {nm gs : Nat → Int32} {i : Nat} (h1 : ¬ nm i = -1) (h2 : ¬ nm i = gs i) : ∀ j, i < j → f_told nm gs j = false
  | 0, h => absurd h (Nat.not_lt_zero i)
  | j + 1, h => by
    unfold f_told
    rcases Nat.lt_or_ge i j with q | q
    · rw [f_told_no h1 h2 j q]; rfl
    · rw [show j = i by omega, decide_eq_false h1, decide_eq_false h2]
      exact Bool.and_false _
def f_add (F : FS) (kind field : Int32) (w : Nat) : FS := (f_bs F, f_gs F, upd (f_kd F) w kind, upd (f_fd F) w field, upd (f_wy F) w 0, upd (f_md F) w 3, upd (f_ps F) w 0, f_hd F, nI (w + 1), f_wd F, f_hr F, f_zz F)
def f_nz (z : Int32) : Int32 := z * 1103515245 + 12345
def f_drw (z : Int32) : Int32 := (z.toUInt32 >>> ((8 : Int32).toUInt32 &&& Int32.toUInt32 31)).toInt32
def f_setz (F : FS) (z : Int32) : FS := (f_bs F, f_gs F, f_kd F, f_fd F, f_wy F, f_md F, f_ps F, f_hd F, f_wk F, f_wd F, f_hr F, z)
