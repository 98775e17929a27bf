/-! HOURS OF THE MODEL AND OF THE CLASS -/
def d_setgn (D : DJ) (x : Nat → Int32) : DJ := (d_bf D, d_as D, x, d_tk D, d_fr D, d_to D, d_vl D, d_fa D)
def f_gnr (F : FS) (x : Nat → Int32) : Nat → Nat → Int32
  | 0 => x
  | g + 1 => upd (f_gnr F x g) g (f_mv F g)
theorem f_gnr_at (F : FS) (x : Nat → Int32) {k : Nat} : ∀ g, k < g → f_gnr F x g k = f_mv F k
  | 0, h => absurd h (Nat.not_lt_zero k)
  | g + 1, h => by
    rw [f_gnr]
    by_cases e : k = g
    · rw [e, pk_us]
    · rw [pk_un e]; exact f_gnr_at F x g (by omega)
theorem upd_self (f : Nat → Int32) (k : Nat) : upd f k (f k) = f := by
  funext j
  by_cases e : j = k
  · rw [e, pk_us]
  · rw [pk_un e]
theorem f_blw_lt {F : FS} {g : Nat} (h : f_wd F < 7) : f_setgs (f_setgs F (f_blw F g)) (upd (f_blw F g) g (f_blw F g g)) = f_setgs F (f_blw F (g + 1)) := by
  rw [upd_self, f_blw, if_pos h]; rfl
theorem f_blw_3 {F : FS} {g : Nat} (h : ¬ f_wd F < 7) (h2 : f_blw F g g = 3) : f_setgs (f_setgs F (f_blw F g)) (upd (f_blw F g) g (f_blw F g g)) = f_setgs F (f_blw F (g + 1)) := by
  rw [upd_self, f_blw, if_neg h, if_pos h2]; rfl
theorem f_blw_0 {F : FS} {g : Nat} (h : ¬ f_wd F < 7) (h2 : ¬ f_blw F g g = 3) : f_setgs (f_setgs F (f_blw F g)) (upd (f_blw F g) g 0) = f_setgs F (f_blw F (g + 1)) := by
  rw [f_blw, if_neg h, if_neg h2]; rfl
theorem f_by4_r (F : FS) : 4 * (4 * (4 * (4 * (4 * (4 * (4 * (4 * 0 + f_gs F 7) + f_gs F 6) + f_gs F 5) + f_gs F 4) + f_gs F 3) + f_gs F 2) + f_gs F 1) + f_gs F 0 = f_by4 F := by
  unfold f_by4
  simp only [Int32.mul_comm 4]
/-! an hour doesn't look at the clock -/
theorem f_step_hr (F : FS) (w : Nat) (h : Int32) : f_step (f_sethr F h) w = f_sethr (f_step F w) h := by
  unfold f_step
  show (if f_gate F w < 0 then f_turn (f_sethr F h) w else if f_gate F w < 8 then f_go (f_sethr F h) w (f_gate F w).toNatClampNeg else f_turn (f_sethr F h) w) = _
  by_cases h1 : f_gate F w < 0
  · rw [if_pos h1, if_pos h1]; rfl
  · rw [if_neg h1, if_neg h1]
    by_cases h2 : f_gate F w < 8
    · rw [if_pos h2, if_pos h2]; rfl
    · rw [if_neg h2, if_neg h2]; rfl
theorem f_its_hr (F : FS) (w : Nat) (h : Int32) : ∀ n, f_its (f_sethr F h) w n = f_sethr (f_its F w n) h
  | 0 => rfl
  | n + 1 => by rw [f_its, f_its_hr F w h n, f_step_hr]; rfl
theorem f_letGo_hr (F : FS) (w : Nat) (h : Int32) : f_letGo (f_sethr F h) w = f_sethr (f_letGo F w) h := f_its_hr F w h _
theorem f_wks_hr (go : Nat → Bool) (F : FS) (h : Int32) : ∀ n, f_wks go (f_sethr F h) n = f_sethr (f_wks go F n) h
  | 0 => rfl
  | n + 1 => by
    rw [f_wks, f_wks_hr go F h n, f_wks, f_letGo_hr]
    by_cases e : go n = true
    · rw [if_pos e, if_pos e]
    · rw [if_neg e, if_neg e]
theorem f_mvs_hr (F : FS) (h : Int32) : ∀ n, f_mvs (f_sethr F h) n = f_mvs F n
  | 0 => rfl
  | n + 1 => by rw [f_mvs, f_mvs_hr F h n]; rfl
theorem f_blw_hr (F : FS) (h : Int32) : ∀ n, f_blw (f_sethr F h) n = f_blw F n
  | 0 => rfl
  | n + 1 => by rw [f_blw, f_blw_hr F h n]; rfl
theorem f_move_hr (F : FS) (h : Int32) : f_move (f_sethr F h) = f_sethr (f_move F) h := by
  unfold f_move
  rw [f_mvs_hr]; rfl
theorem f_blow_hr (F : FS) (h : Int32) : f_blow (f_sethr F h) = f_sethr (f_blow F) h := by
  unfold f_blow
  rw [f_blw_hr]; rfl
theorem f_hour_sethr (go : Nat → Bool) (F : FS) (h : Int32) : f_hour go (f_sethr F h) = f_sethr (f_hour go F) h := by
  unfold f_hour
  rw [show f_wk (f_sethr F h) = f_wk F from rfl, f_wks_hr, f_move_hr, f_blow_hr]
theorem f_sethr_self (F : FS) : f_sethr F (f_hr F) = F := rfl
theorem f_hour_hr (go : Nat → Bool) (F : FS) : f_hr (f_hour go F) = f_hr F := by
  have h := f_hour_sethr go F (f_hr F)
  rw [f_sethr_self] at h
  rw [h]; rfl
theorem f_hoursR_eq (go : Nat → Bool) (F : FS) : ∀ n, f_hoursR go F n = f_sethr (f_hoursC go F n) (f_hr (f_hoursR go F n))
  | 0 => rfl
  | n + 1 => by
    have ih := f_hoursR_eq go F n
    have e : f_hoursR go F (n + 1) = f_hourR go (f_hoursR go F n) := rfl
    rw [e, f_hourR]
    show f_sethr (f_hour go (f_hoursR go F n)) _ = f_sethr (f_hour go (f_hoursC go F n)) _
    have e2 : f_hour go (f_hoursR go F n) = f_sethr (f_hour go (f_hoursC go F n)) (f_hr (f_hoursR go F n)) := by
      conv => lhs; rw [ih]
      rw [f_hour_sethr]
    rw [e2]; rfl
theorem f_hoursR_hr (go : Nat → Bool) (F : FS) {h : Nat} (e : f_hr F = nI h) : ∀ n, f_hr (f_hoursR go F n) = nI (h + n)
  | 0 => e
  | n + 1 => by
    show f_hr (f_hour go (f_hoursR go F n)) + 1 = _
    rw [f_hour_hr, f_hoursR_hr go F e n, nI_1]
    rfl
theorem f_hoursC_hr (go : Nat → Bool) (F : FS) {h : Nat} (e : f_hr F = nI h) : ∀ n, h + n ≤ 99999 → f_hr (f_hoursC go F n) = nI (h + n)
  | 0, _ => e
  | n + 1, hn => by
    show f_mn (f_hr (f_hour go (f_hoursC go F n)) + 1) 99999 = _
    rw [f_hour_hr, f_hoursC_hr go F e n (by omega), nI_1, f_mn, if_neg]
    · rfl
    · intro h9
      have := (nI_ltI (a := 99999) (b := h + n + 1) (by omega) (by omega)).mp h9
      omega
/-- as long as the clock goes, the two are one -/
theorem f_hoursR_C (go : Nat → Bool) (F : FS) {h n : Nat} (e : f_hr F = nI h) (hn : h + n ≤ 99999) : f_hoursR go F n = f_hoursC go F n := by
  rw [f_hoursR_eq, f_hoursR_hr go F e, ← f_hoursC_hr go F e n hn]; rfl
/-! who goes is asked of eight -/
theorem f_wks_cg {go go' : Nat → Bool} (F : FS) : ∀ n, (∀ w, w < n → go w = go' w) → f_wks go F n = f_wks go' F n
  | 0, _ => rfl
  | n + 1, h => by rw [f_wks, f_wks, f_wks_cg F n (fun w hw => h w (by omega)), h n (by omega)]
theorem f_hour_cg {go go' : Nat → Bool} {F : FS} (h : ∀ w, w < f_m F → go w = go' w) : f_hour go F = f_hour go' F := by
  unfold f_hour
  rw [f_wks_cg F _ h]
theorem f_hourC_cg {go go' : Nat → Bool} {F : FS} (h : ∀ w, w < f_m F → go w = go' w) : f_hourC go F = f_hourC go' F := by
  unfold f_hourC
  rw [f_hour_cg h]
theorem f_hoursC_cg {go go' : Nat → Bool} {F : FS} (h : ∀ w, w < f_m F → go w = go' w) : ∀ n, f_hoursC go F n = f_hoursC go' F n
  | 0 => rfl
  | n + 1 => by
    rw [f_hoursC, f_hoursC, f_hoursC_cg h n]
    exact f_hourC_cg (fun w hw => h w (by rw [f_m, f_hoursC_wk] at hw; exact hw))
theorem goA_gn : ∀ w, w < 8 → f_gn 0 w = goA w := by decide +kernel
theorem f_hoursR_bs (go : Nat → Bool) (F : FS) (n : Nat) : f_bs (f_hoursR go F n) = f_bs (f_hoursC go F n) := by rw [f_hoursR_eq]; rfl
theorem f_hoursR_gs (go : Nat → Bool) (F : FS) (n : Nat) : f_gs (f_hoursR go F n) = f_gs (f_hoursC go F n) := by rw [f_hoursR_eq]; rfl
theorem f_hoursR_fd (go : Nat → Bool) (F : FS) (n : Nat) : f_fd (f_hoursR go F n) = f_fd (f_hoursC go F n) := by rw [f_hoursR_eq]; rfl
theorem f_hoursR_md (go : Nat → Bool) (F : FS) (n : Nat) : f_md (f_hoursR go F n) = f_md (f_hoursC go F n) := by rw [f_hoursR_eq]; rfl
theorem f_allC {F : FS} (hm : f_m F ≤ 8) (n : Nat) : f_hoursC (f_gn 0) F n = f_hoursC goA F n := f_hoursC_cg (fun w hw => goA_gn w (by omega)) n
theorem up_bs1 (F : FS) {f : Nat} (h : f < 8) (v : Int32) : upd (f_rw F) (4 + f + 1) v = f_rw (f_setbs F (upd (f_bs F) (f + 1) v)) := up_bs F (f := f + 1) (by omega) v
