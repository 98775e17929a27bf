/-! bits counted, the lowest bit, powers, kinds under kinds -/
def j_us (x s : Int32) : Int32 := (x.toUInt32 >>> (s.toUInt32 &&& Int32.toUInt32 31)).toInt32
def j_b1 (x : Int32) : Int32 := x - (j_us x 1 &&& 1431655765)
def j_b2 (x : Int32) : Int32 := (x &&& 858993459) + (j_us x 2 &&& 858993459)
def j_b3 (x : Int32) : Int32 := (x + j_us x 4) &&& 252645135
def j_b4 (x : Int32) : Int32 := x + j_us x 8
def j_b5 (x : Int32) : Int32 := x + j_us x 16
def j_bc (x : Int32) : Int32 := j_b5 (j_b4 (j_b3 (j_b2 (j_b1 x)))) &&& 63
def j_n0 (x : Int32) : Int32 := (x ^^^ (-1)) &&& (x - 1)
def j_ns (c k : Int32) (p : Int32 × Int32) : Int32 × Int32 := if p.2 ≤ c then p else (p.1 + k, j_us p.2 k)
def j_nt (x : Int32) : Int32 × Int32 := j_ns 4 2 (j_ns 16 4 (j_ns 256 8 (j_ns 65536 16 (1, x))))
def j_ntz (x : Int32) : Int32 := if 0 < j_n0 x then (j_nt (j_n0 x)).1 + j_us (j_nt (j_n0 x)).2 1 else j_n0 x &&& 32
def j_pow (b : Int32) : Nat → Int64
  | 0 => 1
  | i + 1 => j_pow b i * b.toInt64
def o_above (k : Nat) : Int32 := match k with | 0 => -1 | 1 => 0 | 2 => 0 | 3 => 2 | 4 => 3 | 5 => 0 | _ => 1
theorem kn_above (k : Nat) : k_above k = .int (o_above k) := by
  match k with
  | 0 => rfl
  | 1 => rfl
  | 2 => rfl
  | 3 => rfl
  | 4 => rfl
  | 5 => rfl
  | n + 6 => rfl
def j_under : Nat → Int32 → Int32 → Bool
  | 0, _, _ => false
  | n + 1, a, t => if inR a 0 6 then (if a = t then true else j_under n (o_above a.toNatClampNeg) t) else false
theorem kn_shl : ∀ m : Nat, m < 9 → (1 : Int32) <<< (nI m &&& 31) = nI (2 ^ m) := by decide +kernel
theorem kn_pow {m : Nat} (h : m ≤ 8) : 2 ^ m ≤ 256 := by
  have := Nat.pow_le_pow_right (show 1 ≤ 2 by omega) h
  omega
def o_start (X : AS) (w g s n : Int32) : Int32 × AS := if isWish X w g s n then (if f_vset (a_F X) 1 w.toNatClampNeg g.toNatClampNeg s n.toNatClampNeg 9 = 0 then a_fin X 3 else (j_ntz (f_vset (a_F X) 1 w.toNatClampNeg g.toNatClampNeg s n.toNatClampNeg 9), X)) else a_fin X 0
/-- those who go when a set stays at home -/
def goH (i : Nat) : Nat → Bool := f_gm (255 &&& (nI i ^^^ (-1)))
def p_home (F : FS) (f : Nat) (v : Int32) (n k i : Nat) : Bool := decide (j_bc (nI i) = nI k) && !decide (v < f_bs (f_hoursC (goH i) F n) f)
def p_homes (F : FS) (f : Nat) (v : Int32) (n z k : Nat) : Bool := decide (o_find (p_home F f v n k) z 0 < z)
def o_homes (X : AS) (f : Nat) (v : Int32) (n : Nat) : Int32 × AS := if o_find (p_homes (a_F X) f v n (2 ^ f_m (a_F X))) (f_m (a_F X) + 1) 0 ≤ f_m (a_F X) then (nI (o_find (p_home (a_F X) f v n (o_find (p_homes (a_F X) f v n (2 ^ f_m (a_F X))) (f_m (a_F X) + 1) 0)) (2 ^ f_m (a_F X)) 0), X) else a_fin X 3
def o_home (X : AS) (field v n : Int32) : Int32 × AS := if inR field 0 8 then (if inR v 0 9999 then (if inR n 0 20 then o_homes X field.toNatClampNeg v n.toNatClampNeg else a_fin X 0) else a_fin X 0) else a_fin X 0
def o_hold (X : AS) (spot w : Int32) : Int32 × AS := if inR spot 0 9 then (if w = -1 then (1, a_setF X (f_sethd (a_F X) (upd (f_hd (a_F X)) spot.toNatClampNeg w))) else if isW X w then (1, a_setF X (f_sethd (a_F X) (upd (f_hd (a_F X)) spot.toNatClampNeg w))) else a_fin X 0) else a_fin X 0
def o_asq (X : AS) (w kind : Int32) : Int32 × AS := if isW X w then (if j_under 7 (f_kd (a_F X) w.toNatClampNeg) kind = true then (w, X) else a_fin X 2) else a_fin X 5
def o_as (X : AS) (spot kind : Int32) : Int32 × AS := if inR spot 0 9 then (if inR kind 0 6 then o_asq X (f_hd (a_F X) spot.toNatClampNeg) kind else a_fin X 0) else a_fin X 0
def o_seed (X : AS) (v : Int32) : Int32 × AS := (f_zz (a_F X), a_setF X (f_setz (a_F X) v))
def o_wipe (X : AS) : Int32 × AS := (nI (a_tp X).2, (a_F X, a_K X, a_kp X, a_fd X, ((a_tp X).1, 0), a_S X))
def o_image (X : AS) : Int32 × AS := (1, (a_F X, a_F X, 1, a_fd X, a_tp X, a_S X))
def o_undo (X : AS) : Int32 × AS := if a_kp X = 0 then a_fin X 3 else (f_hr (a_K X), a_setF X (a_K X))
def o_tear (X : AS) : Int32 × AS := (if ¬ a_kp X = 0 then 1 else 0, (a_F X, a_K X, 0, a_fd X, a_tp X, a_S X))
def o_count (X : AS) (what : Int32) : Int32 × AS := if what = 0 then (f_hr (a_F X), X) else if what = 1 then (f_wk (a_F X), X) else if what = 2 then (j_bc (f_ns (a_F X) 8), X) else if what = 3 then (f_sumb (a_F X) 9, X) else if what = 4 then (f_sump (a_F X) (f_m (a_F X)), X) else if what = 5 then (nI (a_tp X).2, X) else if what = 6 then (f_zz (a_F X), X) else if what = 7 then (f_spn (a_F X) 10, X) else a_fin X 0
def o_status (X : AS) (which : Int32) : Int32 × AS := if inR which (-1) 6 then (if 0 ≤ which then a_fd X which.toNatClampNeg else a_sum (a_fd X) 7, X) else a_fin X 0
/-! windy hours -/
def f_r10 (x : Int32) : Int32 := x - x / 10 * 10
def f_r8 (x : Int32) : Int32 := x - x / 8 * 8
theorem f_drw_nat (z : Int32) : ∃ k : Nat, k < 2 ^ 24 ∧ f_drw z = nI k := by
  have h := pk_ushr z 8 8 (by decide)
  refine ⟨z.toBitVec.toNat / 2 ^ 8, ?_, ?_⟩
  · have := z.toBitVec.isLt
    omega
  · apply Int32.toBitVec_inj.mp
    apply BitVec.eq_of_toNat_eq
    rw [pk_tn (by have := z.toBitVec.isLt; omega)]
    exact h
theorem f_r8_nat (z : Int32) : ∃ g : Nat, g < 8 ∧ f_r8 (f_drw z) = nI g := by
  obtain ⟨k, hk, e⟩ := f_drw_nat z
  refine ⟨k % 8, by omega, ?_⟩
  rw [f_r8, e]
  exact pk_rem (d := 8) (by omega) (by omega) (by omega)
/-- two draws: the wind, and a gate that is open then -/
def f_ga1 (F : FS) : FS := f_setwd (f_setz F (f_nz (f_zz F))) (f_r10 (f_drw (f_nz (f_zz F))))
def f_ga2 (F : FS) : FS := f_setz (f_ga1 F) (f_nz (f_nz (f_zz F)))
def f_ga3 (F : FS) : FS := f_setgs (f_ga2 F) (upd (f_gs F) (f_r8 (f_drw (f_nz (f_nz (f_zz F))))).toNatClampNeg 2)
def f_gale (F : FS) : FS := f_hourC goA (f_ga3 F)
def f_gales (F : FS) : Nat → FS
  | 0 => F
  | i + 1 => f_gale (f_gales F i)
theorem f_setz_wk (F : FS) (z : Int32) : f_wk (f_setz F z) = f_wk F := rfl
theorem f_setwd_wk (F : FS) (z : Int32) : f_wk (f_setwd F z) = f_wk F := rfl
theorem f_setgs_wk (F : FS) (g : Nat → Int32) : f_wk (f_setgs F g) = f_wk F := rfl
theorem f_setz_zz (F : FS) (z : Int32) : f_zz (f_setz F z) = z := rfl
theorem f_setwd_zz (F : FS) (z : Int32) : f_zz (f_setwd F z) = f_zz F := rfl
theorem f_setz_gs (F : FS) (z : Int32) : f_gs (f_setz F z) = f_gs F := rfl
theorem f_setwd_gs (F : FS) (z : Int32) : f_gs (f_setwd F z) = f_gs F := rfl
theorem f_hoursC_1 (go : Nat → Bool) (F : FS) : f_hoursC go F 1 = f_hourC go F := rfl
theorem f_ga3_wk (F : FS) : f_wk (f_ga3 F) = f_wk F := by rw [f_ga3, f_setgs_wk, f_ga2, f_setz_wk, f_ga1, f_setwd_wk, f_setz_wk]
theorem f_gales_wk (F : FS) (n : Nat) : f_wk (f_gales F n) = f_wk F := by
  induction n with
  | zero => rfl
  | succ n ih => rw [f_gales, f_gale, f_hourC_wk, f_ga3_wk, ih]
def o_gales (X : AS) (n : Int32) : Int32 × AS := if inR n 1 20 then (if f_hr (a_F X) + n ≤ 99999 then (f_ns (f_gales (a_F X) n.toNatClampNeg) 8, a_setF X (f_gales (a_F X) n.toNatClampNeg)) else a_fin X 4) else a_fin X 0
theorem kn_m1 {x : Int32} (h : inR x (-1) 6) (h0 : 0 ≤ x) : ∃ j : Nat, j ≤ 6 ∧ x = nI j := nI_of2 (M := 6) rfl (Int32.not_lt.mpr h0) h.2
/-! sets of few bits as numbers -/
theorem fa_or (a b : Nat) : nI a ||| nI b = nI (a ||| b) := by
  apply Int32.toBitVec_inj.mp
  show (nI a).toBitVec ||| (nI b).toBitVec = (nI (a ||| b)).toBitVec
  show BitVec.ofNat 32 a ||| BitVec.ofNat 32 b = BitVec.ofNat 32 (a ||| b)
  apply BitVec.eq_of_getLsbD_eq
  intro i hi
  simp [BitVec.getLsbD_ofNat, hi, Nat.testBit_or]
theorem kn_bit {k t : Nat} (hk : k < 9) (ht : t < 2 ^ k) : nI t ||| ((1 : Int32) <<< (nI k &&& 31)) = nI (2 ^ k + t) := by
  have h := Nat.two_pow_add_eq_or_of_lt ht 1
  rw [Nat.mul_one] at h
  rw [kn_shl k hk, fa_or, Nat.or_comm, ← h]
theorem f_ns_nat (F : FS) : ∀ k, k ≤ 8 → ∃ t, t < 2 ^ k ∧ f_ns F k = nI t
  | 0, _ => ⟨0, by decide, rfl⟩
  | k + 1, h => by
    obtain ⟨t, ht, e⟩ := f_ns_nat F k (by omega)
    unfold f_ns
    have hp : 2 ^ (k + 1) = 2 * 2 ^ k := by rw [Nat.pow_succ, Nat.mul_comm]
    by_cases hg : f_gs F k = 0
    · rw [if_pos hg]
      exact ⟨t, by omega, e⟩
    · rw [if_neg hg, e]
      exact ⟨2 ^ k + t, by omega, kn_bit (by omega) ht⟩
theorem j_bc_small : ∀ t : Nat, t < 256 → (j_bc (nI t)).toNatClampNeg ≤ 8 ∧ j_bc (nI t) = nI (j_bc (nI t)).toNatClampNeg := by decide +kernel
theorem j_bc_ns (F : FS) : ∃ c : Nat, c ≤ 8 ∧ j_bc (f_ns F 8) = nI c := by
  obtain ⟨t, ht, e⟩ := f_ns_nat F 8 (by omega)
  rw [e]
  exact ⟨_, j_bc_small t (by omega)⟩
def o_above8 (c : Nat) : Int32 := match c with | 0 => 0 | 1 => 1 | 2 => 1 | 3 => 3 | 4 => 1 | 5 => 5 | 6 => 3 | 7 => 7 | _ => 1
def o_below8 (c : Nat) : Int32 := match c with | 0 => 1 | 1 => 8 | 2 => 4 | 3 => 8 | 4 => 2 | 5 => 8 | 6 => 4 | 7 => 8 | _ => 1
def o_odds (X : AS) (n what : Int32) : Int64 × AS := if inR n 0 20 then (if inR what 0 1 then (j_pow (if what = 0 then o_above8 (j_bc (f_ns (a_F X) 8)).toNatClampNeg else o_below8 (j_bc (f_ns (a_F X) 8)).toNatClampNeg) n.toNatClampNeg, X) else ((a_fin X 0).1.toInt64, (a_fin X 0).2)) else ((a_fin X 0).1.toInt64, (a_fin X 0).2)
/-- a name for what stands in a judgement -/
theorem k_name {α : Type} {P : α → Prop} (e : α) (h : ∀ x, x = e → P x) : P e := h e rfl
/-! sheets -/
abbrev a_shok (X : AS) : Prop := ∀ s, s < 4 → ∃ z : Nat, z ≤ 40 ∧ s_sz (a_S X s) = nI z
abbrev a_sz (X : AS) (s : Nat) : Nat := (s_sz (a_S X s)).toNatClampNeg
abbrev a_miss (X : AS) (s : Int32) : Prop := s_bt (a_S X s.toNatClampNeg) = 0
def a_setS (X : AS) (s : Nat) (x : SS) : AS := (a_F X, a_K X, a_kp X, a_fd X, a_tp X, k_upS (a_S X) s x)
/-- with a sheet that is there -/
def o_with (X : AS) (s : Int32) (f : Int32 × AS) : Int32 × AS := if inR s 0 3 then (if a_miss X s then a_fin X 5 else f) else a_fin X 0
abbrev isBits (b : Int32) : Prop := b = 0 ∨ b = 8 ∨ b = 16 ∨ b = 32
def o_sheet (X : AS) (s bits n : Int32) : Int32 × AS := if inR s 0 3 then (if isBits bits then (if 0 ≤ n then (if n ≤ 40 then (if bits = 0 then 0 else n, a_setS X s.toNatClampNeg (s_clr (a_S X s.toNatClampNeg) 40, bits, if bits = 0 then 0 else n)) else a_fin X 0) else a_fin X 6) else a_fin X 0) else a_fin X 0
def o_writes (X : AS) (s : Nat) (i v : Int32) : Int32 × AS := if inR i 0 (s_sz (a_S X s) - 1) then (1, a_setS X s (upd (s_nm (a_S X s)) i.toNatClampNeg (s_cut (s_bt (a_S X s)) v), s_bt (a_S X s), s_sz (a_S X s))) else a_fin X 0
def o_write (X : AS) (s i v : Int32) : Int32 × AS := o_with X s (o_writes X s.toNatClampNeg i v)
def p_load (nm : Nat → Int32) (i : Nat) : Bool := !decide (inR (nm i) 0 9999)
def f_loads (F : FS) (nm : Nat → Int32) : Nat → Nat → Int32
  | 0 => f_bs F
  | i + 1 => upd (f_loads F nm i) i (nm i)
def o_loads (X : AS) (s : Nat) : Int32 × AS := (nI (o_find (p_load (s_nm (a_S X s))) (min (a_sz X s) 9) 0), a_setF X (f_setbs (a_F X) (f_loads (a_F X) (s_nm (a_S X s)) (o_find (p_load (s_nm (a_S X s))) (min (a_sz X s) 9) 0))))
def o_load (X : AS) (s : Int32) : Int32 × AS := o_with X s (o_loads X s.toNatClampNeg)
def p_judge (F : FS) (nm : Nat → Int32) (i : Nat) : Bool := decide (8 ≤ i) || !decide (nm i = f_gs F i)
def o_judges (X : AS) (s : Nat) : Int32 × AS := (if o_find (p_judge (a_F X) (s_nm (a_S X s))) (a_sz X s) 0 < a_sz X s then nI (1 + o_find (p_judge (a_F X) (s_nm (a_S X s))) (a_sz X s) 0) else 0, X)
def o_judge (X : AS) (s : Int32) : Int32 × AS := o_with X s (o_judges X s.toNatClampNeg)
theorem a_szz {X : AS} {s z : Nat} (hz : z ≤ 40) (h : s_sz (a_S X s) = nI z) : a_sz X s = z := by
  show (s_sz (a_S X s)).toNatClampNeg = z
  rw [h, nI_clamp (by omega)]
/-- gates stand as a sheet tells -/
def p_told (X : AS) (s : Nat) (F : FS) : Bool := f_told (s_nm (a_S X s)) (f_gs F) (min (a_sz X s) 8)
def f_who (X : AS) (s : Nat) : Nat → Int32
  | 0 => 0
  | w + 1 => if p_told X s (f_hoursC (f_gm ((1 : Int32) <<< (nI w &&& 31))) (a_F X) 1) = true then f_who X s w ||| ((1 : Int32) <<< (nI w &&& 31)) else f_who X s w
def o_who (X : AS) (s : Int32) : Int32 × AS := o_with X s (f_who X s.toNatClampNeg (f_m (a_F X)), X)
def f_fits (X : AS) (s w n : Nat) : Nat → Int32
  | 0 => 0
  | f + 1 => if p_told X s (f_hoursC (f_gm ((1 : Int32) <<< (nI w &&& 31))) (f_setrow (a_F X) 1 (upd (f_row (a_F X) 1) w (nI f))) n) = true then f_fits X s w n f ||| ((1 : Int32) <<< (nI f &&& 31)) else f_fits X s w n f
def o_fits (X : AS) (s w n : Int32) : Int32 × AS := o_with X s (if isW X w then (if inR n 0 20 then (f_fits X s.toNatClampNeg w.toNatClampNeg n.toNatClampNeg 9, X) else a_fin X 0) else a_fin X 0)
/-- a walker's mood, hour by hour, isn't as a row tells -/
def p_mood (nm : Nat → Int32) (F : FS) (w i : Nat) : Bool := !decide (nm i = -1) && !decide (nm i = f_md (f_hoursC goA F i) w)
def f_kinds (X : AS) (s w : Nat) : Nat → Int32
  | 0 => 0
  | k + 1 => if o_find (p_mood (s_nm (a_S X s)) (f_setrow (a_F X) 0 (upd (f_row (a_F X) 0) w (nI k))) w) (a_sz X s) 0 = a_sz X s then f_kinds X s w k ||| ((1 : Int32) <<< (nI k &&& 31)) else f_kinds X s w k
def o_kinds (X : AS) (s w : Int32) : Int32 × AS := o_with X s (if isW X w then (f_kinds X s.toNatClampNeg w.toNatClampNeg 7, X) else a_fin X 0)
theorem kn_wr {x : Int32} {z : Nat} (hz : z ≤ 40) (h : inR x 0 (nI z - 1)) : ∃ j : Nat, j < z ∧ x = nI j := by
  obtain ⟨h1, h2⟩ := h
  obtain ⟨j, hj, rfl⟩ := nI_of (Int32.not_lt.mpr h1)
  refine ⟨j, ?_, rfl⟩
  rcases z with _ | k
  · rw [fa_le, nI_toInt hj] at h2
    have : (nI 0 - 1 : Int32).toInt = -1 := rfl
    omega
  · rw [nI_pred, nI_leI hj (by omega)] at h2
    omega
theorem kn_mn {a b : Nat} (ha : a < 2 ^ 31) (hb : b < 2 ^ 31) : (if nI b < nI a then nI b else nI a) = nI (min a b) := by
  by_cases h : b < a
  · rw [if_pos ((nI_ltI hb ha).mpr h), Nat.min_eq_right (by omega)]
  · rw [if_neg (fun q => h ((nI_ltI hb ha).mp q)), Nat.min_eq_left (by omega)]
