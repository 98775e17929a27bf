/-! THE MODEL'S CELLS: one row of 71 for a farm; the object at B 0, its arrays at B 1 to B 10 -/
def f_rw (F : FS) : Nat → Int32 := fun k => if k < 13 then (if k < 4 then (match k with | 0 => f_wk F | 1 => f_hr F | 2 => f_zz F | _ => f_wd F) else f_bs F (k - 4)) else if k < 21 then f_gs F (k - 13) else if k < 61 then f_row F ((k - 21) % 5) ((k - 21) / 5) else f_hd F (k - 61)
theorem rw_bs (F : FS) {f : Nat} (h : f < 9) : f_rw F (4 + f) = f_bs F f := by
  unfold f_rw
  rw [if_pos (by omega), if_neg (by omega), show 4 + f - 4 = f by omega]
theorem rw_bs1 (F : FS) {f : Nat} (h : f < 8) : f_rw F (4 + f + 1) = f_bs F (f + 1) := rw_bs F (f := f + 1) (by omega)
theorem rw_gs (F : FS) {g : Nat} (h : g < 8) : f_rw F (13 + g) = f_gs F g := by
  unfold f_rw
  rw [if_neg (by omega), if_pos (by omega), show 13 + g - 13 = g by omega]
theorem rw_hd (F : FS) {k : Nat} (h : k < 10) : f_rw F (61 + k) = f_hd F k := by
  unfold f_rw
  rw [if_neg (by omega), if_neg (by omega), if_neg (by omega), show 61 + k - 61 = k by omega]
theorem rw_at (F : FS) {w k : Nat} (hw : w < 8) (hk : k < 5) : f_rw F (21 + 5 * w + k) = f_row F k w := by
  unfold f_rw
  rw [if_neg (by omega), if_neg (by omega), if_pos (by omega), show (21 + 5 * w + k - 21) % 5 = k by omega, show (21 + 5 * w + k - 21) / 5 = w by omega]
def f_setwk (F : FS) (v : Int32) : FS := (f_bs F, f_gs F, f_kd F, f_fd F, f_wy F, f_md F, f_ps F, f_hd F, v, f_wd F, f_hr F, f_zz F)
theorem up_0 (F : FS) (v : Int32) : upd (f_rw F) 0 v = f_rw (f_setwk F v) := by
  funext k
  rcases k with _ | _ | _ | _ | k
  · rfl
  · rfl
  · rfl
  · rfl
  · rw [pk_un (by omega)]; rfl
theorem up_1 (F : FS) (v : Int32) : upd (f_rw F) 1 v = f_rw (f_sethr F v) := by
  funext k
  rcases k with _ | _ | _ | _ | k
  · rfl
  · rfl
  · rfl
  · rfl
  · rw [pk_un (by omega)]; rfl
theorem up_2 (F : FS) (v : Int32) : upd (f_rw F) 2 v = f_rw (f_setz F v) := by
  funext k
  rcases k with _ | _ | _ | _ | k
  · rfl
  · rfl
  · rfl
  · rfl
  · rw [pk_un (by omega)]; rfl
theorem up_3 (F : FS) (v : Int32) : upd (f_rw F) 3 v = f_rw (f_setwd F v) := by
  funext k
  rcases k with _ | _ | _ | _ | k
  · rfl
  · rfl
  · rfl
  · rfl
  · rw [pk_un (by omega)]; rfl
theorem up_bs (F : FS) {f : Nat} (h : f < 9) (v : Int32) : upd (f_rw F) (4 + f) v = f_rw (f_setbs F (upd (f_bs F) f v)) := by
  funext k
  by_cases e : k = 4 + f
  · subst e
    rw [pk_us, rw_bs _ h]
    exact pk_us.symm
  · rw [pk_un e]
    unfold f_rw
    by_cases h1 : k < 13
    · rw [if_pos h1, if_pos h1]
      by_cases h2 : k < 4
      · rw [if_pos h2, if_pos h2]; rfl
      · rw [if_neg h2, if_neg h2]
        exact (pk_un (by omega)).symm
    · rw [if_neg h1, if_neg h1]; rfl
theorem up_gs (F : FS) {g : Nat} (h : g < 8) (v : Int32) : upd (f_rw F) (13 + g) v = f_rw (f_setgs F (upd (f_gs F) g v)) := by
  funext k
  by_cases e : k = 13 + g
  · subst e
    rw [pk_us, rw_gs _ h]
    exact pk_us.symm
  · rw [pk_un e]
    unfold f_rw
    by_cases h1 : k < 13
    · rw [if_pos h1, if_pos h1]; rfl
    · rw [if_neg h1, if_neg h1]
      by_cases h2 : k < 21
      · rw [if_pos h2, if_pos h2]
        exact (pk_un (by omega)).symm
      · rw [if_neg h2, if_neg h2]; rfl
theorem up_hd (F : FS) {k : Nat} (h : k < 10) (v : Int32) : upd (f_rw F) (61 + k) v = f_rw (f_sethd F (upd (f_hd F) k v)) := by
  funext j
  by_cases e : j = 61 + k
  · subst e
    rw [pk_us, rw_hd _ h]
    exact pk_us.symm
  · rw [pk_un e]
    unfold f_rw
    by_cases h1 : j < 13
    · rw [if_pos h1, if_pos h1]; rfl
    · rw [if_neg h1, if_neg h1]
      by_cases h2 : j < 21
      · rw [if_pos h2, if_pos h2]; rfl
      · rw [if_neg h2, if_neg h2]
        by_cases h3 : j < 61
        · rw [if_pos h3, if_pos h3]; rfl
        · rw [if_neg h3, if_neg h3]
          exact (pk_un (by omega)).symm
theorem row_set (F : FS) {k : Nat} (hk : k < 5) (r : Nat → Int32) {j : Nat} (hj : j < 5) : f_row (f_setrow F k r) j = if j = k then r else f_row F j := by
  rcases (show k = 0 ∨ k = 1 ∨ k = 2 ∨ k = 3 ∨ k = 4 by omega) with rfl | rfl | rfl | rfl | rfl <;> rcases (show j = 0 ∨ j = 1 ∨ j = 2 ∨ j = 3 ∨ j = 4 by omega) with rfl | rfl | rfl | rfl | rfl <;> rfl
theorem setrow_rest (F : FS) {k : Nat} (hk : k < 5) (r : Nat → Int32) : f_bs (f_setrow F k r) = f_bs F ∧ f_gs (f_setrow F k r) = f_gs F ∧ f_hd (f_setrow F k r) = f_hd F ∧ f_wk (f_setrow F k r) = f_wk F ∧ f_wd (f_setrow F k r) = f_wd F ∧ f_hr (f_setrow F k r) = f_hr F ∧ f_zz (f_setrow F k r) = f_zz F := by
  rcases (show k = 0 ∨ k = 1 ∨ k = 2 ∨ k = 3 ∨ k = 4 by omega) with rfl | rfl | rfl | rfl | rfl <;> exact ⟨rfl, rfl, rfl, rfl, rfl, rfl, rfl⟩
theorem up_at (F : FS) {w k : Nat} (hw : w < 8) (hk : k < 5) (v : Int32) : upd (f_rw F) (21 + 5 * w + k) v = f_rw (f_setrow F k (upd (f_row F k) w v)) := by
  obtain ⟨e1, e2, e3, e4, e5, e6, e7⟩ := setrow_rest F hk (upd (f_row F k) w v)
  funext j
  by_cases e : j = 21 + 5 * w + k
  · subst e
    rw [pk_us, rw_at _ hw hk, row_set F hk _ hk, if_pos rfl]
    exact pk_us.symm
  · rw [pk_un e]
    unfold f_rw
    rw [e1, e2, e3, e4, e5, e6, e7]
    by_cases h1 : j < 13
    · rw [if_pos h1, if_pos h1]
    · rw [if_neg h1, if_neg h1]
      by_cases h2 : j < 21
      · rw [if_pos h2, if_pos h2]
      · rw [if_neg h2, if_neg h2]
        by_cases h3 : j < 61
        · rw [if_pos h3, if_pos h3, row_set F hk _ (by omega)]
          by_cases h4 : (j - 21) % 5 = k
          · rw [if_pos h4, h4]
            exact (pk_un (by omega)).symm
          · rw [if_neg h4]
        · rw [if_neg h3, if_neg h3]
/-- the model's counts: all, then each -/
def m_fd (f : Nat → Int32) : Nat → Int32 := fun k => if k = 0 then a_sum f 7 else f (k - 1)
def m_bt (S : Nat → SS) : Nat → Int32 := fun t => if s_bt (S t) = 0 then -1 else s_bt (S t)
def m_sz (S : Nat → SS) : Nat → Int32 := fun t => s_sz (S t)
def m_nm (S : Nat → SS) : Nat → Int32 := fun k => s_nm (S (k / 40)) (k % 40)
/-- what else the model holds: before, aside, gone, token, from, to, value, faultAt -/
abbrev DJ : Type := (Nat → Int32) × (Nat → Int32) × (Nat → Int32) × Int32 × Int32 × Int32 × Int32 × Int32
abbrev d_bf (D : DJ) : Nat → Int32 := D.1
abbrev d_as (D : DJ) : Nat → Int32 := D.2.1
abbrev d_gn (D : DJ) : Nat → Int32 := D.2.2.1
abbrev d_tk (D : DJ) : Int32 := D.2.2.2.1
abbrev d_fr (D : DJ) : Int32 := D.2.2.2.2.1
abbrev d_to (D : DJ) : Int32 := D.2.2.2.2.2.1
abbrev d_vl (D : DJ) : Int32 := D.2.2.2.2.2.2.1
abbrev d_fa (D : DJ) : Int32 := D.2.2.2.2.2.2.2
def w_M (Z : kz_Z) (B : Nat → Nat) (X : AS) (D : DJ) : va_W := [(B 0, .inr (4, [.ref (B 1), .ref (B 2), .ref (B 3), .ref (B 4), .int (a_kp X), .ref (B 5), .ref (B 6), .int (nI (a_tp X).2), .ref (B 7), .ref (B 8), .ref (B 9), .ref (B 10), .int (d_tk D), .int (d_fr D), .int (d_to D), .int (d_vl D), .int (d_fa D)])), (B 1, .inl (Z.2.1 0, 71, .inl (f_rw (a_F X)))), (B 2, .inl (Z.2.1 0, 71, .inl (f_rw (a_K X)))), (B 3, .inl (Z.2.1 0, 71, .inl (d_bf D))), (B 4, .inl (Z.2.1 0, 71, .inl (d_as D))), (B 5, .inl (Z.2.1 0, 8, .inl (m_fd (a_fd X)))), (B 6, .inl (Z.2.1 0, 120, .inl (a_tp X).1)), (B 7, .inl (Z.2.1 0, 4, .inl (m_bt (a_S X)))), (B 8, .inl (Z.2.1 0, 4, .inl (m_sz (a_S X)))), (B 9, .inl (Z.2.1 0, 160, .inl (m_nm (a_S X)))), (B 10, .inl (Z.2.1 0, 8, .inl (d_gn D)))]
theorem a_sum_up (f : Nat → Int32) {k : Nat} : ∀ n, k < n → a_sum (fd_up f k) n = a_sum f n + 1
  | 0, h => absurd h (Nat.not_lt_zero k)
  | n + 1, h => by
    unfold a_sum
    rcases Nat.lt_or_ge k n with q | q
    · rw [a_sum_up f n q, show fd_up f k n = f n from pk_un (by omega), Int32.add_assoc, Int32.add_assoc, Int32.add_comm 1]
    · have e : n = k := by omega
      subst e
      have e2 : ∀ j, j ≤ n → a_sum (fd_up f n) j = a_sum f j := by
        intro j hj
        induction j with
        | zero => rfl
        | succ j ih => rw [a_sum, a_sum, ih (by omega), show fd_up f n j = f j from pk_un (by omega)]
      rw [e2 n (Nat.le_refl n), show fd_up f n n = f n + 1 from pk_us, Int32.add_assoc]
theorem m_fd_up (f : Nat → Int32) {k : Nat} (hk : k < 7) : upd (upd (m_fd f) 0 (m_fd f 0 + 1)) (k + 1) (upd (m_fd f) 0 (m_fd f 0 + 1) (k + 1) + 1) = m_fd (fd_up f k) := by
  funext j
  by_cases h0 : j = k + 1
  · subst h0
    rw [pk_us, pk_un (by omega)]
    show (if k + 1 = 0 then _ else f (k + 1 - 1)) + 1 = (if k + 1 = 0 then _ else fd_up f k (k + 1 - 1))
    rw [if_neg (by omega), if_neg (by omega), show k + 1 - 1 = k by omega]
    exact pk_us.symm
  · rw [pk_un h0]
    by_cases h1 : j = 0
    · subst h1
      rw [pk_us]
      exact (a_sum_up f 7 hk).symm
    · rw [pk_un h1]
      show (if j = 0 then _ else f (j - 1)) = (if j = 0 then _ else fd_up f k (j - 1))
      rw [if_neg h1, if_neg h1]
      exact (pk_un (by omega)).symm
theorem r_fin_ix : ∀ k : Nat, k < 7 → (-1000001 : Int32) - r_fin k + 1 = nI (k + 1) := by decide +kernel
theorem lg_lt {x y : Int64} : lg_cmp x y < 0 ↔ x < y := by
  unfold lg_cmp
  by_cases h1 : y < x
  · rw [if_pos h1]
    have : ¬ x < y := by rw [fa_lt64] at *; omega
    simp [this]
  · rw [if_neg h1]
    by_cases h2 : x = y
    · subst h2
      simp
    · rw [if_neg h2]
      have : x < y := by
        rw [fa_lt64] at *
        have h3 : x.toInt ≠ y.toInt := fun q => h2 (Int64.toInt_inj.mp q)
        omega
      simp [this]
theorem lg_gt {x y : Int64} : 0 < lg_cmp x y ↔ y < x := by
  unfold lg_cmp
  by_cases h1 : y < x
  · rw [if_pos h1]
    simp [h1]
  · rw [if_neg h1]
    by_cases h2 : x = y
    · subst h2
      simp
    · rw [if_neg h2]
      simp [h1]
theorem kn_i64 {v lo hi : Int32} : (lo.toInt64 ≤ v.toInt64 ∧ v.toInt64 ≤ hi.toInt64) ↔ inR v lo hi := by
  rw [fa_le64, fa_le64, kn_wide, kn_wide, kn_wide, ← fa_le, ← fa_le]
theorem k_pick {l l' : va_W} (is : List Nat) (h : (List.range l.length).Perm is) (e : is.map (fun i => l.getD i (0, .inr (0, []))) = l') : l.Perm l' := by
  subst e
  have e2 : l = (List.range l.length).map (fun i => l.getD i (0, .inr (0, []))) := by
    apply List.ext_getElem
    · simp
    · intro i h1 h2
      simp [List.getD_eq_getElem?_getD, h1]
  have h3 := h.map (fun i => l.getD i (0, .inr (0, [])))
  rw [← e2] at h3
  exact h3
theorem kn_lt9 {x c : Int32} {n : Nat} (h0 : ¬ x < 0) (h : ¬ c ≤ x) (hc : c = nI (n + 1)) (hn : n < 2 ^ 30 := by omega) : inR x 0 (nI n) := by
  subst hc
  obtain ⟨j, hj, rfl⟩ := nI_of h0
  rw [nI_leI (by omega) hj] at h
  exact ⟨nI_pos' hj, nI_le (by omega) (by omega)⟩
theorem kn_ge9 {x c : Int32} {n : Nat} (h : c ≤ x) (hc : c = nI (n + 1)) (hn : n < 2 ^ 30 := by omega) : ¬ inR x 0 (nI n) := by
  subst hc
  intro h9
  obtain ⟨j, hj, rfl⟩ := nI_of (Int32.not_lt.mpr h9.1)
  rw [nI_leI (by omega) hj] at h
  have := (nI_leI hj (by omega)).mp h9.2
  omega
theorem kn_least1 {x y : Int32} (h : y ≤ x) : y = f_mn y x := by
  unfold f_mn
  rw [if_neg (Int32.not_lt.mpr h)]
theorem kn_least2 {x y : Int32} (h : ¬ y ≤ x) : x = f_mn y x := by
  unfold f_mn
  rw [if_pos (Int32.not_le.mp h)]
/-- moods are 0 to 9, gates stand 0 to 3 -/
def f_ok (F : FS) : Prop := (∀ w, w < 8 → ∃ a : Nat, a ≤ 9 ∧ f_md F w = nI a) ∧ ∀ g, g < 8 → ∃ b : Nat, b ≤ 3 ∧ f_gs F g = nI b
theorem nI_ex {x : Int32} {n : Nat} (k : Nat) (hk : k ≤ n) (e : x = nI k) : ∃ b : Nat, b ≤ n ∧ x = nI b := ⟨k, hk, e⟩
theorem f_dg_ok (F : FS) {b : Nat} (hb : b ≤ 3) : ∃ c : Nat, c ≤ 3 ∧ f_dg F (nI b) = nI c := by
  unfold f_dg f_pl
  by_cases h1 : f_wd F < 5
  · rw [if_pos h1]
    by_cases h2 : nI b = 1
    · rw [if_pos h2]; exact ⟨2, by omega, rfl⟩
    · rw [if_neg h2]; exact ⟨b, hb, rfl⟩
  · rw [if_neg h1, if_neg (by decide)]; exact ⟨0, by omega, rfl⟩
theorem f_ch_ok {F : FS} {w a b : Nat} (ha : a ≤ 9) (e : f_md F w = nI a) (hb : b ≤ 3) : ∃ c : Nat, c ≤ 3 ∧ f_ch F w (nI b) = nI c := by
  obtain ⟨c, hc, e2⟩ := f_dg_ok F hb
  refine ⟨(c + a) % 4, by omega, ?_⟩
  rw [f_ch, e2, e, kn_add, f_r4]
  exact pk_rem (d := 4) (by omega) (by omega) (by omega)
theorem f_leaves_ok {F : FS} {w a b : Nat} (ha : a ≤ 9) (e : f_md F w = nI a) (hb : b ≤ 3) : ∃ c : Nat, c ≤ 3 ∧ f_leaves F w (nI b) = nI c := by
  unfold f_leaves
  obtain ⟨c, hc, e2⟩ := f_ch_ok ha e hb
  split
  · exact ⟨3, by omega, rfl⟩
  split
  · exact f_dg_ok F hb
  split
  · exact ⟨c, hc, e2⟩
  split
  · exact ⟨3 - c, by omega, by rw [e2]; exact pk_sub (a := 3) hc⟩
  split
  · exact ⟨0, by omega, rfl⟩
  split
  · split
    · exact ⟨1, by omega, rfl⟩
    · exact ⟨3, by omega, rfl⟩
  · unfold f_pl
    split
    · exact ⟨b, hb, rfl⟩
    · exact ⟨0, by omega, rfl⟩
theorem f_mn9 {x : Nat} (h : x < 2 ^ 30) : f_mn (nI x) 9 = nI (min x 9) := by
  unfold f_mn
  exact kn_mn (a := x) (b := 9) (by omega) (by omega)
theorem f_feels_ok {F : FS} {w a b : Nat} (ha : a ≤ 9) (e : f_md F w = nI a) (hb : b ≤ 3) : ∃ c : Nat, c ≤ 9 ∧ f_feels F w (nI b) = nI c := by
  have e1 : f_fdg F w (nI b) = nI (min (a + b) 9) := by rw [f_fdg, e, kn_add, f_mn9 (by omega)]
  have e2 : f_fch F w (nI b) = nI (min (min (a + b) 9 + 1) 9) := by rw [f_fch, e1, nI_1, f_mn9 (by omega)]
  unfold f_feels
  split
  · exact ⟨9, by omega, rfl⟩
  split
  · exact ⟨_, by omega, e1⟩
  split
  · exact ⟨_, by omega, e2⟩
  split
  · refine ⟨min (min (a + b) 9 + 1) 9 / 2, by omega, ?_⟩
    rw [e2]
    exact pk_div (d := 2) (by omega) (by omega) (by omega)
  split
  · rw [e, f_mx]
    rcases a with _ | a
    · exact ⟨0, by omega, by decide⟩
    · rw [nI_pred, if_neg (nI_pos (by omega))]
      exact ⟨a, by omega, rfl⟩
  split
  · exact ⟨9 - b, by omega, pk_sub (a := 9) (by omega)⟩
  · exact ⟨a, ha, e⟩
/-- how a mean one feels, the other way round -/
theorem f_mean {x : Int32} {a : Nat} (ha : a ≤ 9) (e : x = nI a) : (if x = 0 then 0 else x - 1) = f_mx (x - 1) 0 := by
  rw [e, f_mx]
  rcases a with _ | a
  · decide
  · rw [nI_pred, if_neg (nI_ne0 (by omega) (by omega)), if_neg (nI_pos (by omega))]
theorem f_ok_step {F : FS} (h : f_ok F) (w : Nat) (hw : w < 8) : f_ok (f_step F w) := by
  unfold f_step
  split
  · exact h
  split
  · rename_i h1 h2
    obtain ⟨g, hg, eg⟩ := kn_ix (n := 8) h1 h2 rfl
    rw [eg, nI_clamp (by omega)]
    obtain ⟨a, ha, ea⟩ := h.1 w hw
    obtain ⟨b, hb, eb⟩ := h.2 g hg
    refine ⟨fun v hv => ?_, fun k hk => ?_⟩
    · show ∃ a : Nat, a ≤ 9 ∧ upd (f_md F) w (f_feels F w (f_gs F g)) v = nI a
      by_cases e : v = w
      · rw [e, pk_us, eb]; exact f_feels_ok ha ea hb
      · rw [pk_un e]; exact h.1 v hv
    · show ∃ b : Nat, b ≤ 3 ∧ upd (f_gs F) g (f_leaves F w (f_gs F g)) k = nI b
      by_cases e : k = g
      · rw [e, pk_us, eb]; exact f_leaves_ok ha ea hb
      · rw [pk_un e]; exact h.2 k hk
  · exact h
theorem f_ok_its {F : FS} (h : f_ok F) (w : Nat) (hw : w < 8) : ∀ i, f_ok (f_its F w i)
  | 0 => h
  | i + 1 => f_ok_step (f_ok_its h w hw i) w hw
theorem f_ok_wks {F : FS} (go : Nat → Bool) (h : f_ok F) : ∀ w, w ≤ 8 → f_ok (f_wks go F w)
  | 0, _ => h
  | w + 1, hw => by
    show f_ok (if go w = true then f_letGo (f_wks go F w) w else f_wks go F w)
    have ih := f_ok_wks go h w (by omega)
    split
    · exact f_ok_its ih w (by omega) _
    · exact ih
theorem f_blw_ok {F : FS} (h : ∀ g, g < 8 → ∃ b : Nat, b ≤ 3 ∧ f_gs F g = nI b) : ∀ n, ∀ g, g < 8 → ∃ b : Nat, b ≤ 3 ∧ f_blw F n g = nI b
  | 0, g, hg => h g hg
  | n + 1, g, hg => by
    unfold f_blw
    have ih := f_blw_ok h n
    split
    · exact ih g hg
    split
    · exact ih g hg
    · by_cases e : g = n
      · rw [e, pk_us]; exact ⟨0, by omega, rfl⟩
      · rw [pk_un e]; exact ih g hg
theorem f_ok_hour {F : FS} (go : Nat → Bool) (h : f_ok F) (hm : f_m F ≤ 8) : f_ok (f_hour go F) := by
  have h1 := f_ok_wks go h (f_m F) hm
  exact ⟨h1.1, f_blw_ok (F := f_move (f_wks go F (f_m F))) h1.2 8⟩
/-- the model's hour: the clock has no end -/
def f_hourR (go : Nat → Bool) (F : FS) : FS := f_sethr (f_hour go F) (f_hr (f_hour go F) + 1)
def f_hoursR (go : Nat → Bool) (F : FS) : Nat → FS
  | 0 => F
  | n + 1 => f_hourR go (f_hoursR go F n)
/-- who goes, by a mask of those who stay -/
def f_gn (g : Int32) (w : Nat) : Bool := !decide ((g >>> (nI w &&& 31)) &&& 1 = 1)
theorem f_gn_t {g : Int32} {w : Nat} (h : ¬ (g >>> (nI w &&& 31)) &&& 1 = 1) : f_gn g w = true := by rw [f_gn, decide_eq_false h]; rfl
theorem f_gn_f {g : Int32} {w : Nat} (h : (g >>> (nI w &&& 31)) &&& 1 = 1) : ¬ f_gn g w = true := by rw [f_gn, decide_eq_true h]; decide
theorem f_hourR_wk (go : Nat → Bool) (F : FS) : f_wk (f_hourR go F) = f_wk F := by
  unfold f_hourR
  exact f_hour_wk go F
theorem f_hoursR_wk (go : Nat → Bool) (F : FS) (n : Nat) : f_wk (f_hoursR go F n) = f_wk F := by
  induction n with
  | zero => rfl
  | succ n ih => rw [f_hoursR, f_hourR_wk, ih]
theorem f_ok_hourR {F : FS} (go : Nat → Bool) (h : f_ok F) (hm : f_m F ≤ 8) : f_ok (f_hourR go F) := f_ok_hour go h hm
theorem f_ok_hoursR {F : FS} (go : Nat → Bool) (h : f_ok F) (hm : f_m F ≤ 8) (n : Nat) : f_ok (f_hoursR go F n) := by
  induction n with
  | zero => exact h
  | succ n ih => exact f_ok_hourR go ih (by show (f_wk (f_hoursR go F n)).toNatClampNeg ≤ 8; rw [f_hoursR_wk]; exact hm)
theorem isW_of {X : AS} {w : Int32} {m : Nat} (hm : m ≤ 8) (hm2 : f_wk (a_F X) = nI m) (h0 : ¬ w < 0) (h : ¬ nI m ≤ w) : isW X w := by
  obtain ⟨j, hj, rfl⟩ := nI_of h0
  rw [nI_leI (by omega) hj] at h
  refine ⟨nI_pos' hj, ?_⟩
  rw [hm2]
  rcases m with _ | m
  · omega
  · rw [nI_pred]; exact nI_le (by omega) (by omega)
theorem isW_no {X : AS} {w : Int32} {m : Nat} (hm : m ≤ 8) (hm2 : f_wk (a_F X) = nI m) (h : nI m ≤ w) : ¬ isW X w := by
  intro h9
  obtain ⟨j, hj, rfl⟩ := isW_nat hm hm2 h9
  rw [nI_leI (by omega) (by omega)] at h
  omega
theorem f_next {F : FS} {w g : Nat} (eg : f_gate F w = nI g) : (if f_wy F w = 0 then f_fd F w + 1 else f_fd F w - 1) = if f_wy F w = 0 then nI (g + 1) else nI g := by
  unfold f_gate at eg
  by_cases h : f_wy F w = 0
  · rw [if_pos h] at eg ⊢
    rw [if_pos h, eg, nI_1]
  · rw [if_neg h] at eg ⊢
    rw [if_neg h, eg]
theorem f_step_turn {F : FS} {w : Nat} (h : ¬ inR (f_gate F w) 0 7) : f_step F w = f_turn F w := by
  unfold f_step
  by_cases h1 : f_gate F w < 0
  · rw [if_pos h1]
  · rw [if_neg h1]
    by_cases h2 : f_gate F w < 8
    · obtain ⟨g, hg, eg⟩ := kn_ix (n := 8) h1 h2 rfl
      exact absurd (by rw [eg]; exact ⟨nI_pos' (by omega), nI_le (b := 7) (by omega) (by omega)⟩) h
    · rw [if_neg h2]
theorem f_step_go {F : FS} {w g : Nat} (hg : g < 8) (h : inR (f_gate F w) 0 7) (eg : f_gate F w = nI g) : f_step F w = f_go F w g := by
  unfold f_step
  rw [if_neg (by rw [eg]; exact nI_pos (by omega)), if_pos (by rw [eg]; exact nI_lt (b := 8) (by omega) (by omega)), eg, nI_clamp (by omega)]
