/-! small numbers -/
theorem kn_inc (k : Nat) : nI k + Int32.ofInt 1 = nI (k + 1) := nI_1 k
theorem kn_dec (k : Nat) : nI (k + 1) + Int32.ofInt (-1) = nI k := pk_m1 k
theorem kn_add (a b : Nat) : nI a + nI b = nI (a + b) := nI_add a b
theorem kn_neg {P : Prop} [Decidable P] {x : Int32} (h : x = if P then 0 else 1) : x = if ¬ P then 1 else 0 := by
  rw [h]; by_cases hp : P <;> simp [hp]
theorem kn_eq {P : Prop} [Decidable P] {x : Int32} (h : x = if P then 1 else 0) : x = 0 ↔ ¬ P := by
  rw [h]; by_cases hp : P <;> simp [hp]
theorem kn_ne {P : Prop} [Decidable P] {x : Int32} (h : x = if P then 1 else 0) : ¬ x = 0 ↔ P := by
  rw [h]; by_cases hp : P <;> simp [hp]
theorem kn_narZ {P : Prop} [Decidable P] {x : Int32} (h : x = if P then 1 else 0) : narrow .boolean (.int x) = .int x := by
  rw [h]; by_cases hp : P <;> simp [hp] <;> rfl
theorem kn_if {P Q : Prop} [Decidable P] [Decidable Q] {x : Int32} (h : x = if P then 1 else 0) (e : P ↔ Q) : x = if Q then 1 else 0 := by
  rw [h]; by_cases hp : P
  · rw [if_pos hp, if_pos (e.mp hp)]
  · rw [if_neg hp, if_neg (fun q => hp (e.mpr q))]
theorem fa_lt (a b : Int32) : a < b ↔ a.toInt < b.toInt := Int32.lt_iff_toInt_lt
theorem fa_le (a b : Int32) : a ≤ b ↔ a.toInt ≤ b.toInt := Int32.le_iff_toInt_le
theorem fa_eq (a b : Int32) : a = b ↔ a.toInt = b.toInt := Int32.toInt_inj.symm
theorem fa_le64 (a b : Int64) : a ≤ b ↔ a.toInt ≤ b.toInt := Int64.le_iff_toInt_le
theorem fa_lt64 (a b : Int64) : a < b ↔ a.toInt < b.toInt := Int64.lt_iff_toInt_lt
theorem kn_wide (a : Int32) : a.toInt64.toInt = a.toInt := Int32.toInt_toInt64 a
/-- from lo to hi -/
abbrev inR (v lo hi : Int32) : Prop := lo ≤ v ∧ v ≤ hi
section KJ2
variable {M : kT} {cc : ByteArray} {nL : Nat} {own : String} {fr lo pc : Nat} {lv : List (Nat × Value)} {st st0 : List Value} {ws : va_W}
theorem q_cuti (P : Int32 → Prop) (pc2 : Nat) (J : ∀ v, P v → kJ M nL pc2 lv (.int v :: st) ws) (k : (∀ v, P v → kJ M nL pc2 lv (.int v :: st) ws) → kJ M nL pc lv st0 ws) : kJ M nL pc lv st0 ws := k J
theorem q_ldcw {i : Nat} {v : Int32} (K : kK M cc nL own fr lo) (hdg : decode cc pc = .ok (.ldc_w i, 3)) (hw : Cond.constant own i v ∈ tw_T) (kk : kJ M nL (pc + 3) lv (.int v :: st) ws) : kJ M nL pc lv st ws := fun H locs ls hP hD hS hl => by obtain ⟨hx, hb, -, ho, ht, -⟩ := K; exact lv_ldcw hx hb ho (ht _ hw) hdg (kk H locs ls hP hD hS hl)
theorem q_mmin {x y : Int32} {i : Nat} (K : kK M cc nL own fr lo) (hlk : Cond.methodLink own i yJ9_min_7cf53 ∈ tw_T) (hf9 : 1 ≤ fr) (hl9 : (st.map fun v => v.category).sum + 13 ≤ lo) (hdg : decode cc pc = .ok (.invokestatic i, 3)) (kk : kJ M nL (pc + 3) lv (.int (if y < x then y else x) :: st) ws) : kJ M nL pc lv (.int y :: .int x :: st) ws := fun H locs ls hP hD hS hl => by
  obtain ⟨hx, hb, hml, ho, ht, hK, hA, hZ, ⟨hf, hlo⟩, hcs, hsl⟩ := K
  exact va_mmin hx hb (hml.trans hl.1.symm) ho (ht _ hlk) (ht _ sm_J9_min_7cf53) (ht _ in_J9) (ht _ co_J9_min_7cf53) (by rw [hf]; exact hf9) (by rw [hlo]; exact hl9) hcs hsl hdg (kk H locs ls hP hD hS hl)
theorem q_mmax {x y : Int32} {i : Nat} (K : kK M cc nL own fr lo) (hlk : Cond.methodLink own i yJ9_max_7cf53 ∈ tw_T) (hf9 : 1 ≤ fr) (hl9 : (st.map fun v => v.category).sum + 13 ≤ lo) (hdg : decode cc pc = .ok (.invokestatic i, 3)) (kk : kJ M nL (pc + 3) lv (.int (if x < y then y else x) :: st) ws) : kJ M nL pc lv (.int y :: .int x :: st) ws := fun H locs ls hP hD hS hl => by
  obtain ⟨hx, hb, hml, ho, ht, hK, hA, hZ, ⟨hf, hlo⟩, hcs, hsl⟩ := K
  exact va_mmax hx hb (hml.trans hl.1.symm) ho (ht _ hlk) (ht _ sm_J9_max_7cf53) (ht _ in_J9) (ht _ co_J9_max_7cf53) (by rw [hf]; exact hf9) (by rw [hlo]; exact hl9) hcs hsl hdg (kk H locs ls hP hD hS hl)
end KJ2
/-- a static method that looks at nothing -/
def KP (l : Launch) (Z : kz_Z) (y : MethodName) (cc : ByteArray) (nL : Nat) (ty : FieldType) (fr lo : Nat) (av : List Value) (P : Int32 → Prop) : Prop := KI l Z y cc nL ty fr lo av [] (fun r w' => P r ∧ w' = [])
section KD2
variable {M : kT} {cc cy : ByteArray} {nL nLy : Nat} {own : String} {fr lo frY loY pc i n b : Nat} {lv : List (Nat × Value)} {st rest As : List Value} {ws wc : va_W} {y : MethodName}
theorem q_cp {ty : FieldType} {P : Int32 → Prop} (K : kK M cc nL own fr lo) (I : k_is y cy nLy (some ty) n) (hM : KP (k_l M) (k_Z M) y cy nLy ty frY loY As P) (hlk : Cond.methodLink own i y ∈ tw_T) (hn : As.length = n) (hst : st = As.reverse ++ rest) (hrm : (rest.map fun v => v.category).sum ≤ 8) (hR : frY + 1 ≤ fr ∧ 8 + (nLy + 11) + loY ≤ lo) (hdg : decode cc pc = .ok (.invokestatic i, 3)) (kk : ∀ r : Int32, P r → kJ M nL (pc + 3) lv (.int r :: rest) ws) : kJ M nL pc lv st ws :=
  q_csI K I hM [] ws rfl hlk hn hst hrm hR hdg (fun r w' h => by obtain ⟨h1, rfl⟩ := h; exact kk r h1)
/-- calls that take the whole world -/
theorem q_wI {ty : FieldType} {Post : Int32 → va_W → Prop} {ci q0 : Nat} {fs : List Value} {T : u_T} {N : Nat} (K : kK M cc nL own fr lo) (I : k_iv y cy nLy (some ty) n) (hM : KI (k_l M) (k_Z M) y cy nLy ty frY loY (.ref b :: As) ws Post) (hb9 : ws[q0]? = some (b, .inr (ci, fs))) (hc9 : vwCl[ci]? = some (y.cls, T, N)) (hlk : Cond.methodLink own i y ∈ tw_T) (hn : As.length = n) (hst : st = As.reverse ++ .ref b :: rest) (hrm : (rest.map fun v => v.category).sum ≤ 8) (hR : frY + 1 ≤ fr ∧ 8 + (nLy + 11) + loY ≤ lo) (hdg : decode cc pc = .ok (.invokevirtual i, 3)) (kk : ∀ (r : Int32) (w' : va_W), Post r w' → kJ M nL (pc + 3) lv (.int r :: rest) w') : kJ M nL pc lv st ws :=
  q_cvI K I hM [] [] (List.append_nil ws).symm hb9 hc9 hlk hn hst hrm hR hdg (fun r w' h => by rw [List.nil_append, List.append_nil]; exact kk r w' h)
theorem q_wV {Post : va_W → Prop} {ci q0 : Nat} {fs : List Value} {T : u_T} {N : Nat} (K : kK M cc nL own fr lo) (I : k_iv y cy nLy none n) (hM : KV (k_l M) (k_Z M) y cy nLy frY loY (.ref b :: As) ws Post) (hb9 : ws[q0]? = some (b, .inr (ci, fs))) (hc9 : vwCl[ci]? = some (y.cls, T, N)) (hlk : Cond.methodLink own i y ∈ tw_T) (hn : As.length = n) (hst : st = As.reverse ++ .ref b :: rest) (hrm : (rest.map fun v => v.category).sum ≤ 8) (hR : frY + 1 ≤ fr ∧ 8 + (nLy + 11) + loY ≤ lo) (hdg : decode cc pc = .ok (.invokevirtual i, 3)) (kk : ∀ (w' : va_W), Post w' → kJ M nL (pc + 3) lv rest w') : kJ M nL pc lv st ws :=
  q_cvV K I hM [] [] (List.append_nil ws).symm hb9 hc9 hlk hn hst hrm hR hdg (fun w' h => by rw [List.nil_append, List.append_nil]; exact kk w' h)
end KD2
