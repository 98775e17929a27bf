/-! STRING'S toCharArray OF THE ONE STRING -/
section KS
variable {M : kT} {cc : ByteArray} {nL : Nat} {own : String} {fr lo pc n k : Nat} {lv : List (Nat × Value)} {st : List Value} {ws : va_W} {u : Nat × Nat}
theorem q_compact {i : Nat} (K : kK M cc nL own fr lo) (hX : k_X u (k_W M) (k_s M) (k_s M).heap) (hlink : Cond.fieldLink own i "java/lang/String" "COMPACT_STRINGS" "Z" ∈ tw_T) (hdg : decode cc pc = .ok (.getstatic i, 3)) (kk : kJ M nL (pc + 3) lv (.int 1 :: st) ws) : kJ M nL pc lv st ws := fun H locs ls hP hD hS hl => by
  obtain ⟨hx, hb, hml, ho, ht, -⟩ := K
  exact va_gets hx hb hX.1.1 hS ho (ht _ hlink) (fun _ h => h) hdg (kk H locs ls hP hD hS hl)
theorem q_coder {i : Nat} (K : kK M cc nL own fr lo) (hX : k_X u (k_W M) (k_s M) (k_s M).heap) (hlink : Cond.fieldLink own i "java/lang/String" "coder" "B" ∈ tw_T) (hdg : decode cc pc = .ok (.getfield i, 3)) (kk : kJ M nL (pc + 3) lv (.int 0 :: st) ws) : kJ M nL pc lv (.ref u.1 :: st) ws := fun H locs ls hP hD hS hl => by
  obtain ⟨hx, hb, hml, ho, ht, -⟩ := K
  exact va_getX (N := 1) (v := fun _ => .int 0) (ad := fun _ => u.1) (i := 0) hx hb (fun _ _ => hX.1.2.2.1) Nat.one_pos hS ho (ht _ hlink) (fun _ h => h) hdg (kk H locs ls hP hD hS hl)
theorem q_value {i : Nat} (K : kK M cc nL own fr lo) (hX : k_X u (k_W M) (k_s M) (k_s M).heap) (hlink : Cond.fieldLink own i "java/lang/String" "value" "[B" ∈ tw_T) (hdg : decode cc pc = .ok (.getfield i, 3)) (kk : kJ M nL (pc + 3) lv (.ref u.2 :: st) ws) : kJ M nL pc lv (.ref u.1 :: st) ws := fun H locs ls hP hD hS hl => by
  obtain ⟨hx, hb, hml, ho, ht, -⟩ := K
  exact va_getX (N := 1) (v := fun _ => .ref u.2) (ad := fun _ => u.1) (i := 0) hx hb (fun _ _ => hX.1.2.2.2.1) Nat.one_pos hS ho (ht _ hlink) (fun _ h => h) hdg (kk H locs ls hP hD hS hl)
theorem q_stb {i : Int32} {v : Int32} (K : kK M cc nL own fr lo) (hX : k_X u (k_W M) (k_s M) (k_s M).heap) (hin : vp_in i 128) (hv : k_word i.toNatClampNeg = v) (hdg : decode cc pc = .ok (.baload, 1)) (kk : kJ M nL (pc + 1) lv (.int v :: st) ws) : kJ M nL pc lv (.int i :: .ref u.2 :: st) ws := fun H locs ls hP hD hS hl => by
  obtain ⟨hx, hb, hml, ho, ht, -⟩ := K
  exact va_tb hx hb hX.1.2.2.2.2 hS hin (by rw [hv]) hdg (kk H locs ls hP hD hS hl)
theorem q_stlen (K : kK M cc nL own fr lo) (hX : k_X u (k_W M) (k_s M) (k_s M).heap) (hdg : decode cc pc = .ok (.arraylength, 1)) (kk : kJ M nL (pc + 1) lv (.int 128 :: st) ws) : kJ M nL pc lv (.ref u.2 :: st) ws := fun H locs ls hP hD hS hl => by
  obtain ⟨hx, hb, hml, ho, ht, -⟩ := K
  exact va_tlen hx hb hX.1.2.2.2.2 hS rfl hdg (kk H locs ls hP hD hS hl)
theorem q_i2c {x : Int32} (v : Int32) (K : kK M cc nL own fr lo) (hdg : decode cc pc = .ok (.i2c, 1)) (hv : (x.toUInt32 % 65536).toInt32 = v) (kk : kJ M nL (pc + 1) lv (.int v :: st) ws) : kJ M nL pc lv (.int x :: st) ws := fun H locs ls hP hD hS hl => by
  obtain ⟨hx, hb, -⟩ := K
  exact lv_i2c hx hb hdg hv (kk H locs ls hP hD hS hl)
theorem q_cast {a N : Nat} {f : Nat → Int32} {i x : Int32} {ws' : va_W} (K : kK M cc nL own fr lo) (q0 : Nat) (ha : ws[q0]? = some (a, .inl ((k_Z M).2.1 3, N, .inl f))) (hin : vp_in i N) (hw : ws.set q0 (a, .inl ((k_Z M).2.1 3, N, .inl (upd f i.toNatClampNeg (vp_nar .char x)))) = ws') (hdg : decode cc pc = .ok (.castore, 1)) (kk : kJ M nL (pc + 1) lv st ws') : kJ M nL pc lv (.int x :: .int i :: .ref a :: st) ws := fun H locs ls hP hD hS hl => by
  obtain ⟨hx, hb, -, ho, ht, hK, -⟩ := K
  subst hw
  exact va_cast hx hb hK hP hD hS q0 3 ha rfl hin hdg (fun H1 locs1 hP1 hD1 hS1 => kk H1 locs1 ls hP1 hD1 hS1 hl)
theorem q_ldcS {i : Nat} {tx : String} {a : Nat} (K : kK M cc nL own fr lo) (hR : vk_R own i tx a (k_s M)) (hdg : decode cc pc = .ok (.ldc i, 2)) (kk : kJ M nL (pc + 2) lv (.ref a :: st) ws) : kJ M nL pc lv st ws := fun H locs ls hP hD hS hl => by
  obtain ⟨hx, hb, hml, ho, ht, -⟩ := K
  exact va_ldcS hx hb ho hR hdg (kk H locs ls hP hD hS hl)
/-- a call on the string: an int -/
theorem q_cxI {Post : Int32 → va_W → Prop} {y : MethodName} {cy : ByteArray} {nLy frY loY i : Nat} {ty : FieldType} {rest : List Value} (K : kK (kM M n k) cc nL own fr lo) (hX : k_X u (k_W M) (k_s M) (k_s M).heap) (hM : KX (k_l M) (k_Z M) u y cy nLy ty frY loY [.ref u.1] [] Post) (hyc : y.cls = "java/lang/String") (I : k_iv y cy nLy (some ty) 0) (hlk : Cond.methodLink own i y ∈ tw_T) (hrm : (rest.map fun v => v.category).sum ≤ 8) (hR : frY + 1 ≤ fr ∧ 8 + (nLy + 11) + loY ≤ lo) (hdg : decode cc pc = .ok (.invokevirtual i, 3))
    (kk : ∀ (r : Int32) (w' : va_W), Post r w' → kJ (kM M n k) nL (pc + 3) lv (.int r :: rest) (w' ++ ws)) : kJ (kM M n k) nL pc lv (.ref u.1 :: rest) ws := fun H locs ls hP hD hS hl => by
  obtain ⟨hx, hb, hml, ho, ht, hK, hA, hZ, ⟨hf, hl9⟩, hcs, hsl⟩ := K
  obtain ⟨⟨i1, i2⟩, i3, i4, i5, i6, i7⟩ := I
  have hws : ws = [] ++ (([] : va_W) ++ ws) := rfl
  obtain ⟨hF, hU⟩ := k_enterX [] ws hws hK hZ hX hA hP hD hS
  have cb : CallW (k_R M) (k_s M) (k_a M) own y.cls i y cy nLy (some ty) (.code y cy nLy (some ty) :: tw_T) { frames := frY, cells := 0, slots := 0, locals := loY } 0 0 0 := ⟨callB_of 0 ht (k_good i4) rfl rfl rfl (ht _ i3) (ht _ hlk) ⟨i5, i6, i7⟩ ⟨by rw [show (k_R M).frames = fr from hf]; exact hR.1, by rw [show (k_R M).locals = lo from hl9]; exact hR.2⟩, ht _ i1, ht _ i2⟩
  refine va_calli (va_runV (As := []) (rest := rest) ⟨hx, hb, hml, ho, ht⟩ (hM H.size) cb ⟨kn_blind, by rw [hyc]; exact va_Orecv hX.1.2.1 hS, fun U h1 h2 => ⟨rfl, hU U h1 h2⟩⟩ rfl rfl hl.1 rfl (lv_room hrm) hdg ⟨hcs, hsl⟩) hS (fun q _ h => hF q h) hF (fun r w' t H1 locs1 ht9 hvm hp hB hz hk hS1 => ?_)
  obtain ⟨hP1, hK1, hD1⟩ := hB
  rw [ht9] at hP1
  obtain ⟨hP2, hD2⟩ := k_fr (X := []) (wc := []) hP hD hk hF hP1 hD1
  exact kk r w' hp H1 locs1 ls hP2 hD2 hS1 hl
/-- a call on the string: a cell -/
theorem q_crV {Post : Nat → va_W → Prop} {y : MethodName} {cy : ByteArray} {nLy frY loY mc ms i : Nat} {ty : FieldType} {rest : List Value} (K : kK (kM M n k) cc nL own fr lo) (hX : k_X u (k_W M) (k_s M) (k_s M).heap) (hM : KR (k_l M) (k_Z M) u y cy nLy ty frY loY mc ms [.ref u.1] [] Post) (hyc : y.cls = "java/lang/String") (I : k_iv y cy nLy (some ty) 0) (hlk : Cond.methodLink own i y ∈ tw_T) (hrm : (rest.map fun v => v.category).sum ≤ 8) (hR : frY + 1 ≤ fr ∧ 8 + (nLy + 11) + loY ≤ lo) (hc : n + mc ≤ (k_R M).cells) (hs : k + ms ≤ (k_R M).slots) (hdg : decode cc pc = .ok (.invokevirtual i, 3))
    (kk : ∀ (a : Nat) (w' : va_W), Post a w' → kJ (kM M (n + mc) (k + ms)) nL (pc + 3) lv (.ref a :: rest) (w' ++ ws)) : kJ (kM M n k) nL pc lv (.ref u.1 :: rest) ws := fun H locs ls hP hD hS hl => by
  obtain ⟨hx, hb, hml, ho, ht, hK, hA, hZ, ⟨hf, hl9⟩, hcs, hsl⟩ := K
  obtain ⟨⟨i1, i2⟩, i3, i4, i5, i6, i7⟩ := I
  have hws : ws = [] ++ (([] : va_W) ++ ws) := rfl
  obtain ⟨hF, hU⟩ := k_enterX [] ws hws hK hZ hX hA hP hD hS
  have cb : CallW (k_R M) (k_s M) (k_a M) own y.cls i y cy nLy (some ty) (.code y cy nLy (some ty) :: tw_T) { frames := frY, cells := mc, slots := ms, locals := loY } mc ms 0 := ⟨callB_of 0 ht (k_good i4) rfl rfl rfl (ht _ i3) (ht _ hlk) ⟨i5, i6, i7⟩ ⟨by rw [show (k_R M).frames = fr from hf]; exact hR.1, by rw [show (k_R M).locals = lo from hl9]; exact hR.2⟩, ht _ i1, ht _ i2⟩
  refine va_callr (va_runV (As := []) (rest := rest) ⟨hx, hb, hml, ho, ht⟩ (hM H.size) cb ⟨kn_blind, by rw [hyc]; exact va_Orecv hX.1.2.1 hS, fun U h1 h2 => ⟨rfl, hU U h1 h2⟩⟩ rfl rfl hl.1 rfl (lv_room hrm) hdg ⟨hc, hs⟩) hS (fun q _ h => hF q h) hF (fun _ a t H1 locs1 ht9 hvm _ hB hz hk hS1 => ?_)
  obtain ⟨w', hp, hP1, hK1, hD1⟩ := hB
  rw [ht9] at hP1
  obtain ⟨hP2, hD2⟩ := k_fr (X := []) (wc := []) hP hD hk hF hP1 hD1
  exact kk a w' hp H1 locs1 ls hP2 hD2 hS1 hl
/-- a static call: a cell -/
theorem q_crS {Post : Nat → va_W → Prop} {y : MethodName} {cy : ByteArray} {nLy frY loY mc ms i N : Nat} {ty : FieldType} {As rest : List Value} (K : kK (kM M n k) cc nL own fr lo) (hX : k_X u (k_W M) (k_s M) (k_s M).heap) (hM : KR (k_l M) (k_Z M) u y cy nLy ty frY loY mc ms As [] Post) (I : k_is y cy nLy (some ty) N) (hlk : Cond.methodLink own i y ∈ tw_T) (hn : As.length = N) (hst : st = As.reverse ++ rest) (hrm : (rest.map fun v => v.category).sum ≤ 8) (hR : frY + 1 ≤ fr ∧ 8 + (nLy + 11) + loY ≤ lo) (hc : n + mc ≤ (k_R M).cells) (hs : k + ms ≤ (k_R M).slots) (hdg : decode cc pc = .ok (.invokestatic i, 3))
    (kk : ∀ (a : Nat) (w' : va_W), Post a w' → kJ (kM M (n + mc) (k + ms)) nL (pc + 3) lv (.ref a :: rest) (w' ++ ws)) : kJ (kM M n k) nL pc lv st ws := fun H locs ls hP hD hS hl => by
  obtain ⟨hx, hb, hml, ho, ht, hK, hA, hZ, ⟨hf, hl9⟩, hcs, hsl⟩ := K
  obtain ⟨i1, i3, i4, i5, i6, i7⟩ := I
  have hws : ws = [] ++ (([] : va_W) ++ ws) := rfl
  obtain ⟨hF, hU⟩ := k_enterX [] ws hws hK hZ hX hA hP hD hS
  have cb : CallB (k_R M) (k_s M) (k_a M) own i y cy nLy (some ty) (.code y cy nLy (some ty) :: tw_T) { frames := frY, cells := mc, slots := ms, locals := loY } mc ms N := callB_of N ht (k_good i4) rfl rfl rfl (ht _ i3) (ht _ hlk) ⟨i5, i6, i7⟩ ⟨by rw [show (k_R M).frames = fr from hf]; exact hR.1, by rw [show (k_R M).locals = lo from hl9]; exact hR.2⟩
  subst hst
  refine va_callr (va_runS (As := As) (rest := rest) ⟨hx, hb, hml, ho, ht⟩ (hM H.size) ⟨cb, ht _ i1⟩ ⟨kn_blind, fun U h1 h2 => ⟨rfl, hU U h1 h2⟩⟩ rfl hn hl.1 rfl (lv_room hrm) hdg ⟨hc, hs⟩) hS (fun q _ h => hF q h) hF (fun _ a t H1 locs1 ht9 hvm _ hB hz hk hS1 => ?_)
  obtain ⟨w', hp, hP1, hK1, hD1⟩ := hB
  rw [ht9] at hP1
  obtain ⟨hP2, hD2⟩ := k_fr (X := []) (wc := []) hP hD hk hF hP1 hD1
  exact kk a w' hp H1 locs1 ls hP2 hD2 hS1 hl
/-- a static call of no answer, with the string's facts -/
theorem q_cnS {Post : va_W → Prop} {y : MethodName} {cy : ByteArray} {nLy frY loY mc ms i N : Nat} {As rest : List Value} {wc : va_W} (K : kK (kM M n k) cc nL own fr lo) (hX : k_X u (k_W M) (k_s M) (k_s M).heap) (hM : KN (k_l M) (k_Z M) u y cy nLy frY loY mc ms As wc Post) (I : k_is y cy nLy none N) (X Y : va_W) (hws : ws = X ++ (wc ++ Y)) (hlk : Cond.methodLink own i y ∈ tw_T) (hn : As.length = N) (hst : st = As.reverse ++ rest) (hrm : (rest.map fun v => v.category).sum ≤ 8) (hR : frY + 1 ≤ fr ∧ 8 + (nLy + 11) + loY ≤ lo) (hc : n + mc ≤ (k_R M).cells) (hs : k + ms ≤ (k_R M).slots) (hdg : decode cc pc = .ok (.invokestatic i, 3))
    (kk : ∀ (w' : va_W), Post w' → kJ (kM M (n + mc) (k + ms)) nL (pc + 3) lv rest (X ++ (w' ++ Y))) : kJ (kM M n k) nL pc lv st ws := fun H locs ls hP hD hS hl => by
  obtain ⟨hx, hb, hml, ho, ht, hK, hA, hZ, ⟨hf, hl9⟩, hcs, hsl⟩ := K
  obtain ⟨i1, i3, i4, i5, i6, i7⟩ := I
  obtain ⟨hF, hU⟩ := k_enterX X Y hws hK hZ hX hA hP hD hS
  have cb : CallB (k_R M) (k_s M) (k_a M) own i y cy nLy none (.code y cy nLy none :: tw_T) { frames := frY, cells := mc, slots := ms, locals := loY } mc ms N := callB_of N ht (k_good i4) rfl rfl rfl (ht _ i3) (ht _ hlk) ⟨i5, i6, i7⟩ ⟨by rw [show (k_R M).frames = fr from hf]; exact hR.1, by rw [show (k_R M).locals = lo from hl9]; exact hR.2⟩
  subst hst
  refine va_callv (va_runS (As := As) (rest := rest) ⟨hx, hb, hml, ho, ht⟩ (hM H.size) ⟨cb, ht _ i1⟩ ⟨kn_blind, fun U h1 h2 => ⟨rfl, hU U h1 h2⟩⟩ rfl hn hl.1 rfl (lv_room hrm) hdg ⟨hc, hs⟩) hS (fun q _ h => hF q h) hF (fun w' t H1 locs1 ht9 hvm hp hB hz hk hS1 => ?_)
  obtain ⟨hP1, hK1, hD1⟩ := hB
  rw [ht9] at hP1
  rw [hws] at hP hD
  obtain ⟨hP2, hD2⟩ := k_fr hP hD hk hF hP1 hD1
  exact kk w' hp H1 locs1 ls hP2 hD2 hS1 hl
end KS
theorem ko_of {l : Launch} {Z : kz_Z} {u : Nat × Nat} {y : MethodName} {cc : ByteArray} {nL : Nat} {fr lo : Nat} {av : List Value} {w : va_W} {Post : va_W → Prop} (hy : plainName y.cls = true) (lv0 : List (Nat × Value)) (hav : (lg_sl av).length ≤ nL) (hlv : lv_args 0 av = lv0)
    (body : ∀ M : kT, k_l M = l → k_Z M = Z → kK M cc nL y.cls fr lo → k_X u (k_W M) (k_s M) (k_s M).heap → (∀ (pc : Nat) (lv : List (Nat × Value)) (w' : va_W), decode cc pc = .ok (.return_, 1) → Post w' → kJ M nL pc lv [] w') → kJ M nL 0 lv0 [] w) : KN l Z u y cc nL fr lo 0 0 av w Post := by
  intro sz
  refine Met.ofW (cc := cc) (maxL := nL) (ret := none) hy rfl ?_
  intro p e s m args below meth c s₁ B hml hv
  obtain ⟨rfl, ⟨hsz, hP, hK, hD0, hS0⟩, hX0⟩ := hv
  subst hsz
  have hts := atoms_spec (ws := .code y cc nL none :: tw_T) B.pre
  have hl := lv_entry av (n := nL) hav
  rw [hlv] at hl
  rw [lg_entry_eq]
  refine body ((p, l, e, { frames := fr, cells := 0, slots := 0, locals := lo }, s), (m, av.toArray, below, meth, c), (va_A w s.heap.size, _, Z, 0, 0)) rfl rfl ⟨B.exec, B.bytes, hml, findClass_of_methodNamed B.named, fun w9 h9 => hts w9 (List.mem_cons_of_mem _ h9), hK, fun q h => Or.inr h, hS0, ⟨rfl, rfl⟩, Nat.zero_le _, Nat.zero_le _⟩ hX0 ?_ s.heap [] _ hP (hD0.self) va_S.rf hl
  intro pc lv w' hdg hp H locs ls hP hD hS hl
  exact W.vret B.exec B.bytes B.returns (fun t ht hW => ⟨⟨w', rfl, hp, ⟨by rw [ht]; exact hP, va_K.moved hW.alike hK, hD⟩⟩, hS.F ht⟩) hS.2.2 hdg B.notSynchronized
theorem kv_isLatin1 : k_iv yJ0_isLatin1_aae02 cJ0_isLatin1_aae02 1 (some .boolean) 0 := ⟨⟨im_J0_isLatin1_aae02, se_J0_isLatin1_aae02⟩, in_J0, co_J0_isLatin1_aae02, by decide +kernel⟩
theorem kv_toCharArray : k_iv yJ0_toCharArray_70df3 cJ0_toCharArray_70df3 1 (some (.array .char)) 0 := ⟨⟨im_J0_toCharArray_70df3, se_J0_toCharArray_70df3⟩, in_J0, co_J0_toCharArray_70df3, by decide +kernel⟩
theorem ks_toChars : k_is yJ1_toChars_9d188 cJ1_toChars_9d188 2 (some (.array .char)) 1 := ⟨sm_J1_toChars_9d188, in_J1, co_J1_toChars_9d188, by decide +kernel⟩
theorem ks_inflate : k_is yJ1_inflate_03870 cJ1_inflate_03870 6 none 5 := ⟨sm_J1_inflate_03870, in_J1, co_J1_inflate_03870, by decide +kernel⟩
set_option maxHeartbeats 4000000 in
set_option maxRecDepth 100000 in
theorem c_isLatin1 (l : Launch) (Z : kz_Z) (u : Nat × Nat) : KX l Z u yJ0_isLatin1_aae02 cJ0_isLatin1_aae02 1 .boolean 0 0 [.ref u.1] [] (fun r w2 => r = 1 ∧ w2 = []) := by
  refine kx_of (by decide) [(0, .ref u.1)] (Nat.le_of_ble_eq_true rfl) rfl ?_
  intro M e1 e2 K hX Rt
  subst e1 e2
  refine q_compact K hX fl_J0_38 dJ0_isLatin1_aae02_0 ?_
  refine q_if_eq 17 K dJ0_isLatin1_aae02_3 (by decide) (fun c_0 => absurd c_0 (by decide)) (fun _ => ?_)
  refine q_aload_n K 0 dJ0_isLatin1_aae02_6 rfl ?_
  refine q_coder K hX fl_J0_15 dJ0_isLatin1_aae02_7 ?_
  refine q_if_ne 17 K dJ0_isLatin1_aae02_10 (by decide) (fun c_0 => absurd c_0 (by decide)) (fun _ => ?_)
  refine q_iconst 1 K dJ0_isLatin1_aae02_13 rfl ?_
  refine q_goto 18 K dJ0_isLatin1_aae02_14 (by decide) ?_
  exact Rt _ _ 1 [] dJ0_isLatin1_aae02_18 rfl ⟨rfl, rfl⟩
def ci0 : Nat → Nat → Int32
  | 0 => fun _ => 0
  | i + 1 => upd (ci0 i) i (k_word i)
theorem ci0_lt : ∀ i j, j < i → ci0 i j = k_word j
  | 0, j, h => absurd h (Nat.not_lt_zero j)
  | i + 1, j, h => by
    rw [ci0]
    rcases Nat.lt_or_ge j i with q | q
    · rw [pk_un (by omega)]; exact ci0_lt i j q
    · rw [show j = i by omega]; exact pk_us
theorem k_chr : ∀ i : Fin 128, vp_nar .char (((k_word i.val &&& 255).toUInt32 % 65536).toInt32) = k_word i.val := by
  simp only [k_word, k_let]; decide +kernel
set_option maxHeartbeats 4000000 in
set_option maxRecDepth 100000 in
theorem c_inflate (l : Launch) (Z : kz_Z) (u : Nat × Nat) (d : Nat) : KN l Z u yJ1_inflate_03870 cJ1_inflate_03870 6 0 0 0 0 [.ref u.2, .int 0, .ref d, .int 0, .int 128] [(d, .inl (Z.2.1 3, 128, .inl (fun _ => 0)))] (fun w2 => w2 = [(d, .inl (Z.2.1 3, 128, .inl k_word))]) := by
  refine ko_of (by decide) [(0, .ref u.2), (1, .int 0), (2, .ref d), (3, .int 0), (4, .int 128)] (Nat.le_of_ble_eq_true rfl) rfl ?_
  intro M e1 e2 K hX Rt
  subst e1 e2
  refine q_iconst 0 K dJ1_inflate_03870_0 rfl ?_
  refine q_istore (lv' := [(5, .int 0), (0, .ref u.2), (1, .int 0), (2, .ref d), (3, .int 0), (4, .int 128)]) K dJ1_inflate_03870_1 (by decide) rfl ?_
  refine q_loop (α := Nat) (fun n9 i => i + n9 = 128) 3 (fun i => [(5, .int (nI i)), (0, .ref u.2), (1, .int (nI i)), (2, .ref d), (3, .int (nI i)), (4, .int 128)]) (fun i => [(d, .inl ((k_Z M).2.1 3, 128, .inl (ci0 i)))]) (fun n i hI ih => ?_) 128 0 rfl
  refine q_iload K 0 dJ1_inflate_03870_3 rfl ?_
  refine q_iload K 5 dJ1_inflate_03870_5 rfl ?_
  refine q_icmp_ge 33 K dJ1_inflate_03870_7 (by decide) (fun c => ?_) (fun c => ?_)
  · have hi : 128 ≤ i := (nI_leI (a := 128) (b := i) (by omega) (by omega)).mp c
    refine q_ext (ws' := [(d, .inl ((k_Z M).2.1 3, 128, .inl k_word))]) 0 k_word rfl (fun j hj => (ci0_lt i j (by omega)).symm) rfl ?_
    exact Rt _ _ _ dJ1_inflate_03870_33 rfl
  · have hi : ¬ 128 ≤ i := fun h9 => c ((nI_leI (a := 128) (b := i) (by omega) (by omega)).mpr h9)
    refine q_aload_n K 3 dJ1_inflate_03870_10 rfl ?_
    refine q_iload_n K 4 dJ1_inflate_03870_11 rfl ?_
    refine q_iinc (nI (i + 1)) (lv' := [(3, .int (nI (i + 1))), (5, .int (nI i)), (0, .ref u.2), (1, .int (nI i)), (2, .ref d), (4, .int 128)]) K 4 dJ1_inflate_03870_12 rfl (kn_inc i) (by decide) rfl ?_
    refine q_aload_n K 2 dJ1_inflate_03870_15 rfl ?_
    refine q_iload_n K 3 dJ1_inflate_03870_16 rfl ?_
    refine q_iinc (nI (i + 1)) (lv' := [(1, .int (nI (i + 1))), (3, .int (nI (i + 1))), (5, .int (nI i)), (0, .ref u.2), (2, .ref d), (4, .int 128)]) K 3 dJ1_inflate_03870_17 rfl (kn_inc i) (by decide) rfl ?_
    refine q_stb (v := k_word i) K hX (vp_in_nI (n := i) (N := 128) (by omega) (by omega)) (by rw [nI_clamp (n := i) (by omega)]) dJ1_inflate_03870_20 ?_
    refine q_sipush 255 K dJ1_inflate_03870_21 rfl ?_
    refine q_iand K dJ1_inflate_03870_24 ?_
    refine q_i2c _ K dJ1_inflate_03870_25 rfl ?_
    refine q_cast (ws' := [(d, .inl ((k_Z M).2.1 3, 128, .inl (ci0 (i + 1))))]) K 0 rfl (vp_in_nI (n := i) (N := 128) (by omega) (by omega)) (by rw [nI_clamp (n := i) (by omega), k_chr ⟨i, by omega⟩]; rfl) dJ1_inflate_03870_26 ?_
    refine q_iinc (nI (i + 1)) (lv' := [(5, .int (nI (i + 1))), (1, .int (nI (i + 1))), (3, .int (nI (i + 1))), (0, .ref u.2), (2, .ref d), (4, .int 128)]) K 2 dJ1_inflate_03870_27 rfl (kn_inc i) (by decide) rfl ?_
    refine q_goto 3 K dJ1_inflate_03870_30 (by decide) ?_
    refine q_lv [0, 3, 1, 4, 2, 5] rfl ?_
    exact ih (n - 1) (i + 1) (by omega) (by omega)
set_option maxHeartbeats 4000000 in
set_option maxRecDepth 100000 in
theorem c_toChars (l : Launch) (Z : kz_Z) (u : Nat × Nat) : KR l Z u yJ1_toChars_9d188 cJ1_toChars_9d188 2 (.array .char) 1 25 1 128 [.ref u.2] [] (fun a w2 => w2 = [(a, .inl (Z.2.1 3, 128, .inl k_word))]) := by
  refine kr_of (by decide) (Or.inr ⟨_, rfl⟩) [(0, .ref u.2)] (Nat.le_of_ble_eq_true rfl) rfl ?_
  intro M e1 e2 K0 hcl hsl hX Rt
  subst e1 e2
  have K := kK_up K0 (n := 0) (k := 0) (Nat.zero_le _) (Nat.zero_le _)
  refine q_aload_n K 0 dJ1_toChars_9d188_0 rfl ?_
  refine q_stlen K hX dJ1_toChars_9d188_1 ?_
  refine q_newc (N := 128) K (by decide) rfl (by decide) (by rw [hcl]; decide) (by rw [hsl]; decide) dJ1_toChars_9d188_2 (fun a => ?_)
  have K := kK_up K0 (n := 1) (k := 128) (by rw [hcl]; decide) (by rw [hsl]; decide)
  refine q_astore_n (lv' := [(1, .ref a), (0, .ref u.2)]) K dJ1_toChars_9d188_4 (by decide) rfl ?_
  refine q_aload_n K 1 dJ1_toChars_9d188_5 rfl ?_
  refine q_iconst 0 K dJ1_toChars_9d188_6 rfl ?_
  refine q_aload_n K 0 dJ1_toChars_9d188_7 rfl ?_
  refine q_iconst 0 K dJ1_toChars_9d188_8 rfl ?_
  refine q_aload_n K 1 dJ1_toChars_9d188_9 rfl ?_
  refine q_stlen K hX dJ1_toChars_9d188_10 ?_
  refine q_cnS (As := [.ref u.2, .int 0, .ref a, .int 0, .int 128]) (rest := []) K hX (c_inflate (k_l M) (k_Z M) u a) ks_inflate [] [] rfl ml_J1_13 rfl rfl (Nat.le_of_ble_eq_true rfl) ⟨Nat.le_of_ble_eq_true rfl, Nat.le_of_ble_eq_true rfl⟩ (by rw [hcl]; decide) (by rw [hsl]; decide) dJ1_toChars_9d188_11 (fun w2 h => ?_)
  obtain rfl := h
  refine q_aload_n K 0 dJ1_toChars_9d188_14 rfl ?_
  exact Rt _ _ a _ dJ1_toChars_9d188_15 rfl
set_option maxHeartbeats 4000000 in
set_option maxRecDepth 100000 in
theorem c_toCharArray (l : Launch) (Z : kz_Z) (u : Nat × Nat) : KR l Z u yJ0_toCharArray_70df3 cJ0_toCharArray_70df3 1 (.array .char) 2 46 1 128 [.ref u.1] [] (fun a w2 => w2 = [(a, .inl (Z.2.1 3, 128, .inl k_word))]) := by
  refine kr_of (by decide) (Or.inr ⟨_, rfl⟩) [(0, .ref u.1)] (Nat.le_of_ble_eq_true rfl) rfl ?_
  intro M e1 e2 K0 hcl hsl hX Rt
  subst e1 e2
  have K := kK_up K0 (n := 0) (k := 0) (Nat.zero_le _) (Nat.zero_le _)
  refine q_aload_n K 0 dJ0_toCharArray_70df3_0 rfl ?_
  refine q_cxI (rest := []) K hX (c_isLatin1 (k_l M) (k_Z M) u) rfl kv_isLatin1 ml_J0_492 (Nat.le_of_ble_eq_true rfl) ⟨Nat.le_of_ble_eq_true rfl, Nat.le_of_ble_eq_true rfl⟩ dJ0_toCharArray_70df3_1 (fun r w2 h => ?_)
  obtain ⟨rfl, rfl⟩ := h
  refine q_if_eq 17 K dJ0_toCharArray_70df3_4 (by decide) (fun c_0 => absurd c_0 (by decide)) (fun _ => ?_)
  refine q_aload_n K 0 dJ0_toCharArray_70df3_7 rfl ?_
  refine q_value K hX fl_J0_9 dJ0_toCharArray_70df3_8 ?_
  refine q_crS (As := [.ref u.2]) (rest := []) K hX (c_toChars (k_l M) (k_Z M) u) ks_toChars ml_J0_299 rfl rfl (Nat.le_of_ble_eq_true rfl) ⟨Nat.le_of_ble_eq_true rfl, Nat.le_of_ble_eq_true rfl⟩ (by rw [hcl]; decide) (by rw [hsl]; decide) dJ0_toCharArray_70df3_11 (fun a w2 h => ?_)
  obtain rfl := h
  have K := kK_up K0 (n := 1) (k := 128) (by rw [hcl]; decide) (by rw [hsl]; decide)
  refine q_goto 24 K dJ0_toCharArray_70df3_14 (by decide) ?_
  exact Rt _ _ a _ dJ0_toCharArray_70df3_24 rfl
