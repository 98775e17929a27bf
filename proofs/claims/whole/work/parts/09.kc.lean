section KC
variable {l : Launch} {Z : kz_Z} {y : MethodName} {cc : ByteArray} {nL : Nat} {fr lo : Nat} {av : List Value} {w : va_W}
theorem ki_of {ty : FieldType} {Post : Int32 → va_W → Prop} (hy : plainName y.cls = true) (lv0 : List (Nat × Value)) (hav : (lg_sl av).length ≤ nL) (hlv : lv_args 0 av = lv0)
    (body : ∀ M : kT, k_l M = l → k_Z M = Z → kK M cc nL y.cls fr lo → (∀ (pc : Nat) (lv : List (Nat × Value)) (v : Int32) (w' : va_W), decode cc pc = .ok (.ireturn, 1) → narrow ty (.int v) = .int v → Post v w' → kJ M nL pc lv [.int v] w') → kJ M nL 0 lv0 [] w) : KI l Z y cc nL ty fr lo av w Post := by
  intro sz
  refine Met.ofW (cc := cc) (maxL := nL) (ret := some ty) hy rfl ?_
  intro p e s m args below meth c s₁ B hml hv
  obtain ⟨rfl, hsz, hP, hK, hD0, hS0⟩ := hv
  subst hsz
  have hts := atoms_spec (ws := .code y cc nL (some ty) :: tw_T) B.pre
  have hl := lv_entry av (n := nL) hav
  rw [hlv] at hl
  rw [lg_entry_eq]
  refine body ((p, l, e, { frames := fr, cells := 0, slots := 0, locals := lo }, s), (m, av.toArray, below, meth, c), (va_A w s.heap.size, _, Z, 0, 0)) rfl rfl ⟨B.exec, B.bytes, hml, findClass_of_methodNamed B.named, fun w9 h9 => hts w9 (List.mem_cons_of_mem _ h9), hK, fun q h => Or.inr h, hS0, ⟨rfl, rfl⟩, Nat.le_refl 0, Nat.le_refl 0⟩ ?_ s.heap [] _ hP (hD0.self) va_S.rf hl
  intro pc lv v w' hdg hn hp H locs ls hP hD hS hl
  exact W.zret B.exec B.bytes B.returns hn (fun t ht hW => ⟨⟨v, w', rfl, hp, ⟨by rw [ht]; exact hP, va_K.moved hW.alike hK, hD⟩⟩, hS.F ht⟩) hS.2.2 hdg B.notSynchronized
theorem kv_of {Post : va_W → Prop} (hy : plainName y.cls = true) (lv0 : List (Nat × Value)) (hav : (lg_sl av).length ≤ nL) (hlv : lv_args 0 av = lv0)
    (body : ∀ M : kT, k_l M = l → k_Z M = Z → kK M cc nL y.cls fr lo → (∀ (pc : Nat) (lv : List (Nat × Value)) (w' : va_W), decode cc pc = .ok (.return_, 1) → Post w' → kJ M nL pc lv [] w') → kJ M nL 0 lv0 [] w) : KV l Z y cc nL fr lo av w Post := by
  intro sz
  refine Met.ofW (cc := cc) (maxL := nL) (ret := none) hy rfl ?_
  intro p e s m args below meth c s₁ B hml hv
  obtain ⟨rfl, hsz, hP, hK, hD0, hS0⟩ := hv
  subst hsz
  have hts := atoms_spec (ws := .code y cc nL none :: tw_T) B.pre
  have hl := lv_entry av (n := nL) hav
  rw [hlv] at hl
  rw [lg_entry_eq]
  refine body ((p, l, e, { frames := fr, cells := 0, slots := 0, locals := lo }, s), (m, av.toArray, below, meth, c), (va_A w s.heap.size, _, Z, 0, 0)) rfl rfl ⟨B.exec, B.bytes, hml, findClass_of_methodNamed B.named, fun w9 h9 => hts w9 (List.mem_cons_of_mem _ h9), hK, fun q h => Or.inr h, hS0, ⟨rfl, rfl⟩, Nat.le_refl 0, Nat.le_refl 0⟩ ?_ s.heap [] _ hP (hD0.self) va_S.rf hl
  intro pc lv w' hdg hp H locs ls hP hD hS hl
  exact W.vret B.exec B.bytes B.returns (fun t ht hW => ⟨⟨w', rfl, hp, ⟨by rw [ht]; exact hP, va_K.moved hW.alike hK, hD⟩⟩, hS.F ht⟩) hS.2.2 hdg B.notSynchronized
theorem kl_of {Post : Int64 → va_W → Prop} (hy : plainName y.cls = true) (lv0 : List (Nat × Value)) (hav : (lg_sl av).length ≤ nL) (hlv : lv_args 0 av = lv0)
    (body : ∀ M : kT, k_l M = l → k_Z M = Z → kK M cc nL y.cls fr lo → (∀ (pc : Nat) (lv : List (Nat × Value)) (v : Int64) (w' : va_W), decode cc pc = .ok (.lreturn, 1) → Post v w' → kJ M nL pc lv [.long v] w') → kJ M nL 0 lv0 [] w) : KL l Z y cc nL fr lo av w Post := by
  intro sz
  refine Met.ofW (cc := cc) (maxL := nL) (ret := some .long) hy rfl ?_
  intro p e s m args below meth c s₁ B hml hv
  obtain ⟨rfl, hsz, hP, hK, hD0, hS0⟩ := hv
  subst hsz
  have hts := atoms_spec (ws := .code y cc nL (some .long) :: tw_T) B.pre
  have hl := lv_entry av (n := nL) hav
  rw [hlv] at hl
  rw [lg_entry_eq]
  refine body ((p, l, e, { frames := fr, cells := 0, slots := 0, locals := lo }, s), (m, av.toArray, below, meth, c), (va_A w s.heap.size, _, Z, 0, 0)) rfl rfl ⟨B.exec, B.bytes, hml, findClass_of_methodNamed B.named, fun w9 h9 => hts w9 (List.mem_cons_of_mem _ h9), hK, fun q h => Or.inr h, hS0, ⟨rfl, rfl⟩, Nat.le_refl 0, Nat.le_refl 0⟩ ?_ s.heap [] _ hP (hD0.self) va_S.rf hl
  intro pc lv v w' hdg hp H locs ls hP hD hS hl
  exact W.lret B.exec B.bytes B.returns (fun t ht hW => ⟨⟨v, w', rfl, hp, ⟨by rw [ht]; exact hP, va_K.moved hW.alike hK, hD⟩⟩, hS.F ht⟩) hS.2.2 hdg B.notSynchronized
end KC
/-- what the tables say of an instance method, of a static one -/
def k_iv (y : MethodName) (cy : ByteArray) (nLy : Nat) (rt : Option FieldType) (n : Nat) : Prop := (Cond.instanceMethod y ∈ tw_T ∧ Cond.selects y.cls y y ∈ tw_T) ∧ Cond.initialized y.cls ∈ tw_T ∧ Cond.code y cy nLy rt ∈ tw_T ∧ (y.cls ≠ "java/lang/invoke/MethodHandle" ∧ y.cls ≠ "java/lang/invoke/VarHandle" ∧ (parseMethodDescriptor y.desc).map (fun d => d.parameters.length) = some n)
def k_is (y : MethodName) (cy : ByteArray) (nLy : Nat) (rt : Option FieldType) (n : Nat) : Prop := Cond.static y ∈ tw_T ∧ Cond.initialized y.cls ∈ tw_T ∧ Cond.code y cy nLy rt ∈ tw_T ∧ (y.cls ≠ "java/lang/invoke/MethodHandle" ∧ y.cls ≠ "java/lang/invoke/VarHandle" ∧ (parseMethodDescriptor y.desc).map (fun d => d.parameters.length) = some n)
theorem k_good {y : MethodName} {cy : ByteArray} {nLy : Nat} {rt : Option FieldType} (h : Cond.code y cy nLy rt ∈ tw_T) : GoodIn tw_T (.code y cy nLy rt :: tw_T) := fun w hw => by
  have h9 : w ∈ tw_T := by
    rcases List.mem_cons.mp hw with e | e
    · rw [e]; exact h
    · exact e
  exact ⟨h9, good_of_word (tw_good w h9)⟩
section KD
variable {M : kT} {cc cy : ByteArray} {nL nLy : Nat} {own : String} {fr lo frY loY pc i n b : Nat} {lv : List (Nat × Value)} {st rest As : List Value} {ws wc : va_W} {y : MethodName}
theorem k_enter (X Y : va_W) (hws : ws = X ++ (wc ++ Y)) {H : Heap} {locs : List Loc} (hK : va_K (k_Z M).1 vwCl (k_ty (k_Z M)) (k_s M)) (hZ : k_S (k_Z M) (k_W M) (k_s M) (k_s M).heap) (hA : ∀ q, (k_s M).heap.size ≤ q → k_W M q) (hP : va_P (k_Z M).1 vwCl ws H) (hD : va_D (k_W M) ws) (hS : va_S (k_W M) (k_s M).heap H locs) :
    (∀ q, va_A wc H.size q → k_W M q) ∧ ∀ U : State, U.heap = H → (k_s M).WarmedH U.vm → kc_P (k_Z M) H.size wc U := by
  subst hws
  have hF : ∀ q, va_A wc H.size q → k_W M q := fun q h => by
    rcases k_A.mp h with ⟨e, h⟩ | h
    · exact (k_D.mp hD).2 (q, e) (List.mem_append_right _ (List.mem_append_left _ h))
    · exact hA q (Nat.le_trans hS.1 h)
  refine ⟨hF, fun U hU hW => ⟨by rw [hU], by rw [hU]; exact k_P.mpr fun q hq => k_P.mp hP q (List.mem_append_right _ (List.mem_append_left _ hq)), va_K.moved hW.alike hK, ?_, ?_⟩⟩
  · obtain ⟨h1, -⟩ := k_D.mp hD
    exact k_D.mpr ⟨(List.pairwise_append.mp (List.pairwise_append.mp h1).2.1).1, fun _ _ => trivial⟩
  · rw [hU]
    exact ((hZ.kept (fun a h1 h2 => hS.2.1 a h1 h2)).narrow hF).moved hW.alike
theorem q_cvI {ty : FieldType} {Post : Int32 → va_W → Prop} {ci q0 : Nat} {fs : List Value} {T : u_T} {N : Nat} (K : kK M cc nL own fr lo) (I : k_iv y cy nLy (some ty) n) (hM : KI (k_l M) (k_Z M) y cy nLy ty frY loY (.ref b :: As) wc Post) (X Y : va_W) (hws : ws = X ++ (wc ++ Y)) (hb9 : wc[q0]? = some (b, .inr (ci, fs))) (hc9 : vwCl[ci]? = some (y.cls, T, N)) (hlk : Cond.methodLink own i y ∈ tw_T) (hn : As.length = n) (hst : st = As.reverse ++ .ref b :: rest) (hrm : (rest.map fun v => v.category).sum ≤ 8) (hR : frY + 1 ≤ fr ∧ 8 + (nLy + 11) + loY ≤ lo) (hdg : decode cc pc = .ok (.invokevirtual i, 3))
    (kk : ∀ (r : Int32) (w' : va_W), Post r w' → kJ M nL (pc + 3) lv (.int r :: rest) (X ++ (w' ++ Y))) : kJ M nL pc lv st ws := fun H locs ls hP hD hS hl => by
  obtain ⟨hx, hb, hml, ho, ht, hK, hA, hZ, ⟨hf, hl9⟩, hcs, hsl⟩ := K
  obtain ⟨⟨i1, i2⟩, i3, i4, i5, i6, i7⟩ := I
  obtain ⟨hF, hU⟩ := k_enter X Y hws hK hZ hA hP hD hS
  have hPc : va_P (k_Z M).1 vwCl wc H := by
    rw [hws] at hP
    exact k_P.mpr fun q hq => k_P.mp hP q (List.mem_append_right _ (List.mem_append_left _ hq))
  have cb : CallW (k_R M) (k_s M) (k_a M) own y.cls i y cy nLy (some ty) (.code y cy nLy (some ty) :: tw_T) { frames := frY, cells := 0, slots := 0, locals := loY } 0 0 n := ⟨callB_of n ht (k_good i4) rfl rfl rfl (ht _ i3) (ht _ hlk) ⟨i5, i6, i7⟩ ⟨by rw [hf]; exact hR.1, by rw [hl9]; exact hR.2⟩, ht _ i1, ht _ i2⟩
  subst hst
  refine va_calli (va_runV (As := As) (rest := rest) ⟨hx, hb, hml, ho, ht⟩ (hM H.size) cb ⟨kc_blind, va_recv hK hPc hc9 hb9, fun U h1 h2 => ⟨rfl, hU U h1 h2⟩⟩ rfl hn hl.1 rfl (lv_room hrm) hdg ⟨hcs, hsl⟩) hS (fun q _ h => hF q h) hF (fun r w' t H1 locs1 ht9 hvm hp hB hz hk hS1 => ?_)
  obtain ⟨hP1, hK1, hD1⟩ := hB
  rw [ht9] at hP1
  rw [hws] at hP hD
  obtain ⟨hP2, hD2⟩ := k_fr hP hD hk hF hP1 hD1
  exact kk r w' hp H1 locs1 ls hP2 hD2 hS1 hl
theorem q_csI {ty : FieldType} {Post : Int32 → va_W → Prop} (K : kK M cc nL own fr lo) (I : k_is y cy nLy (some ty) n) (hM : KI (k_l M) (k_Z M) y cy nLy ty frY loY As wc Post) (X Y : va_W) (hws : ws = X ++ (wc ++ Y)) (hlk : Cond.methodLink own i y ∈ tw_T) (hn : As.length = n) (hst : st = As.reverse ++ rest) (hrm : (rest.map fun v => v.category).sum ≤ 8) (hR : frY + 1 ≤ fr ∧ 8 + (nLy + 11) + loY ≤ lo) (hdg : decode cc pc = .ok (.invokestatic i, 3))
    (kk : ∀ (r : Int32) (w' : va_W), Post r w' → kJ M nL (pc + 3) lv (.int r :: rest) (X ++ (w' ++ Y))) : kJ M nL pc lv st ws := fun H locs ls hP hD hS hl => by
  obtain ⟨hx, hb, hml, ho, ht, hK, hA, hZ, ⟨hf, hl9⟩, hcs, hsl⟩ := K
  obtain ⟨i1, i3, i4, i5, i6, i7⟩ := I
  obtain ⟨hF, hU⟩ := k_enter X Y hws hK hZ hA hP hD hS
  have cb : CallB (k_R M) (k_s M) (k_a M) own i y cy nLy (some ty) (.code y cy nLy (some ty) :: tw_T) { frames := frY, cells := 0, slots := 0, locals := loY } 0 0 n := callB_of n ht (k_good i4) rfl rfl rfl (ht _ i3) (ht _ hlk) ⟨i5, i6, i7⟩ ⟨by rw [hf]; exact hR.1, by rw [hl9]; exact hR.2⟩
  subst hst
  refine va_calli (va_runS (As := As) (rest := rest) ⟨hx, hb, hml, ho, ht⟩ (hM H.size) ⟨cb, ht _ i1⟩ ⟨kc_blind, fun U h1 h2 => ⟨rfl, hU U h1 h2⟩⟩ rfl hn hl.1 rfl (lv_room hrm) hdg ⟨hcs, hsl⟩) hS (fun q _ h => hF q h) hF (fun r w' t H1 locs1 ht9 hvm hp hB hz hk hS1 => ?_)
  obtain ⟨hP1, hK1, hD1⟩ := hB
  rw [ht9] at hP1
  rw [hws] at hP hD
  obtain ⟨hP2, hD2⟩ := k_fr hP hD hk hF hP1 hD1
  exact kk r w' hp H1 locs1 ls hP2 hD2 hS1 hl
theorem q_cvL {Post : Int64 → va_W → Prop} {ci q0 : Nat} {fs : List Value} {T : u_T} {N : Nat} (K : kK M cc nL own fr lo) (I : k_iv y cy nLy (some .long) n) (hM : KL (k_l M) (k_Z M) y cy nLy frY loY (.ref b :: As) wc Post) (X Y : va_W) (hws : ws = X ++ (wc ++ Y)) (hb9 : wc[q0]? = some (b, .inr (ci, fs))) (hc9 : vwCl[ci]? = some (y.cls, T, N)) (hlk : Cond.methodLink own i y ∈ tw_T) (hn : As.length = n) (hst : st = As.reverse ++ .ref b :: rest) (hrm : (rest.map fun v => v.category).sum ≤ 8) (hR : frY + 1 ≤ fr ∧ 8 + (nLy + 11) + loY ≤ lo) (hdg : decode cc pc = .ok (.invokevirtual i, 3))
    (kk : ∀ (r : Int64) (w' : va_W), Post r w' → kJ M nL (pc + 3) lv (.long r :: rest) (X ++ (w' ++ Y))) : kJ M nL pc lv st ws := fun H locs ls hP hD hS hl => by
  obtain ⟨hx, hb, hml, ho, ht, hK, hA, hZ, ⟨hf, hl9⟩, hcs, hsl⟩ := K
  obtain ⟨⟨i1, i2⟩, i3, i4, i5, i6, i7⟩ := I
  obtain ⟨hF, hU⟩ := k_enter X Y hws hK hZ hA hP hD hS
  have hPc : va_P (k_Z M).1 vwCl wc H := by
    rw [hws] at hP
    exact k_P.mpr fun q hq => k_P.mp hP q (List.mem_append_right _ (List.mem_append_left _ hq))
  have cb : CallW (k_R M) (k_s M) (k_a M) own y.cls i y cy nLy (some .long) (.code y cy nLy (some .long) :: tw_T) { frames := frY, cells := 0, slots := 0, locals := loY } 0 0 n := ⟨callB_of n ht (k_good i4) rfl rfl rfl (ht _ i3) (ht _ hlk) ⟨i5, i6, i7⟩ ⟨by rw [hf]; exact hR.1, by rw [hl9]; exact hR.2⟩, ht _ i1, ht _ i2⟩
  subst hst
  refine va_calll (va_runV (As := As) (rest := rest) ⟨hx, hb, hml, ho, ht⟩ (hM H.size) cb ⟨kc_blind, va_recv hK hPc hc9 hb9, fun U h1 h2 => ⟨rfl, hU U h1 h2⟩⟩ rfl hn hl.1 rfl (lv_room hrm) hdg ⟨hcs, hsl⟩) hS (fun q _ h => hF q h) hF (fun r w' t H1 locs1 ht9 hvm hp hB hz hk hS1 => ?_)
  obtain ⟨hP1, hK1, hD1⟩ := hB
  rw [ht9] at hP1
  rw [hws] at hP hD
  obtain ⟨hP2, hD2⟩ := k_fr hP hD hk hF hP1 hD1
  exact kk r w' hp H1 locs1 ls hP2 hD2 hS1 hl
theorem q_csL {Post : Int64 → va_W → Prop} (K : kK M cc nL own fr lo) (I : k_is y cy nLy (some .long) n) (hM : KL (k_l M) (k_Z M) y cy nLy frY loY As wc Post) (X Y : va_W) (hws : ws = X ++ (wc ++ Y)) (hlk : Cond.methodLink own i y ∈ tw_T) (hn : As.length = n) (hst : st = As.reverse ++ rest) (hrm : (rest.map fun v => v.category).sum ≤ 8) (hR : frY + 1 ≤ fr ∧ 8 + (nLy + 11) + loY ≤ lo) (hdg : decode cc pc = .ok (.invokestatic i, 3))
    (kk : ∀ (r : Int64) (w' : va_W), Post r w' → kJ M nL (pc + 3) lv (.long r :: rest) (X ++ (w' ++ Y))) : kJ M nL pc lv st ws := fun H locs ls hP hD hS hl => by
  obtain ⟨hx, hb, hml, ho, ht, hK, hA, hZ, ⟨hf, hl9⟩, hcs, hsl⟩ := K
  obtain ⟨i1, i3, i4, i5, i6, i7⟩ := I
  obtain ⟨hF, hU⟩ := k_enter X Y hws hK hZ hA hP hD hS
  have cb : CallB (k_R M) (k_s M) (k_a M) own i y cy nLy (some .long) (.code y cy nLy (some .long) :: tw_T) { frames := frY, cells := 0, slots := 0, locals := loY } 0 0 n := callB_of n ht (k_good i4) rfl rfl rfl (ht _ i3) (ht _ hlk) ⟨i5, i6, i7⟩ ⟨by rw [hf]; exact hR.1, by rw [hl9]; exact hR.2⟩
  subst hst
  refine va_calll (va_runS (As := As) (rest := rest) ⟨hx, hb, hml, ho, ht⟩ (hM H.size) ⟨cb, ht _ i1⟩ ⟨kc_blind, fun U h1 h2 => ⟨rfl, hU U h1 h2⟩⟩ rfl hn hl.1 rfl (lv_room hrm) hdg ⟨hcs, hsl⟩) hS (fun q _ h => hF q h) hF (fun r w' t H1 locs1 ht9 hvm hp hB hz hk hS1 => ?_)
  obtain ⟨hP1, hK1, hD1⟩ := hB
  rw [ht9] at hP1
  rw [hws] at hP hD
  obtain ⟨hP2, hD2⟩ := k_fr hP hD hk hF hP1 hD1
  exact kk r w' hp H1 locs1 ls hP2 hD2 hS1 hl
theorem q_cvV {Post : va_W → Prop} {ci q0 : Nat} {fs : List Value} {T : u_T} {N : Nat} (K : kK M cc nL own fr lo) (I : k_iv y cy nLy none n) (hM : KV (k_l M) (k_Z M) y cy nLy frY loY (.ref b :: As) wc Post) (X Y : va_W) (hws : ws = X ++ (wc ++ Y)) (hb9 : wc[q0]? = some (b, .inr (ci, fs))) (hc9 : vwCl[ci]? = some (y.cls, T, N)) (hlk : Cond.methodLink own i y ∈ tw_T) (hn : As.length = n) (hst : st = As.reverse ++ .ref b :: rest) (hrm : (rest.map fun v => v.category).sum ≤ 8) (hR : frY + 1 ≤ fr ∧ 8 + (nLy + 11) + loY ≤ lo) (hdg : decode cc pc = .ok (.invokevirtual i, 3))
    (kk : ∀ (w' : va_W), Post w' → kJ M nL (pc + 3) lv (rest) (X ++ (w' ++ Y))) : kJ M nL pc lv st ws := fun H locs ls hP hD hS hl => by
  obtain ⟨hx, hb, hml, ho, ht, hK, hA, hZ, ⟨hf, hl9⟩, hcs, hsl⟩ := K
  obtain ⟨⟨i1, i2⟩, i3, i4, i5, i6, i7⟩ := I
  obtain ⟨hF, hU⟩ := k_enter X Y hws hK hZ hA hP hD hS
  have hPc : va_P (k_Z M).1 vwCl wc H := by
    rw [hws] at hP
    exact k_P.mpr fun q hq => k_P.mp hP q (List.mem_append_right _ (List.mem_append_left _ hq))
  have cb : CallW (k_R M) (k_s M) (k_a M) own y.cls i y cy nLy none (.code y cy nLy none :: tw_T) { frames := frY, cells := 0, slots := 0, locals := loY } 0 0 n := ⟨callB_of n ht (k_good i4) rfl rfl rfl (ht _ i3) (ht _ hlk) ⟨i5, i6, i7⟩ ⟨by rw [hf]; exact hR.1, by rw [hl9]; exact hR.2⟩, ht _ i1, ht _ i2⟩
  subst hst
  refine va_callv (va_runV (As := As) (rest := rest) ⟨hx, hb, hml, ho, ht⟩ (hM H.size) cb ⟨kc_blind, va_recv hK hPc hc9 hb9, fun U h1 h2 => ⟨rfl, hU U h1 h2⟩⟩ rfl hn hl.1 rfl (lv_room hrm) hdg ⟨hcs, hsl⟩) hS (fun q _ h => hF q h) hF (fun w' t H1 locs1 ht9 hvm hp hB hz hk hS1 => ?_)
  obtain ⟨hP1, hK1, hD1⟩ := hB
  rw [ht9] at hP1
  rw [hws] at hP hD
  obtain ⟨hP2, hD2⟩ := k_fr hP hD hk hF hP1 hD1
  exact kk w' hp H1 locs1 ls hP2 hD2 hS1 hl
theorem q_csV {Post : va_W → Prop} (K : kK M cc nL own fr lo) (I : k_is y cy nLy none n) (hM : KV (k_l M) (k_Z M) y cy nLy frY loY As wc Post) (X Y : va_W) (hws : ws = X ++ (wc ++ Y)) (hlk : Cond.methodLink own i y ∈ tw_T) (hn : As.length = n) (hst : st = As.reverse ++ rest) (hrm : (rest.map fun v => v.category).sum ≤ 8) (hR : frY + 1 ≤ fr ∧ 8 + (nLy + 11) + loY ≤ lo) (hdg : decode cc pc = .ok (.invokestatic i, 3))
    (kk : ∀ (w' : va_W), Post w' → kJ M nL (pc + 3) lv (rest) (X ++ (w' ++ Y))) : kJ M nL pc lv st ws := fun H locs ls hP hD hS hl => by
  obtain ⟨hx, hb, hml, ho, ht, hK, hA, hZ, ⟨hf, hl9⟩, hcs, hsl⟩ := K
  obtain ⟨i1, i3, i4, i5, i6, i7⟩ := I
  obtain ⟨hF, hU⟩ := k_enter X Y hws hK hZ hA hP hD hS
  have cb : CallB (k_R M) (k_s M) (k_a M) own i y cy nLy none (.code y cy nLy none :: tw_T) { frames := frY, cells := 0, slots := 0, locals := loY } 0 0 n := callB_of n ht (k_good i4) rfl rfl rfl (ht _ i3) (ht _ hlk) ⟨i5, i6, i7⟩ ⟨by rw [hf]; exact hR.1, by rw [hl9]; exact hR.2⟩
  subst hst
  refine va_callv (va_runS (As := As) (rest := rest) ⟨hx, hb, hml, ho, ht⟩ (hM H.size) ⟨cb, ht _ i1⟩ ⟨kc_blind, fun U h1 h2 => ⟨rfl, hU U h1 h2⟩⟩ rfl hn hl.1 rfl (lv_room hrm) hdg ⟨hcs, hsl⟩) hS (fun q _ h => hF q h) hF (fun w' t H1 locs1 ht9 hvm hp hB hz hk hS1 => ?_)
  obtain ⟨hP1, hK1, hD1⟩ := hB
  rw [ht9] at hP1
  rw [hws] at hP hD
  obtain ⟨hP2, hD2⟩ := k_fr hP hD hk hF hP1 hD1
  exact kk w' hp H1 locs1 ls hP2 hD2 hS1 hl
end KD
