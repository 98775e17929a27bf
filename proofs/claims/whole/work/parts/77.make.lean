/-! MAKING CELLS: what constructors rest on, their contracts, rows -/
abbrev kM (M : kT) (n k : Nat) : kT := (M.1, M.2.1, (k_W M, k_Q M, k_Z M, n, k))
theorem kK_up {M : kT} {cc : ByteArray} {nL : Nat} {own : String} {fr lo n k : Nat} (K : kK M cc nL own fr lo) (h1 : n ≤ (k_R M).cells) (h2 : k ≤ (k_R M).slots) : kK (kM M n k) cc nL own fr lo := by
  obtain ⟨a1, a2, a3, a4, a5, a6, a7, a8, a9, -, -⟩ := K
  exact ⟨a1, a2, a3, a4, a5, a6, a7, a8, a9, h1, h2⟩
/-- the string of the words (u.1, its bytes at u.2), String's own static, words that aren't kept by calls alone -/
def k_X (u : Nat × Nat) (A : Nat → Prop) (U : State) (H : Heap) : Prop := (va_Z "java/lang/String" "COMPACT_STRINGS" "Z" (.int 1) A U H ∧ va_O "java/lang/String" u.1 A U H ∧ va_OF "java/lang/String" "coder" "B" (.int 0) u.1 A U H ∧ va_OF "java/lang/String" "value" "[B" (.ref u.2) u.1 A U H ∧ va_T .byte u.2 128 (fun j => .int (k_word j)) A U H) ∧ vk_R RX2 19 "walker  postman dog     child   strangermean    daughtershut    ajar    open    propped beasts  wind    in      back    mood    " u.1 U ∧ va_Nw (.methodLinkNest RX3 28 yX2_init RX3) U ∧ va_Nw (.methodLinkNest RX3 39 yX1_init RX3) U ∧ va_AO RX1 U ∧ va_AOA .int U
theorem k_X.enter {u : Nat × Nat} {A B : Nat → Prop} {s U : State} {H : Heap} (hW : s.WarmedH U.vm) (hq : ∀ a : Nat, a < s.heap.size → ¬ A a → H[a]? = s.heap[a]?) (hAB : ∀ q, B q → A q) (h : k_X u A s s.heap) : k_X u B U H := by
  obtain ⟨⟨h1, h2, h3, h4, h5⟩, h6, h7, h8, h9, h10⟩ := h
  exact ⟨⟨va_Z.moved hW.alike ((h1.kept hq).narrow hAB), va_O.moved hW.alike ((h2.kept hq).narrow hAB), va_OF.moved hW.alike ((h3.kept hq).narrow hAB), va_OF.moved hW.alike ((h4.kept hq).narrow hAB), va_T.moved hW.alike ((h5.kept hq).narrow hAB)⟩, h6.warm hW, h7.warmM hW, h8.warmM hW, h9.moved hW.alike, over_moved hW.alike h10⟩
theorem k_X.blind {u : Nat × Nat} {A : Nat → Prop} {U V : State} (hv : V.vm = U.vm) (hh : V.heap = U.heap) (h : k_X u A U U.heap) : k_X u A V V.heap := by
  obtain ⟨⟨h1, h2, h3, h4, h5⟩, h6, h7, h8, h9, h10⟩ := h
  have ha : U.vm.Alike V.vm := by rw [hv]; exact Vm.Alike.refl U.vm
  rw [hh]
  exact ⟨⟨va_Z.moved ha h1, va_O.moved ha h2, va_OF.moved ha h3, va_OF.moved ha h4, va_T.moved ha h5⟩, h6.same hv, va_Nw.same rfl hv.symm h7, va_Nw.same rfl hv.symm h8, h9.moved ha, over_moved ha h10⟩
def kn_P (Z : kz_Z) (u : Nat × Nat) (sz : Nat) (w : va_W) : State → Prop := fun U => kc_P Z sz w U ∧ k_X u (va_A w sz) U U.heap
theorem kn_blind {Z : kz_Z} {u : Nat × Nat} {sz : Nat} {w : va_W} {av : List Value} : FrameBlind (va_Pc av (kn_P Z u sz w)) := fun a U g mk q => by
  obtain ⟨q0, q1, qX⟩ := q
  have h := (kc_blind (Z := Z) (sz := sz) (w := w) (av := av)) a U g mk ⟨q0, q1⟩
  exact ⟨h.1, h.2, k_X.blind rfl rfl qX⟩
/-- a constructor: it makes mc cells of ms slots -/
def KN (l : Launch) (Z : kz_Z) (u : Nat × Nat) (y : MethodName) (cc : ByteArray) (nL fr lo mc ms : Nat) (av : List Value) (w : va_W) (Post : va_W → Prop) : Prop := ∀ sz : Nat, Met l y (.code y cc nL none :: tw_T) { frames := fr, cells := mc, slots := ms, locals := lo } (va_Pc av (kn_P Z u sz w)) (va_Qv Post (kc_B Z (va_A w sz)) (va_A w sz)) mc ms (va_A w sz)
/-- a method that answers with a cell that it makes -/
def KR (l : Launch) (Z : kz_Z) (u : Nat × Nat) (y : MethodName) (cc : ByteArray) (nL : Nat) (ty : FieldType) (fr lo mc ms : Nat) (av : List Value) (w : va_W) (Post : Nat → va_W → Prop) : Prop := ∀ sz : Nat, Met l y (.code y cc nL (some ty) :: tw_T) { frames := fr, cells := mc, slots := ms, locals := lo } (va_Pc av (kn_P Z u sz w)) (va_Qr (fun _ : Unit => True) (fun _ a t => ∃ w2, Post a w2 ∧ kc_B Z (va_A w sz) w2 t) (va_A w sz)) mc ms (va_A w sz)
/-- an int, with the string's facts -/
def KX (l : Launch) (Z : kz_Z) (u : Nat × Nat) (y : MethodName) (cc : ByteArray) (nL : Nat) (ty : FieldType) (fr lo : Nat) (av : List Value) (w : va_W) (Post : Int32 → va_W → Prop) : Prop := ∀ sz : Nat, Met l y (.code y cc nL (some ty) :: tw_T) { frames := fr, cells := 0, slots := 0, locals := lo } (va_Pc av (kn_P Z u sz w)) (va_Qi Post (kc_B Z (va_A w sz)) (va_A w sz)) 0 0 (va_A w sz)
section KN
variable {l : Launch} {Z : kz_Z} {u : Nat × Nat} {y : MethodName} {cc : ByteArray} {nL : Nat} {fr lo mc ms : Nat} {av : List Value} {w : va_W}
theorem kn_of {Post : va_W → Prop} (hy : plainName y.cls = true) (hyn : y.name = "<init>") (lv0 : List (Nat × Value)) (hav : (lg_sl av).length ≤ nL) (hlv : lv_args 0 av = lv0)
    (body : ∀ M : kT, k_l M = l → k_Z M = Z → kK M cc nL y.cls fr lo → (k_h M).name = "<init>" → (k_R M).cells = mc → (k_R M).slots = ms → k_X u (k_W M) (k_s M) (k_s M).heap → (∀ (pc : Nat) (lv : List (Nat × Value)) (w' : va_W), decode cc pc = .ok (.return_, 1) → Post w' → kJ (kM M mc ms) nL pc lv [] w') → kJ (kM M 0 0) nL 0 lv0 [] w) : KN l Z u y cc nL fr lo mc ms av w Post := by
  intro sz
  refine Met.ofW (cc := cc) (maxL := nL) (ret := none) hy rfl ?_
  intro p e s m args below meth c s₁ B hml hv
  obtain ⟨rfl, ⟨hsz, hP, hK, hD0, hS0⟩, hX0⟩ := hv
  subst hsz
  have hts := atoms_spec (ws := .code y cc nL none :: tw_T) B.pre
  have hl := lv_entry av (n := nL) hav
  rw [hlv] at hl
  rw [lg_entry_eq]
  refine body ((p, l, e, { frames := fr, cells := mc, slots := ms, locals := lo }, s), (m, av.toArray, below, meth, c), (va_A w s.heap.size, _, Z, 0, 0)) rfl rfl ⟨B.exec, B.bytes, hml, findClass_of_methodNamed B.named, fun w9 h9 => hts w9 (List.mem_cons_of_mem _ h9), hK, fun q h => Or.inr h, hS0, ⟨rfl, rfl⟩, Nat.zero_le _, Nat.zero_le _⟩ ((name_of_methodNamed B.named B.method).1.trans hyn) rfl rfl hX0 ?_ s.heap [] _ hP (hD0.self) va_S.rf hl
  intro pc lv w' hdg hp H locs ls hP hD hS hl
  exact W.vret B.exec B.bytes B.returns (fun t ht hW => ⟨⟨w', rfl, hp, ⟨by rw [ht]; exact hP, va_K.moved hW.alike hK, hD⟩⟩, hS.F ht⟩) hS.2.2 hdg B.notSynchronized
theorem kr_of {ty : FieldType} {Post : Nat → va_W → Prop} (hy : plainName y.cls = true) (hty : (∃ n, ty = .object n) ∨ ∃ t, ty = .array t) (lv0 : List (Nat × Value)) (hav : (lg_sl av).length ≤ nL) (hlv : lv_args 0 av = lv0)
    (body : ∀ M : kT, k_l M = l → k_Z M = Z → kK M cc nL y.cls fr lo → (k_R M).cells = mc → (k_R M).slots = ms → k_X u (k_W M) (k_s M) (k_s M).heap → (∀ (pc : Nat) (lv : List (Nat × Value)) (a : Nat) (w' : va_W), decode cc pc = .ok (.areturn, 1) → Post a w' → kJ (kM M mc ms) nL pc lv [.ref a] w') → kJ (kM M 0 0) nL 0 lv0 [] w) : KR l Z u y cc nL ty fr lo mc ms av w Post := by
  intro sz
  refine Met.ofW (cc := cc) (maxL := nL) (ret := some ty) hy rfl ?_
  intro p e s m args below meth c s₁ B hml hv
  obtain ⟨rfl, ⟨hsz, hP, hK, hD0, hS0⟩, hX0⟩ := hv
  subst hsz
  have hts := atoms_spec (ws := .code y cc nL (some ty) :: tw_T) B.pre
  have hl := lv_entry av (n := nL) hav
  rw [hlv] at hl
  rw [lg_entry_eq]
  refine body ((p, l, e, { frames := fr, cells := mc, slots := ms, locals := lo }, s), (m, av.toArray, below, meth, c), (va_A w s.heap.size, _, Z, 0, 0)) rfl rfl ⟨B.exec, B.bytes, hml, findClass_of_methodNamed B.named, fun w9 h9 => hts w9 (List.mem_cons_of_mem _ h9), hK, fun q h => Or.inr h, hS0, ⟨rfl, rfl⟩, Nat.zero_le _, Nat.zero_le _⟩ rfl rfl hX0 ?_ s.heap [] _ hP (hD0.self) va_S.rf hl
  intro pc lv a w' hdg hp H locs ls hP hD hS hl
  exact W.aret B.exec B.bytes B.returns hty (Or.inr ⟨a, rfl⟩) (fun t ht hW => ⟨⟨(), a, rfl, trivial, w', hp, ⟨by rw [ht]; exact hP, va_K.moved hW.alike hK, hD⟩⟩, hS.F ht⟩) hS.2.2 hdg B.notSynchronized
theorem kx_of {ty : FieldType} {Post : Int32 → va_W → Prop} (hy : plainName y.cls = true) (lv0 : List (Nat × Value)) (hav : (lg_sl av).length ≤ nL) (hlv : lv_args 0 av = lv0)
    (body : ∀ M : kT, k_l M = l → k_Z M = Z → kK M cc nL y.cls fr lo → k_X u (k_W M) (k_s M) (k_s M).heap → (∀ (pc : Nat) (lv : List (Nat × Value)) (v : Int32) (w' : va_W), decode cc pc = .ok (.ireturn, 1) → narrow ty (.int v) = .int v → Post v w' → kJ M nL pc lv [.int v] w') → kJ M nL 0 lv0 [] w) : KX l Z u y cc nL ty fr lo av w Post := by
  intro sz
  refine Met.ofW (cc := cc) (maxL := nL) (ret := some ty) hy rfl ?_
  intro p e s m args below meth c s₁ B hml hv
  obtain ⟨rfl, ⟨hsz, hP, hK, hD0, hS0⟩, hX0⟩ := hv
  subst hsz
  have hts := atoms_spec (ws := .code y cc nL (some ty) :: tw_T) B.pre
  have hl := lv_entry av (n := nL) hav
  rw [hlv] at hl
  rw [lg_entry_eq]
  refine body ((p, l, e, { frames := fr, cells := 0, slots := 0, locals := lo }, s), (m, av.toArray, below, meth, c), (va_A w s.heap.size, _, Z, 0, 0)) rfl rfl ⟨B.exec, B.bytes, hml, findClass_of_methodNamed B.named, fun w9 h9 => hts w9 (List.mem_cons_of_mem _ h9), hK, fun q h => Or.inr h, hS0, ⟨rfl, rfl⟩, Nat.le_refl 0, Nat.le_refl 0⟩ hX0 ?_ s.heap [] _ hP (hD0.self) va_S.rf hl
  intro pc lv v w' hdg hn hp H locs ls hP hD hS hl
  exact W.zret B.exec B.bytes B.returns hn (fun t ht hW => ⟨⟨v, w', rfl, hp, ⟨by rw [ht]; exact hP, va_K.moved hW.alike hK, hD⟩⟩, hS.F ht⟩) hS.2.2 hdg B.notSynchronized
end KN
/-- one array, its values behind n others don't count -/
theorem k_cellextq {c : ClassId} {n : Nat} {f g : Nat → Option Nat} (h : ∀ k, k < n → g k = f k) : vp_cell c (n, .inr (.inr (.inr (.inr g)))) = vp_cell c (n, .inr (.inr (.inr (.inr f)))) := by
  rw [vp_cell_q, vp_cell_q, arrV, arrV]
  congr 1
  apply Array.ext
  · simp
  · intro i h1 h2
    simp at h1
    simp [h i h1]
section KA
variable {M : kT} {cc : ByteArray} {nL : Nat} {own : String} {fr lo pc n k : Nat} {lv : List (Nat × Value)} {st : List Value} {ws : va_W}
theorem q_extq {ws' : va_W} (q0 : Nat) {a N : Nat} {c : ClassId} {f : Nat → Option Nat} (g : Nat → Option Nat) (he : ws[q0]? = some (a, .inl (c, N, .inr (.inr (.inr (.inr f)))))) (h : ∀ k, k < N → g k = f k) (hw : ws.set q0 (a, .inl (c, N, .inr (.inr (.inr (.inr g))))) = ws') (kk : kJ M nL pc lv st ws') : kJ M nL pc lv st ws := fun H locs ls hP hD hS hl => by
  subst hw
  refine kk H locs ls (hP.set hD he ?_ (fun _ _ => rfl)) (hD.set he) hS hl
  show H[a]? = some (vp_cell c (N, .inr (.inr (.inr (.inr g)))))
  rw [k_cellextq h]
  exact hP q0 _ he
theorem q_widen {n2 k2 : Nat} (h1 : n ≤ n2) (h2 : k ≤ k2) (kk : kJ (kM M n2 k2) nL pc lv st ws) : kJ (kM M n k) nL pc lv st ws := fun H locs ls hP hD hS hl => W.widen h1 h2 (kk H locs ls hP hD hS hl)
theorem q_objinit {i a : Nat} (K : kK M cc nL own fr lo) (hlk : Cond.methodLink own i objectInit ∈ tw_T) (hfr : 1 ≤ fr) (hlo : (st.map fun v => v.category).sum + 12 ≤ lo) (hdg : decode cc pc = .ok (.invokespecial i, 3)) (kk : kJ M nL (pc + 3) lv st ws) : kJ M nL pc lv (.ref a :: st) ws := fun H locs ls hP hD hS hl => by
  obtain ⟨hx, hb, hml, ho, ht, hK, -, -, ⟨hf, hl9⟩, -⟩ := K
  exact W.objInit hx hb ho (ht _ hlk) (ht _ im_objectInit) (ht _ co_objectInit) rfl (by rw [hml]; exact hl.1) rfl hdg (by rw [hf]; exact hfr) (by rw [hl9, show 2 * (F0 (k_m M) pc ls (.ref a :: st)).monitorRoom = 0 from rfl, Nat.zero_add]; exact hlo) (kk H locs ls hP hD hS hl)
theorem q_newi {v : Int32} {N : Nat} (K : kK (kM M n k) cc nL own fr lo) (hn : ¬ v < 0) (hN : v.toNatClampNeg = N) (hby : N * componentBytes .int ≤ 536870912) (hc : n + 1 ≤ (k_R M).cells) (hs : k + N ≤ (k_R M).slots) (hdg : decode cc pc = .ok (.newarray .int, 2)) (kk : ∀ q, kJ (kM M (n + 1) (k + N)) nL (pc + 2) lv (.ref q :: st) (ws ++ [(q, .inl ((k_Z M).2.1 0, N, .inl (fun _ => 0)))])) : kJ (kM M n k) nL pc lv (.int v :: st) ws := fun H locs ls hP hD hS hl => by
  obtain ⟨hx, hb, hml, ho, ht, hK, hA, -⟩ := K
  refine va_newa (atype := .int) (ty := .int) (a0 := (N, .inl (fun _ => 0))) hx hb (ht _ ac_int) rfl hK hP hD hS hA (fun cA => rfl) hn hN hby hc hs hdg (fun q cA H1 hK1 hP1 hD1 hS1 => ?_)
  have e : cA = (k_Z M).2.1 0 := Option.some.inj ((hK1.2 5 (cA, .int) rfl).2.symm.trans (hK.2 0 _ rfl).2)
  subst e
  exact kk q H1 locs ls hP1 hD1 hS1 hl
theorem q_newb {v : Int32} {N : Nat} (K : kK (kM M n k) cc nL own fr lo) (hn : ¬ v < 0) (hN : v.toNatClampNeg = N) (hby : N * componentBytes .byte ≤ 536870912) (hc : n + 1 ≤ (k_R M).cells) (hs : k + N ≤ (k_R M).slots) (hdg : decode cc pc = .ok (.newarray .byte, 2)) (kk : ∀ q, kJ (kM M (n + 1) (k + N)) nL (pc + 2) lv (.ref q :: st) (ws ++ [(q, .inl ((k_Z M).2.1 2, N, .inl (fun _ => 0)))])) : kJ (kM M n k) nL pc lv (.int v :: st) ws := fun H locs ls hP hD hS hl => by
  obtain ⟨hx, hb, hml, ho, ht, hK, hA, -⟩ := K
  refine va_newa (atype := .byte) (ty := .byte) (a0 := (N, .inl (fun _ => 0))) hx hb (ht _ ac_byte) rfl hK hP hD hS hA (fun cA => rfl) hn hN hby hc hs hdg (fun q cA H1 hK1 hP1 hD1 hS1 => ?_)
  have e : cA = (k_Z M).2.1 2 := Option.some.inj ((hK1.2 5 (cA, .byte) rfl).2.symm.trans (hK.2 2 _ rfl).2)
  subst e
  exact kk q H1 locs ls hP1 hD1 hS1 hl
theorem q_newc {v : Int32} {N : Nat} (K : kK (kM M n k) cc nL own fr lo) (hn : ¬ v < 0) (hN : v.toNatClampNeg = N) (hby : N * componentBytes .char ≤ 536870912) (hc : n + 1 ≤ (k_R M).cells) (hs : k + N ≤ (k_R M).slots) (hdg : decode cc pc = .ok (.newarray .char, 2)) (kk : ∀ q, kJ (kM M (n + 1) (k + N)) nL (pc + 2) lv (.ref q :: st) (ws ++ [(q, .inl ((k_Z M).2.1 3, N, .inl (fun _ => 0)))])) : kJ (kM M n k) nL pc lv (.int v :: st) ws := fun H locs ls hP hD hS hl => by
  obtain ⟨hx, hb, hml, ho, ht, hK, hA, -⟩ := K
  refine va_newa (atype := .char) (ty := .char) (a0 := (N, .inl (fun _ => 0))) hx hb (ht _ ac_char) rfl hK hP hD hS hA (fun cA => rfl) hn hN hby hc hs hdg (fun q cA H1 hK1 hP1 hD1 hS1 => ?_)
  have e : cA = (k_Z M).2.1 3 := Option.some.inj ((hK1.2 5 (cA, .char) rfl).2.symm.trans (hK.2 3 _ rfl).2)
  subst e
  exact kk q H1 locs ls hP1 hD1 hS1 hl
theorem q_newo {u : Nat × Nat} {i : Nat} {v : Int32} {N : Nat} (K : kK (kM M n k) cc nL own fr lo) (hX : k_X u (k_W M) (k_s M) (k_s M).heap) (hlk : Cond.classLink own i RX1 ∈ tw_T) (hn : ¬ v < 0) (hN : v.toNatClampNeg = N) (hby : N * 4 ≤ 536870912) (hc : n + 1 ≤ (k_R M).cells) (hs : k + N ≤ (k_R M).slots) (hdg : decode cc pc = .ok (.anewarray i, 3)) (kk : ∀ q, kJ (kM M (n + 1) (k + N)) nL (pc + 3) lv (.ref q :: st) (ws ++ [(q, .inl ((k_Z M).2.1 4, N, .inr (.inr (.inr (.inr (fun _ => none))))))])) : kJ (kM M n k) nL pc lv (.int v :: st) ws := fun H locs ls hP hD hS hl => by
  obtain ⟨hx, hb, hml, ho, ht, hK, hA, -⟩ := K
  refine va_newq hx hb ho (ht _ hlk) hX.2.2.2.2.1 hK hP hD hS hA hn hN hby hc hs hdg (fun q cA H1 hK1 hP1 hD1 hS1 => ?_)
  obtain ⟨kA, comp, -, -, -, e1⟩ := (hK1.2 5 (cA, .object RX1) rfl).2
  obtain ⟨kB, comp2, -, -, -, e2⟩ := (hK.2 4 _ rfl).2
  have e : cA = (k_Z M).2.1 4 := Option.some.inj (e1.symm.trans e2)
  subst e
  exact kk q H1 locs ls hP1 hD1 hS1 hl
theorem q_mna {u : Nat × Nat} {i : Nat} (K : kK (kM M n k) cc nL own fr lo) (hX : k_X u (k_W M) (k_s M) (k_s M).heap) (hlk : Cond.classLink own i "[[I" ∈ tw_T) (hc : n + 6 ≤ (k_R M).cells) (hs : k + 45 ≤ (k_R M).slots) (hdg : decode cc pc = .ok (.multianewarray i 2, 4)) (kk : ∀ (q : Nat) (r : Nat → Nat), kJ (kM M (n + 6) (k + 45)) nL (pc + 4) lv (.ref q :: st) (ws ++ [(q, .inl ((k_Z M).2.1 1, 5, .inr (.inr (.inr (.inr (fun i => if i < 5 then some (r i) else none)))))), (r 0, .inl ((k_Z M).2.1 0, 8, .inl (fun _ => 0))), (r 1, .inl ((k_Z M).2.1 0, 8, .inl (fun _ => 0))), (r 2, .inl ((k_Z M).2.1 0, 8, .inl (fun _ => 0))), (r 3, .inl ((k_Z M).2.1 0, 8, .inl (fun _ => 0))), (r 4, .inl ((k_Z M).2.1 0, 8, .inl (fun _ => 0)))])) : kJ (kM M n k) nL pc lv (.int 8 :: .int 5 :: st) ws := fun H locs ls hP hD hS hl => by
  obtain ⟨hx, hb, hml, ho, ht, hK, hA, -⟩ := K
  have hP0 : va_P (k_Z M).1 vwCl (ws ++ va_pl [] (fun _ => .inr (0, []))) H := by rw [show ws ++ va_pl [] (fun _ => .inr (0, [])) = ws from List.append_nil ws]; exact hP
  have hD0 : va_D (k_W M) (ws ++ va_pl [] (fun _ => .inr (0, []))) := by rw [show ws ++ va_pl [] (fun _ => .inr (0, [])) = ws from List.append_nil ws]; exact hD
  refine va_mna (ty := .int) (cy := (k_Z M).2.1 0) (N' := 5) (K' := 8) (z := (8, .inl (fun _ => 0))) hx hb ho (ht _ hlk) hX.2.2.2.2.2 (ht _ ac_int) (hK.2 0 _ rfl).2 hK hP0 hD0 hS hA (by decide) (by decide) rfl rfl (by decide) (by decide) (by decide) rfl rfl hc hs (fun c => rfl) hdg (fun q r cA H1 hr hnl hK1 hP1 hD1 hS1 => ?_)
  have e : cA = (k_Z M).2.1 1 := Option.some.inj ((hK1.2 5 (cA, .array .int) rfl).2.symm.trans (hK.2 1 _ rfl).2)
  subst e
  have er := vr_rows (L := []) (l := (List.range 5).map r) (f := fun _ => (.inr (0, []) : va_E)) (e := .inl ((k_Z M).2.1 0, 8, .inl (fun _ => 0))) (fun a _ => List.not_mem_nil)
  rw [← er, List.append_assoc] at hP1 hD1
  exact kk q r H1 locs ls hP1 hD1 hS1 hl
theorem q_new {C : String} {T : u_T} {N ci i : Nat} (fs : List Value) (K : kK (kM M n k) cc nL own fr lo) (hin : ∀ w ∈ u_ws C T N, w ∈ tw_T) (ty : Nat → FieldType) (hty : ∀ k, k < N → parseFieldDescriptor (T k).2.2.1 = some (ty k)) (hcl : Cond.classLink own i C ∈ tw_T) (hit : Cond.instantiable C N ∈ tw_T) (hini : Cond.initialized C ∈ tw_T) (hc9 : vwCl[ci]? = some (C, T, N)) (hfs : ∀ j, j < N → defaultValue (ty j) = vp_V fs j) (hc : n + 1 ≤ (k_R M).cells) (hs : k + N ≤ (k_R M).slots) (hdg : decode cc pc = .ok (.new i, 3)) (kk : ∀ q, kJ (kM M (n + 1) (k + N)) nL (pc + 3) lv (.ref q :: st) (ws ++ [(q, .inr (ci, fs))])) : kJ (kM M n k) nL pc lv st ws := fun H locs ls hP hD hS hl => by
  obtain ⟨hx, hb, hml, ho, ht, hK, hA, -⟩ := K
  exact va_new hx hb ht hin ty hty ho (ht _ hcl) (ht _ hit) (ht _ hini) hK hP hD hS hA hc9 hfs hc hs hdg (fun q H1 hP1 hD1 hS1 => kk q H1 locs ls hP1 hD1 hS1 hl)
/-- a field that is final, in a constructor -/
theorem q_putF {C : String} {T : u_T} {N ci i a : Nat} {fs : List Value} {ty : FieldType} {v : Value} {ws' : va_W} (K : kK M cc nL own fr lo) (hnm9 : (k_h M).name = "<init>") (hin : ∀ w ∈ u_ws C T N, w ∈ tw_T) (ty0 : Nat → FieldType) (hty : ∀ k, k < N → parseFieldDescriptor (T k).2.2.1 = some (ty0 k)) (hnm : ∀ a, a < N → ∀ b, b < N → a ≠ b → (T a).2.1 ≠ (T b).2.1) (q0 : Nat) (he : ws[q0]? = some (a, .inr (ci, fs))) (hc : vwCl[ci]? = some (C, T, N)) (k : Nat) (hk : k < N) (hlink : Cond.fieldLink own i (T k).1 (T k).2.1 (T k).2.2.1 ∈ tw_T) (hfin : (T k).2.2.2 = true) (hdecl : (T k).1 = own) (hd : parseFieldDescriptor (T k).2.2.1 = some ty) (hn : narrow ty v = v) (hfit : fits ty v = true) (hl9 : k < fs.length) (hw : ws.set q0 (a, .inr (ci, fs.set k v)) = ws') (hdg : decode cc pc = .ok (.putfield i, 3)) (kk : kJ M nL (pc + 3) lv st ws') : kJ M nL pc lv (v :: .ref a :: st) ws := fun H locs ls hP hD hS hl => by
  obtain ⟨hx, hb, -, ho, ht, hK, -⟩ := K
  subst hw
  exact va_putF hx hb ht hin ty0 hty hnm ho hK hP hD hS q0 he hc k hk (ht _ hlink) (fun _ h => h) hfin hnm9 hdecl hd hn hfit hl9 hdg (fun H1 locs1 hP1 hD1 hS1 => kk H1 locs1 ls hP1 hD1 hS1 hl)
theorem q_astore_n {j : Fin 4} {x : Nat} {lv' : List (Nat × Value)} (K : kK M cc nL own fr lo) (hdg : decode cc pc = .ok (.astore_n j, 1)) (hn : (j : Nat) < nL) (hl9 : ((j : Nat), Value.ref x) :: lv.filter (fun q => !(q.1 == (j : Nat)) && !(q.1 + 1 == (j : Nat) && q.2.category == 2)) = lv') (kk : kJ M nL (pc + 1) lv' st ws) : kJ M nL pc lv (.ref x :: st) ws := fun H locs ls hP hD hS hl => by
  obtain ⟨hx, hb, -⟩ := K
  exact lv_astore_n hx hb hdg rfl hl hn hl9 (fun ls' hl' => kk H locs ls' hP hD hS hl')
/-- a sheet into its row -/
theorem q_aast {a v N qk : Nat} {vs : List Value} {f : Nat → Option Nat} {i : Int32} {ws' : va_W} (K : kK M cc nL own fr lo) (q0 : Nat) (ha : ws[q0]? = some (a, .inl ((k_Z M).2.1 4, N, .inr (.inr (.inr (.inr f)))))) (hv : ws[qk]? = some (v, .inr (1, vs))) (hin : vp_in i N) (hw : ws.set q0 (a, .inl ((k_Z M).2.1 4, N, .inr (.inr (.inr (.inr (va_up f i.toNatClampNeg (some v))))))) = ws') (hdg : decode cc pc = .ok (.aastore, 1)) (kk : kJ M nL (pc + 1) lv st ws') : kJ M nL pc lv (.ref v :: .int i :: .ref a :: st) ws := fun H locs ls hP hD hS hl => by
  obtain ⟨hx, hb, -, ho, ht, hK, -⟩ := K
  subst hw
  exact va_astq hx hb hK hP hD hS q0 4 qk 1 (r := (RX1, TX1, 3)) ha rfl hv rfl hin hdg (fun H1 locs1 hP1 hD1 hS1 => kk H1 locs1 ls hP1 hD1 hS1 hl)
theorem k_enterX {u : Nat × Nat} {wc : va_W} (X Y : va_W) (hws : ws = X ++ (wc ++ Y)) {H : Heap} {locs : List Loc} (hK : va_K (k_Z M).1 vwCl (k_ty (k_Z M)) (k_s M)) (hZ : k_S (k_Z M) (k_W M) (k_s M) (k_s M).heap) (hX : k_X u (k_W M) (k_s M) (k_s M).heap) (hA : ∀ q, (k_s M).heap.size ≤ q → k_W M q) (hP : va_P (k_Z M).1 vwCl ws H) (hD : va_D (k_W M) ws) (hS : va_S (k_W M) (k_s M).heap H locs) :
    (∀ q, va_A wc H.size q → k_W M q) ∧ ∀ U : State, U.heap = H → (k_s M).WarmedH U.vm → kn_P (k_Z M) u H.size wc U := by
  obtain ⟨hF, hU⟩ := k_enter X Y hws hK hZ hA hP hD hS
  exact ⟨hF, fun U h1 h2 => ⟨hU U h1 h2, by rw [h1]; exact k_X.enter h2 (fun a g1 g2 => hS.2.1 a g1 g2) hF hX⟩⟩
/-- a constructor's call -/
theorem q_cn {u : Nat × Nat} {Post : va_W → Prop} {y : MethodName} {cy : ByteArray} {nLy frY loY mc ms b i : Nat} {rest : List Value} {wc : va_W} (K : kK (kM M n k) cc nL own fr lo) (hX : k_X u (k_W M) (k_s M) (k_s M).heap) (hM : KN (k_l M) (k_Z M) u y cy nLy frY loY mc ms [.ref b] wc Post) (hy1 : y.name = "<init>") (him : Cond.instanceMethod y ∈ tw_T) (hini : Cond.initialized y.cls ∈ tw_T) (hco : Cond.code y cy nLy none ∈ tw_T) (hde : y.cls ≠ "java/lang/invoke/MethodHandle" ∧ y.cls ≠ "java/lang/invoke/VarHandle" ∧ (parseMethodDescriptor y.desc).map (fun d => d.parameters.length) = some 0) (X Y : va_W) (hws : ws = X ++ (wc ++ Y)) (hlk : Cond.methodLink own i y ∈ tw_T) (hrm : (rest.map fun v => v.category).sum ≤ 8) (hR : frY + 1 ≤ fr ∧ 8 + (nLy + 11) + loY ≤ lo) (hc : n + mc ≤ (k_R M).cells) (hs : k + ms ≤ (k_R M).slots) (hdg : decode cc pc = .ok (.invokespecial i, 3))
    (kk : ∀ (w' : va_W), Post w' → kJ (kM M (n + mc) (k + ms)) nL (pc + 3) lv rest (X ++ (w' ++ Y))) : kJ (kM M n k) nL pc lv (.ref b :: rest) ws := fun H locs ls hP hD hS hl => by
  obtain ⟨hx, hb, hml, ho, ht, hK, hA, hZ, ⟨hf, hl9⟩, hcs, hsl⟩ := K
  obtain ⟨hF, hU⟩ := k_enterX X Y hws hK hZ hX hA hP hD hS
  have cb : CallB (k_R M) (k_s M) (k_a M) own i y cy nLy none (.code y cy nLy none :: tw_T) { frames := frY, cells := mc, slots := ms, locals := loY } mc ms 0 := callB_of 0 ht (k_good hco) rfl rfl rfl (ht _ hini) (ht _ hlk) hde ⟨by rw [show (k_R M).frames = fr from hf]; exact hR.1, by rw [show (k_R M).locals = lo from hl9]; exact hR.2⟩
  refine va_callv (va_runI (As := []) (rest := rest) ⟨hx, hb, hml, ho, ht⟩ (hM H.size) ⟨cb, hy1, ht _ him⟩ ⟨kn_blind, fun U h1 h2 => ⟨rfl, hU U h1 h2⟩⟩ rfl rfl hl.1 rfl (lv_room hrm) hdg ⟨hc, hs⟩) hS (fun q _ h => hF q h) hF (fun w' t H1 locs1 ht9 hvm hp hB hz hk hS1 => ?_)
  obtain ⟨hP1, hK1, hD1⟩ := hB
  rw [ht9] at hP1
  rw [hws] at hP hD
  obtain ⟨hP2, hD2⟩ := k_fr hP hD hk hF hP1 hD1
  exact kk w' hp H1 locs1 ls hP2 hD2 hS1 hl
/-- a nest mate's constructor -/
theorem q_cnN {u : Nat × Nat} {Post : va_W → Prop} {y : MethodName} {cy : ByteArray} {nLy frY loY mc ms b i : Nat} {rest : List Value} {wc : va_W} (K : kK (kM M n k) cc nL own fr lo) (hX : k_X u (k_W M) (k_s M) (k_s M).heap) (hM : KN (k_l M) (k_Z M) u y cy nLy frY loY mc ms [.ref b] wc Post) (hy1 : y.name = "<init>") (him : Cond.instanceMethod y ∈ tw_T) (hini : Cond.initialized y.cls ∈ tw_T) (hco : Cond.code y cy nLy none ∈ tw_T) (hde : y.cls ≠ "java/lang/invoke/MethodHandle" ∧ y.cls ≠ "java/lang/invoke/VarHandle" ∧ (parseMethodDescriptor y.desc).map (fun d => d.parameters.length) = some 0) (X Y : va_W) (hws : ws = X ++ (wc ++ Y)) (hlk : va_Nw (.methodLinkNest own i y RX3) (k_s M)) (hrm : (rest.map fun v => v.category).sum ≤ 8) (hR : frY + 1 ≤ fr ∧ 8 + (nLy + 11) + loY ≤ lo) (hc : n + mc ≤ (k_R M).cells) (hs : k + ms ≤ (k_R M).slots) (hdg : decode cc pc = .ok (.invokespecial i, 3))
    (kk : ∀ (w' : va_W), Post w' → kJ (kM M (n + mc) (k + ms)) nL (pc + 3) lv rest (X ++ (w' ++ Y))) : kJ (kM M n k) nL pc lv (.ref b :: rest) ws := fun H locs ls hP hD hS hl => by
  obtain ⟨hx, hb, hml, ho, ht, hK, hA, hZ, ⟨hf, hl9⟩, hcs, hsl⟩ := K
  obtain ⟨hF, hU⟩ := k_enterX X Y hws hK hZ hX hA hP hD hS
  have cb : va_CN (k_R M) (k_s M) (k_a M) own i y RX3 cy nLy none (.code y cy nLy none :: tw_T) { frames := frY, cells := mc, slots := ms, locals := loY } mc ms 0 := va_cnB 0 ht (k_good hco) rfl rfl rfl hlk (ht _ hini) hde ⟨by rw [show (k_R M).frames = fr from hf]; exact hR.1, by rw [show (k_R M).locals = lo from hl9]; exact hR.2⟩
  refine va_callv (va_runIN (As := []) (rest := rest) ⟨hx, hb, hml, ho, ht⟩ (hM H.size) ⟨cb, hy1, ht _ him⟩ ⟨kn_blind, fun U h1 h2 => ⟨rfl, hU U h1 h2⟩⟩ rfl rfl hl.1 rfl (lv_room hrm) hdg ⟨hc, hs⟩) hS (fun q _ h => hF q h) hF (fun w' t H1 locs1 ht9 hvm hp hB hz hk hS1 => ?_)
  obtain ⟨hP1, hK1, hD1⟩ := hB
  rw [ht9] at hP1
  rw [hws] at hP hD
  obtain ⟨hP2, hD2⟩ := k_fr hP hD hk hF hP1 hD1
  exact kk w' hp H1 locs1 ls hP2 hD2 hS1 hl
end KA
