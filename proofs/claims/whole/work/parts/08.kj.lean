/-! MY LAYER: a judgement over (pc, locals, stack, cells) alone; contracts of methods that make no cell -/
abbrev kz_Z : Type := va_G × (Nat → ClassId) × (Nat → Nat)
abbrev k_ty (Z : kz_Z) : List (ClassId × FieldType) := [(Z.2.1 0, .int), (Z.2.1 1, .array .int), (Z.2.1 2, .byte), (Z.2.1 3, .char), (Z.2.1 4, .object RX1)]
abbrev k_most (k : Nat) : Value := .int (match k with | 0 => 6 | 1 => 8 | 2 => 1 | 3 => 9 | _ => 9999)
abbrev k_above (k : Nat) : Value := .int (match k with | 0 => -1 | 1 => 0 | 2 => 0 | 3 => 2 | 4 => 3 | 5 => 0 | _ => 1)
/-- the class's two tables -/
def k_S (Z : kz_Z) (A : Nat → Prop) (U : State) (H : Heap) : Prop := (va_Z RX3 "MOST_OF_PART" "[I" (.ref (Z.2.2 0)) A U H ∧ va_T .int (Z.2.2 0) 5 k_most A U H) ∧ va_Z RX3 "KIND_ABOVE" "[I" (.ref (Z.2.2 1)) A U H ∧ va_T .int (Z.2.2 1) 7 k_above A U H
theorem k_S.moved {Z : kz_Z} {A : Nat → Prop} {u U : State} {H : Heap} (hvm : u.vm.Alike U.vm) (h : k_S Z A u H) : k_S Z A U H := ⟨⟨h.1.1.moved hvm, h.1.2.moved hvm⟩, h.2.1.moved hvm, h.2.2.moved hvm⟩
theorem k_S.kept {Z : kz_Z} {A : Nat → Prop} {U : State} {H H1 : Heap} (h : k_S Z A U H) (hq : ∀ a : Nat, a < H.size → ¬ A a → H1[a]? = H[a]?) : k_S Z A U H1 := ⟨⟨h.1.1.kept hq, h.1.2.kept hq⟩, h.2.1.kept hq, h.2.2.kept hq⟩
theorem k_S.narrow {Z : kz_Z} {A B : Nat → Prop} {U : State} {H : Heap} (h : k_S Z A U H) (hAB : ∀ q, B q → A q) : k_S Z B U H := ⟨⟨h.1.1.narrow hAB, h.1.2.narrow hAB⟩, h.2.1.narrow hAB, h.2.2.narrow hAB⟩
/-! worlds as lists: membership, a part of them framed -/
theorem k_P {D : va_G} {cl : List vw_C} {ws : va_W} {H : Heap} : va_P D cl ws H ↔ ∀ q ∈ ws, va_at D cl q H := ⟨fun h q hq => by obtain ⟨k, hk⟩ := List.getElem?_of_mem hq; exact h k q hk, fun h k q hk => h q (List.mem_of_getElem? hk)⟩
theorem k_D {A : Nat → Prop} {ws : va_W} : va_D A ws ↔ ws.Pairwise (fun p q => p.1 ≠ q.1) ∧ ∀ q ∈ ws, A q.1 := by
  constructor
  · intro h
    refine ⟨List.pairwise_iff_getElem.mpr fun i j hi hj hij e => ?_, fun q hq => by obtain ⟨k, hk⟩ := List.getElem?_of_mem hq; exact h.2 k q hk⟩
    have := h.1 i j _ _ (List.getElem?_eq_getElem hi) (List.getElem?_eq_getElem hj) e
    omega
  · intro h
    refine ⟨fun i j p q hi hj e => ?_, fun k q hk => h.2 q (List.mem_of_getElem? hk)⟩
    obtain ⟨h1, rfl⟩ := List.getElem?_eq_some_iff.mp hi
    obtain ⟨h2, rfl⟩ := List.getElem?_eq_some_iff.mp hj
    rcases Nat.lt_trichotomy i j with z | z | z
    · exact absurd e (List.pairwise_iff_getElem.mp h.1 i j h1 h2 z)
    · exact z
    · exact absurd e.symm (List.pairwise_iff_getElem.mp h.1 j i h2 h1 z)
theorem k_A {ws : va_W} {sz q : Nat} : va_A ws sz q ↔ (∃ e, (q, e) ∈ ws) ∨ sz ≤ q := by
  constructor
  · rintro (⟨k, e, h⟩ | h)
    · exact Or.inl ⟨e, List.mem_of_getElem? h⟩
    · exact Or.inr h
  · rintro (⟨e, h⟩ | h)
    · obtain ⟨k, hk⟩ := List.getElem?_of_mem h
      exact Or.inl ⟨k, e, hk⟩
    · exact Or.inr h
theorem k_fr {A0 : Nat → Prop} {D : va_G} {cl : List vw_C} {X wc Y w1 : va_W} {H H1 : Heap} (hP : va_P D cl (X ++ (wc ++ Y)) H) (hD : va_D A0 (X ++ (wc ++ Y)))
    (hk : ∀ q : Nat, q < H.size → ¬ va_A wc H.size q → H1[q]? = H[q]?) (hF : ∀ q, va_A wc H.size q → A0 q) (hP1 : va_P D cl w1 H1) (hD1 : va_D (va_A wc H.size) w1) :
    va_P D cl (X ++ (w1 ++ Y)) H1 ∧ va_D A0 (X ++ (w1 ++ Y)) := by
  rw [k_P] at hP hP1
  rw [k_D] at hD hD1
  obtain ⟨hp, ha⟩ := hD
  obtain ⟨hpX, hpWY, hXWY⟩ := List.pairwise_append.mp hp
  obtain ⟨hpW, hpY, hWY⟩ := List.pairwise_append.mp hpWY
  have out : ∀ q : Nat × va_E, q.1 < H.size → (∀ c ∈ wc, q.1 ≠ c.1) → ¬ va_A wc H.size q.1 := fun q h1 h2 h3 => by
    rcases k_A.mp h3 with ⟨e, h⟩ | h
    · exact h2 _ h rfl
    · omega
  have oX : ∀ q ∈ X, ¬ va_A wc H.size q.1 := fun q hq => out q ((hP q (List.mem_append_left _ hq)).lt) (fun c hc => hXWY q hq c (List.mem_append_left _ hc))
  have oY : ∀ q ∈ Y, ¬ va_A wc H.size q.1 := fun q hq => out q ((hP q (List.mem_append_right _ (List.mem_append_right _ hq))).lt) (fun c hc => (hWY c hc q hq).symm)
  constructor
  · rw [k_P]
    intro q hq
    rcases List.mem_append.mp hq with h | h
    · have h9 := hP q (List.mem_append_left _ h)
      exact h9.kept (hk _ h9.lt (oX q h))
    · rcases List.mem_append.mp h with h | h
      · exact hP1 q h
      · have h9 := hP q (List.mem_append_right _ (List.mem_append_right _ h))
        exact h9.kept (hk _ h9.lt (oY q h))
  · rw [k_D]
    refine ⟨List.pairwise_append.mpr ⟨hpX, List.pairwise_append.mpr ⟨hD1.1, hpY, fun a ha2 b hb e => ?_⟩, fun a ha2 b hb e => ?_⟩, fun q hq => ?_⟩
    · exact oY b hb (e ▸ hD1.2 a ha2)
    · rcases List.mem_append.mp hb with h | h
      · exact oX a ha2 (e ▸ hD1.2 b h)
      · exact hXWY a ha2 b (List.mem_append_right _ h) e
    · rcases List.mem_append.mp hq with h | h
      · exact ha q (List.mem_append_left _ h)
      · rcases List.mem_append.mp h with h | h
        · exact hF _ (hD1.2 q h)
        · exact ha q (List.mem_append_right _ (List.mem_append_right _ h))
/-! the judgement -/
abbrev kT : Type := (Program × Launch × Env × Room × State) × (MethodId × Array Value × List Frame × Method × Code) × ((Nat → Prop) × (State → Prop) × kz_Z × Nat × Nat)
abbrev k_p (M : kT) : Program := M.1.1
abbrev k_l (M : kT) : Launch := M.1.2.1
abbrev k_e (M : kT) : Env := M.1.2.2.1
abbrev k_R (M : kT) : Room := M.1.2.2.2.1
abbrev k_s (M : kT) : State := M.1.2.2.2.2
abbrev k_m (M : kT) : MethodId := M.2.1.1
abbrev k_a (M : kT) : Array Value := M.2.1.2.1
abbrev k_b (M : kT) : List Frame := M.2.1.2.2.1
abbrev k_h (M : kT) : Method := M.2.1.2.2.2.1
abbrev k_c (M : kT) : Code := M.2.1.2.2.2.2
abbrev k_W (M : kT) : Nat → Prop := M.2.2.1
abbrev k_Q (M : kT) : State → Prop := M.2.2.2.1
abbrev k_Z (M : kT) : kz_Z := M.2.2.2.2.1
abbrev k_n (M : kT) : Nat := M.2.2.2.2.2.1
abbrev k_k (M : kT) : Nat := M.2.2.2.2.2.2
def kJ (M : kT) (nL pc : Nat) (lv : List (Nat × Value)) (st : List Value) (ws : va_W) : Prop :=
  ∀ (H : Heap) (locs : List Loc) (ls : Array Slot), va_P (k_Z M).1 vwCl ws H → va_D (k_W M) ws → va_S (k_W M) (k_s M).heap H locs → lv_has ls nL lv →
    W (k_p M) (k_l M) (k_e M) (k_R M) (k_s M) (k_m M) (k_a M) (k_b M) (k_h M) (k_c M) H locs (k_n M) (k_k M) (k_Q M) (F0 (k_m M) pc ls st)
def kK (M : kT) (cc : ByteArray) (nL : Nat) (own : String) (fr lo : Nat) : Prop :=
  (k_p M).tables.exec = Jvm.exec ∧ (k_c M).code = cc ∧ (k_c M).maxLocals = nL ∧ (k_s M).vm.findClass own = some (k_m M).cls ∧ (∀ w ∈ tw_T, w.before (k_a M) (k_s M) = true) ∧ va_K (k_Z M).1 vwCl (k_ty (k_Z M)) (k_s M) ∧ (∀ q, (k_s M).heap.size ≤ q → k_W M q) ∧ k_S (k_Z M) (k_W M) (k_s M) (k_s M).heap ∧ ((k_R M).frames = fr ∧ (k_R M).locals = lo) ∧ k_n M ≤ (k_R M).cells ∧ k_k M ≤ (k_R M).slots
section KJ
variable {M : kT} {cc : ByteArray} {nL : Nat} {own : String} {fr lo pc : Nat} {lv : List (Nat × Value)} {st : List Value} {ws : va_W}
/-- fewer locals, in another order -/
theorem q_lv {lv' : List (Nat × Value)} (ks : List Nat) (h : lv_pick lv ks = lv') (kk : kJ M nL pc lv' st ws) : kJ M nL pc lv st ws := fun H locs ls hP hD hS hl => kk H locs ls hP hD hS (lv_sub hl ks h)
theorem q_ws {ws' : va_W} (h : ws = ws') (kk : kJ M nL pc lv st ws') : kJ M nL pc lv st ws := h ▸ kk
theorem q_st {st' : List Value} (h : st = st') (kk : kJ M nL pc lv st' ws) : kJ M nL pc lv st ws := h ▸ kk
theorem q_topi {x : Int32} (k : ∀ y : Int32, y = x → kJ M nL pc lv (.int y :: st) ws) : kJ M nL pc lv (.int x :: st) ws := k x rfl
theorem q_topl {x : Int64} (k : ∀ y : Int64, y = x → kJ M nL pc lv (.long y :: st) ws) : kJ M nL pc lv (.long x :: st) ws := k x rfl
/-- the top by another name -/
theorem q_eqi {x : Int32} (y : Int32) (h : x = y) (k : kJ M nL pc lv (.int y :: st) ws) : kJ M nL pc lv (.int x :: st) ws := h ▸ k
/-- a join: what comes behind, first -/
theorem q_cut {α : Type} (P : α → Prop) (pc2 : Nat) (lv2 : α → List (Nat × Value)) (st2 : α → List Value) (ws2 : α → va_W) (J : ∀ x, P x → kJ M nL pc2 (lv2 x) (st2 x) (ws2 x)) (k : (∀ x, P x → kJ M nL pc2 (lv2 x) (st2 x) (ws2 x)) → kJ M nL pc lv st ws) : kJ M nL pc lv st ws := k J
/-- a loop: I falls in n -/
theorem q_loop {α : Type} (I : Nat → α → Prop) (pc2 : Nat) (lv2 : α → List (Nat × Value)) (ws2 : α → va_W)
    (step : ∀ (n : Nat) (x : α), I n x → (∀ (k : Nat) (y : α), k < n → I k y → kJ M nL pc2 (lv2 y) [] (ws2 y)) → kJ M nL pc2 (lv2 x) [] (ws2 x)) : ∀ (n : Nat) (x : α), I n x → kJ M nL pc2 (lv2 x) [] (ws2 x) := by
  intro n
  induction n using Nat.strongRecOn with
  | ind n ih => exact fun x hx => step n x hx (fun k y hk hy => ih k hk y hy)
theorem q_iconst {n : Int} (v : Int32) (K : kK M cc nL own fr lo) (hdg : decode cc pc = .ok (.iconst n, 1)) (hv : Int32.ofInt n = v) (kk : kJ M nL (pc + 1) lv (.int v :: st) ws) : kJ M nL pc lv st ws := fun H locs ls hP hD hS hl => by obtain ⟨hx, hb, -⟩ := K; exact lv_iconst hx hb hdg hv (kk H locs ls hP hD hS hl)
theorem q_bipush {n : Int} (v : Int32) (K : kK M cc nL own fr lo) (hdg : decode cc pc = .ok (.bipush n, 2)) (hv : (Int8.ofInt n).toInt32 = v) (kk : kJ M nL (pc + 2) lv (.int v :: st) ws) : kJ M nL pc lv st ws := fun H locs ls hP hD hS hl => by obtain ⟨hx, hb, -⟩ := K; exact lv_bipush hx hb hdg hv (kk H locs ls hP hD hS hl)
theorem q_sipush {n : Int} (v : Int32) (K : kK M cc nL own fr lo) (hdg : decode cc pc = .ok (.sipush n, 3)) (hv : (Int16.ofInt n).toInt32 = v) (kk : kJ M nL (pc + 3) lv (.int v :: st) ws) : kJ M nL pc lv st ws := fun H locs ls hP hD hS hl => by obtain ⟨hx, hb, -⟩ := K; exact lv_sipush hx hb hdg hv (kk H locs ls hP hD hS hl)
theorem q_lconst {n : Fin 2} (v : Int64) (K : kK M cc nL own fr lo) (hdg : decode cc pc = .ok (.lconst n, 1)) (hv : Int64.ofNat (n : Nat) = v) (kk : kJ M nL (pc + 1) lv (.long v :: st) ws) : kJ M nL pc lv st ws := fun H locs ls hP hD hS hl => by obtain ⟨hx, hb, -⟩ := K; exact lv_lconst hx hb hdg hv (kk H locs ls hP hD hS hl)
theorem q_ldc {i : Nat} {v : Int32} (K : kK M cc nL own fr lo) (hdg : decode cc pc = .ok (.ldc i, 2)) (hw : Cond.constant own i v ∈ tw_T) (kk : kJ M nL (pc + 2) lv (.int v :: st) ws) : kJ M nL pc lv st ws := fun H locs ls hP hD hS hl => by obtain ⟨hx, hb, -, ho, ht, -⟩ := K; exact lv_ldc hx hb ho (ht _ hw) hdg (kk H locs ls hP hD hS hl)
theorem q_ldc2 {i : Nat} {v : Int64} (K : kK M cc nL own fr lo) (hdg : decode cc pc = .ok (.ldc2_w i, 3)) (hw : Cond.constantLong own i v ∈ tw_T) (kk : kJ M nL (pc + 3) lv (.long v :: st) ws) : kJ M nL pc lv st ws := fun H locs ls hP hD hS hl => by obtain ⟨hx, hb, -, ho, ht, -⟩ := K; exact lv_ldc2 hx hb ho (ht _ hw) hdg (kk H locs ls hP hD hS hl)
theorem q_iload_n {k : Fin 4} {x : Int32} (K : kK M cc nL own fr lo) (j : Nat) (hdg : decode cc pc = .ok (.iload_n k, 1)) (hj : lv[j]? = some ((k : Nat), .int x)) (kk : kJ M nL (pc + 1) lv (.int x :: st) ws) : kJ M nL pc lv st ws := fun H locs ls hP hD hS hl => by obtain ⟨hx, hb, -⟩ := K; exact lv_iload_n hx hb hdg rfl (lv_at hl j hj) (kk H locs ls hP hD hS hl)
theorem q_iload {i : Nat} {x : Int32} (K : kK M cc nL own fr lo) (j : Nat) (hdg : decode cc pc = .ok (.iload i, 2)) (hj : lv[j]? = some (i, .int x)) (kk : kJ M nL (pc + 2) lv (.int x :: st) ws) : kJ M nL pc lv st ws := fun H locs ls hP hD hS hl => by obtain ⟨hx, hb, -⟩ := K; exact lv_iload hx hb hdg (lv_at hl j hj) (kk H locs ls hP hD hS hl)
theorem q_lload_n {k : Fin 4} {x : Int64} (K : kK M cc nL own fr lo) (j : Nat) (hdg : decode cc pc = .ok (.lload_n k, 1)) (hj : lv[j]? = some ((k : Nat), .long x)) (kk : kJ M nL (pc + 1) lv (.long x :: st) ws) : kJ M nL pc lv st ws := fun H locs ls hP hD hS hl => by obtain ⟨hx, hb, -⟩ := K; exact lv_lload_n hx hb hdg rfl (lv_at hl j hj) (kk H locs ls hP hD hS hl)
theorem q_lload {i : Nat} {x : Int64} (K : kK M cc nL own fr lo) (j : Nat) (hdg : decode cc pc = .ok (.lload i, 2)) (hj : lv[j]? = some (i, .long x)) (kk : kJ M nL (pc + 2) lv (.long x :: st) ws) : kJ M nL pc lv st ws := fun H locs ls hP hD hS hl => by obtain ⟨hx, hb, -⟩ := K; exact lv_lload hx hb hdg (lv_at hl j hj) (kk H locs ls hP hD hS hl)
theorem q_aload_n {k : Fin 4} {x : Nat} (K : kK M cc nL own fr lo) (j : Nat) (hdg : decode cc pc = .ok (.aload_n k, 1)) (hj : lv[j]? = some ((k : Nat), .ref x)) (kk : kJ M nL (pc + 1) lv (.ref x :: st) ws) : kJ M nL pc lv st ws := fun H locs ls hP hD hS hl => by obtain ⟨hx, hb, -⟩ := K; exact lv_aload_n hx hb hdg rfl (lv_at hl j hj) (kk H locs ls hP hD hS hl)
theorem q_istore_n {k : Fin 4} {x : Int32} {lv' : List (Nat × Value)} (K : kK M cc nL own fr lo) (hdg : decode cc pc = .ok (.istore_n k, 1)) (hn : (k : Nat) < nL) (hl9 : ((k : Nat), Value.int x) :: lv.filter (fun q => !(q.1 == (k : Nat)) && !(q.1 + 1 == (k : Nat) && q.2.category == 2)) = lv') (kk : kJ M nL (pc + 1) lv' st ws) : kJ M nL pc lv (.int x :: st) ws := fun H locs ls hP hD hS hl => by obtain ⟨hx, hb, -⟩ := K; exact lv_istore_n hx hb hdg rfl hl hn hl9 (fun ls' h' => kk H locs ls' hP hD hS h')
theorem q_istore {i : Nat} {x : Int32} {lv' : List (Nat × Value)} (K : kK M cc nL own fr lo) (hdg : decode cc pc = .ok (.istore i, 2)) (hn : i < nL) (hl9 : (i, Value.int x) :: lv.filter (fun q => !(q.1 == i) && !(q.1 + 1 == i && q.2.category == 2)) = lv') (kk : kJ M nL (pc + 2) lv' st ws) : kJ M nL pc lv (.int x :: st) ws := fun H locs ls hP hD hS hl => by obtain ⟨hx, hb, -⟩ := K; exact lv_istore hx hb hdg hl hn hl9 (fun ls' h' => kk H locs ls' hP hD hS h')
theorem q_lstore_n {k : Fin 4} {x : Int64} {lv' : List (Nat × Value)} (K : kK M cc nL own fr lo) (hdg : decode cc pc = .ok (.lstore_n k, 1)) (hn : (k : Nat) + 1 < nL) (hl9 : ((k : Nat), Value.long x) :: lv.filter (fun q => !(q.1 == (k : Nat)) && (!(q.1 == (k : Nat) + 1) && !(q.1 + 1 == (k : Nat) && q.2.category == 2))) = lv') (kk : kJ M nL (pc + 1) lv' st ws) : kJ M nL pc lv (.long x :: st) ws := fun H locs ls hP hD hS hl => by obtain ⟨hx, hb, -⟩ := K; exact lv_lstore_n hx hb hdg rfl hl hn hl9 (fun ls' h' => kk H locs ls' hP hD hS h')
theorem q_lstore {i : Nat} {x : Int64} {lv' : List (Nat × Value)} (K : kK M cc nL own fr lo) (hdg : decode cc pc = .ok (.lstore i, 2)) (hn : i + 1 < nL) (hl9 : (i, Value.long x) :: lv.filter (fun q => !(q.1 == i) && (!(q.1 == i + 1) && !(q.1 + 1 == i && q.2.category == 2))) = lv') (kk : kJ M nL (pc + 2) lv' st ws) : kJ M nL pc lv (.long x :: st) ws := fun H locs ls hP hD hS hl => by obtain ⟨hx, hb, -⟩ := K; exact lv_lstore hx hb hdg hl hn hl9 (fun ls' h' => kk H locs ls' hP hD hS h')
theorem q_iinc {i : Nat} {n : Int} {x : Int32} (v : Int32) {lv' : List (Nat × Value)} (K : kK M cc nL own fr lo) (j : Nat) (hdg : decode cc pc = .ok (.iinc i n, 3)) (hj : lv[j]? = some (i, .int x)) (hv : x + Int32.ofInt n = v) (hn : i < nL) (hl9 : (i, Value.int v) :: lv.filter (fun q => !(q.1 == i) && !(q.1 + 1 == i && q.2.category == 2)) = lv') (kk : kJ M nL (pc + 3) lv' st ws) : kJ M nL pc lv st ws := fun H locs ls hP hD hS hl => by obtain ⟨hx, hb, -⟩ := K; exact lv_iinc hx hb hdg hl hj hv hn hl9 (fun ls' h' => kk H locs ls' hP hD hS h')
theorem q_iadd {x y : Int32} (K : kK M cc nL own fr lo) (hdg : decode cc pc = .ok (.iadd, 1)) (kk : kJ M nL (pc + 1) lv (.int (x + y) :: st) ws) : kJ M nL pc lv (.int y :: .int x :: st) ws := fun H locs ls hP hD hS hl => by obtain ⟨hx, hb, -⟩ := K; exact lv_iadd hx hb hdg (kk H locs ls hP hD hS hl)
theorem q_isub {x y : Int32} (K : kK M cc nL own fr lo) (hdg : decode cc pc = .ok (.isub, 1)) (kk : kJ M nL (pc + 1) lv (.int (x - y) :: st) ws) : kJ M nL pc lv (.int y :: .int x :: st) ws := fun H locs ls hP hD hS hl => by obtain ⟨hx, hb, -⟩ := K; exact lv_isub hx hb hdg (kk H locs ls hP hD hS hl)
theorem q_imul {x y : Int32} (K : kK M cc nL own fr lo) (hdg : decode cc pc = .ok (.imul, 1)) (kk : kJ M nL (pc + 1) lv (.int (x * y) :: st) ws) : kJ M nL pc lv (.int y :: .int x :: st) ws := fun H locs ls hP hD hS hl => by obtain ⟨hx, hb, -⟩ := K; exact lv_imul hx hb hdg (kk H locs ls hP hD hS hl)
theorem q_iand {x y : Int32} (K : kK M cc nL own fr lo) (hdg : decode cc pc = .ok (.iand, 1)) (kk : kJ M nL (pc + 1) lv (.int (x &&& y) :: st) ws) : kJ M nL pc lv (.int y :: .int x :: st) ws := fun H locs ls hP hD hS hl => by obtain ⟨hx, hb, -⟩ := K; exact lv_iand hx hb hdg (kk H locs ls hP hD hS hl)
theorem q_ior {x y : Int32} (K : kK M cc nL own fr lo) (hdg : decode cc pc = .ok (.ior, 1)) (kk : kJ M nL (pc + 1) lv (.int (x ||| y) :: st) ws) : kJ M nL pc lv (.int y :: .int x :: st) ws := fun H locs ls hP hD hS hl => by obtain ⟨hx, hb, -⟩ := K; exact lv_ior hx hb hdg (kk H locs ls hP hD hS hl)
theorem q_ixor {x y : Int32} (K : kK M cc nL own fr lo) (hdg : decode cc pc = .ok (.ixor, 1)) (kk : kJ M nL (pc + 1) lv (.int (x ^^^ y) :: st) ws) : kJ M nL pc lv (.int y :: .int x :: st) ws := fun H locs ls hP hD hS hl => by obtain ⟨hx, hb, -⟩ := K; exact lv_ixor hx hb hdg (kk H locs ls hP hD hS hl)
theorem q_ishl {x y : Int32} (K : kK M cc nL own fr lo) (hdg : decode cc pc = .ok (.ishl, 1)) (kk : kJ M nL (pc + 1) lv (.int (x <<< (y &&& 31)) :: st) ws) : kJ M nL pc lv (.int y :: .int x :: st) ws := fun H locs ls hP hD hS hl => by obtain ⟨hx, hb, -⟩ := K; exact lv_ishl hx hb hdg (kk H locs ls hP hD hS hl)
theorem q_ishr {x y : Int32} (K : kK M cc nL own fr lo) (hdg : decode cc pc = .ok (.ishr, 1)) (kk : kJ M nL (pc + 1) lv (.int (x >>> (y &&& 31)) :: st) ws) : kJ M nL pc lv (.int y :: .int x :: st) ws := fun H locs ls hP hD hS hl => by obtain ⟨hx, hb, -⟩ := K; exact lv_ishr hx hb hdg (kk H locs ls hP hD hS hl)
theorem q_idiv {x y : Int32} (K : kK M cc nL own fr lo) (hdg : decode cc pc = .ok (.idiv, 1)) (hne : ¬ y = 0) (kk : kJ M nL (pc + 1) lv (.int (x / y) :: st) ws) : kJ M nL pc lv (.int y :: .int x :: st) ws := fun H locs ls hP hD hS hl => by obtain ⟨hx, hb, -⟩ := K; exact lv_idiv hx hb hdg hne (kk H locs ls hP hD hS hl)
theorem q_irem {x y : Int32} (K : kK M cc nL own fr lo) (hdg : decode cc pc = .ok (.irem, 1)) (hne : ¬ y = 0) (kk : kJ M nL (pc + 1) lv (.int (x - x / y * y) :: st) ws) : kJ M nL pc lv (.int y :: .int x :: st) ws := fun H locs ls hP hD hS hl => by obtain ⟨hx, hb, -⟩ := K; exact lv_irem hx hb hdg hne (kk H locs ls hP hD hS hl)
theorem q_iushr {x y : Int32} (K : kK M cc nL own fr lo) (hdg : decode cc pc = .ok (.iushr, 1)) (kk : kJ M nL (pc + 1) lv (.int ((x.toUInt32 >>> (y.toUInt32 &&& Int32.toUInt32 31)).toInt32) :: st) ws) : kJ M nL pc lv (.int y :: .int x :: st) ws := fun H locs ls hP hD hS hl => by obtain ⟨hx, hb, -⟩ := K; exact lv_iushr hx hb hdg rfl (kk H locs ls hP hD hS hl)
theorem q_lmul {x y : Int64} (K : kK M cc nL own fr lo) (hdg : decode cc pc = .ok (.lmul, 1)) (kk : kJ M nL (pc + 1) lv (.long (x * y) :: st) ws) : kJ M nL pc lv (.long y :: .long x :: st) ws := fun H locs ls hP hD hS hl => by obtain ⟨hx, hb, -⟩ := K; exact lv_lmul hx hb hdg (kk H locs ls hP hD hS hl)
theorem q_ldiv {x y : Int64} (K : kK M cc nL own fr lo) (hdg : decode cc pc = .ok (.ldiv, 1)) (hne : ¬ y = 0) (kk : kJ M nL (pc + 1) lv (.long (x / y) :: st) ws) : kJ M nL pc lv (.long y :: .long x :: st) ws := fun H locs ls hP hD hS hl => by obtain ⟨hx, hb, -⟩ := K; exact lv_ldiv hx hb hdg hne (kk H locs ls hP hD hS hl)
theorem q_lrem {x y : Int64} (K : kK M cc nL own fr lo) (hdg : decode cc pc = .ok (.lrem, 1)) (hne : ¬ y = 0) (kk : kJ M nL (pc + 1) lv (.long (x - x / y * y) :: st) ws) : kJ M nL pc lv (.long y :: .long x :: st) ws := fun H locs ls hP hD hS hl => by obtain ⟨hx, hb, -⟩ := K; exact lv_lrem hx hb hdg hne (kk H locs ls hP hD hS hl)
theorem q_lcmp {x y : Int64} (K : kK M cc nL own fr lo) (hdg : decode cc pc = .ok (.lcmp, 1)) (kk : kJ M nL (pc + 1) lv (.int (lg_cmp x y) :: st) ws) : kJ M nL pc lv (.long y :: .long x :: st) ws := fun H locs ls hP hD hS hl => by obtain ⟨hx, hb, -⟩ := K; exact W.lcmp hx hb hdg (kk H locs ls hP hD hS hl)
theorem q_i2l {x : Int32} (K : kK M cc nL own fr lo) (hdg : decode cc pc = .ok (.i2l, 1)) (kk : kJ M nL (pc + 1) lv (.long x.toInt64 :: st) ws) : kJ M nL pc lv (.int x :: st) ws := fun H locs ls hP hD hS hl => by obtain ⟨hx, hb, -⟩ := K; exact lv_i2l hx hb hdg rfl (kk H locs ls hP hD hS hl)
theorem q_i2b {x : Int32} (K : kK M cc nL own fr lo) (hdg : decode cc pc = .ok (.i2b, 1)) (kk : kJ M nL (pc + 1) lv (.int x.toInt8.toInt32 :: st) ws) : kJ M nL pc lv (.int x :: st) ws := fun H locs ls hP hD hS hl => by obtain ⟨hx, hb, -⟩ := K; exact lv_i2b hx hb hdg rfl (kk H locs ls hP hD hS hl)
theorem q_i2s {x : Int32} (K : kK M cc nL own fr lo) (hdg : decode cc pc = .ok (.i2s, 1)) (kk : kJ M nL (pc + 1) lv (.int x.toInt16.toInt32 :: st) ws) : kJ M nL pc lv (.int x :: st) ws := fun H locs ls hP hD hS hl => by obtain ⟨hx, hb, -⟩ := K; exact lv_i2s hx hb hdg rfl (kk H locs ls hP hD hS hl)
theorem q_dup {va : Value} (K : kK M cc nL own fr lo) (hdg : decode cc pc = .ok (.dup, 1)) (hva : va.category = 1) (kk : kJ M nL (pc + 1) lv (va :: va :: st) ws) : kJ M nL pc lv (va :: st) ws := fun H locs ls hP hD hS hl => by obtain ⟨hx, hb, -⟩ := K; exact lv_dup hx hb hdg hva (kk H locs ls hP hD hS hl)
theorem q_pop {va : Value} (K : kK M cc nL own fr lo) (hdg : decode cc pc = .ok (.pop, 1)) (hva : va.category = 1) (kk : kJ M nL (pc + 1) lv st ws) : kJ M nL pc lv (va :: st) ws := fun H locs ls hP hD hS hl => by obtain ⟨hx, hb, -⟩ := K; exact lv_pop hx hb hdg hva (kk H locs ls hP hD hS hl)
theorem q_dup2 {va vb : Value} (K : kK M cc nL own fr lo) (hdg : decode cc pc = .ok (.dup2, 1)) (hva : va.category = 1) (hvb : vb.category = 1) (kk : kJ M nL (pc + 1) lv (va :: vb :: va :: vb :: st) ws) : kJ M nL pc lv (va :: vb :: st) ws := fun H locs ls hP hD hS hl => by obtain ⟨hx, hb, -⟩ := K; exact lv_dup2_11 hx hb hdg hva hvb (kk H locs ls hP hD hS hl)
theorem q_if_eq {x : Int32} {off : Int} (tgt : Nat) (K : kK M cc nL own fr lo) (hdg : decode cc pc = .ok (.ifCond .eq off, 3)) (ht : (pc : Int) + off = (tgt : Int)) (kt : x = 0 → kJ M nL tgt lv st ws) (kf : ¬ x = 0 → kJ M nL (pc + 3) lv st ws) : kJ M nL pc lv (.int x :: st) ws := fun H locs ls hP hD hS hl => by obtain ⟨hx, hb, -⟩ := K; exact lv_if_eq hx hb hdg ht (fun c9 => kt c9 H locs ls hP hD hS hl) (fun c9 => kf c9 H locs ls hP hD hS hl)
theorem q_icmp_eq {x y : Int32} {off : Int} (tgt : Nat) (K : kK M cc nL own fr lo) (hdg : decode cc pc = .ok (.if_icmp .eq off, 3)) (ht : (pc : Int) + off = (tgt : Int)) (kt : x = y → kJ M nL tgt lv st ws) (kf : ¬ x = y → kJ M nL (pc + 3) lv st ws) : kJ M nL pc lv (.int y :: .int x :: st) ws := fun H locs ls hP hD hS hl => by obtain ⟨hx, hb, -⟩ := K; exact lv_icmp_eq hx hb hdg ht (fun c9 => kt c9 H locs ls hP hD hS hl) (fun c9 => kf c9 H locs ls hP hD hS hl)
theorem q_if_ne {x : Int32} {off : Int} (tgt : Nat) (K : kK M cc nL own fr lo) (hdg : decode cc pc = .ok (.ifCond .ne off, 3)) (ht : (pc : Int) + off = (tgt : Int)) (kt : ¬ x = 0 → kJ M nL tgt lv st ws) (kf : x = 0 → kJ M nL (pc + 3) lv st ws) : kJ M nL pc lv (.int x :: st) ws := fun H locs ls hP hD hS hl => by obtain ⟨hx, hb, -⟩ := K; exact lv_if_ne hx hb hdg ht (fun c9 => kt c9 H locs ls hP hD hS hl) (fun c9 => kf c9 H locs ls hP hD hS hl)
theorem q_icmp_ne {x y : Int32} {off : Int} (tgt : Nat) (K : kK M cc nL own fr lo) (hdg : decode cc pc = .ok (.if_icmp .ne off, 3)) (ht : (pc : Int) + off = (tgt : Int)) (kt : ¬ x = y → kJ M nL tgt lv st ws) (kf : x = y → kJ M nL (pc + 3) lv st ws) : kJ M nL pc lv (.int y :: .int x :: st) ws := fun H locs ls hP hD hS hl => by obtain ⟨hx, hb, -⟩ := K; exact lv_icmp_ne hx hb hdg ht (fun c9 => kt c9 H locs ls hP hD hS hl) (fun c9 => kf c9 H locs ls hP hD hS hl)
theorem q_if_lt {x : Int32} {off : Int} (tgt : Nat) (K : kK M cc nL own fr lo) (hdg : decode cc pc = .ok (.ifCond .lt off, 3)) (ht : (pc : Int) + off = (tgt : Int)) (kt : x < 0 → kJ M nL tgt lv st ws) (kf : ¬ x < 0 → kJ M nL (pc + 3) lv st ws) : kJ M nL pc lv (.int x :: st) ws := fun H locs ls hP hD hS hl => by obtain ⟨hx, hb, -⟩ := K; exact lv_if_lt hx hb hdg ht (fun c9 => kt c9 H locs ls hP hD hS hl) (fun c9 => kf c9 H locs ls hP hD hS hl)
theorem q_icmp_lt {x y : Int32} {off : Int} (tgt : Nat) (K : kK M cc nL own fr lo) (hdg : decode cc pc = .ok (.if_icmp .lt off, 3)) (ht : (pc : Int) + off = (tgt : Int)) (kt : x < y → kJ M nL tgt lv st ws) (kf : ¬ x < y → kJ M nL (pc + 3) lv st ws) : kJ M nL pc lv (.int y :: .int x :: st) ws := fun H locs ls hP hD hS hl => by obtain ⟨hx, hb, -⟩ := K; exact lv_icmp_lt hx hb hdg ht (fun c9 => kt c9 H locs ls hP hD hS hl) (fun c9 => kf c9 H locs ls hP hD hS hl)
theorem q_if_ge {x : Int32} {off : Int} (tgt : Nat) (K : kK M cc nL own fr lo) (hdg : decode cc pc = .ok (.ifCond .ge off, 3)) (ht : (pc : Int) + off = (tgt : Int)) (kt : 0 ≤ x → kJ M nL tgt lv st ws) (kf : ¬ 0 ≤ x → kJ M nL (pc + 3) lv st ws) : kJ M nL pc lv (.int x :: st) ws := fun H locs ls hP hD hS hl => by obtain ⟨hx, hb, -⟩ := K; exact lv_if_ge hx hb hdg ht (fun c9 => kt c9 H locs ls hP hD hS hl) (fun c9 => kf c9 H locs ls hP hD hS hl)
theorem q_icmp_ge {x y : Int32} {off : Int} (tgt : Nat) (K : kK M cc nL own fr lo) (hdg : decode cc pc = .ok (.if_icmp .ge off, 3)) (ht : (pc : Int) + off = (tgt : Int)) (kt : y ≤ x → kJ M nL tgt lv st ws) (kf : ¬ y ≤ x → kJ M nL (pc + 3) lv st ws) : kJ M nL pc lv (.int y :: .int x :: st) ws := fun H locs ls hP hD hS hl => by obtain ⟨hx, hb, -⟩ := K; exact lv_icmp_ge hx hb hdg ht (fun c9 => kt c9 H locs ls hP hD hS hl) (fun c9 => kf c9 H locs ls hP hD hS hl)
theorem q_if_gt {x : Int32} {off : Int} (tgt : Nat) (K : kK M cc nL own fr lo) (hdg : decode cc pc = .ok (.ifCond .gt off, 3)) (ht : (pc : Int) + off = (tgt : Int)) (kt : 0 < x → kJ M nL tgt lv st ws) (kf : ¬ 0 < x → kJ M nL (pc + 3) lv st ws) : kJ M nL pc lv (.int x :: st) ws := fun H locs ls hP hD hS hl => by obtain ⟨hx, hb, -⟩ := K; exact lv_if_gt hx hb hdg ht (fun c9 => kt c9 H locs ls hP hD hS hl) (fun c9 => kf c9 H locs ls hP hD hS hl)
theorem q_icmp_gt {x y : Int32} {off : Int} (tgt : Nat) (K : kK M cc nL own fr lo) (hdg : decode cc pc = .ok (.if_icmp .gt off, 3)) (ht : (pc : Int) + off = (tgt : Int)) (kt : y < x → kJ M nL tgt lv st ws) (kf : ¬ y < x → kJ M nL (pc + 3) lv st ws) : kJ M nL pc lv (.int y :: .int x :: st) ws := fun H locs ls hP hD hS hl => by obtain ⟨hx, hb, -⟩ := K; exact lv_icmp_gt hx hb hdg ht (fun c9 => kt c9 H locs ls hP hD hS hl) (fun c9 => kf c9 H locs ls hP hD hS hl)
theorem q_if_le {x : Int32} {off : Int} (tgt : Nat) (K : kK M cc nL own fr lo) (hdg : decode cc pc = .ok (.ifCond .le off, 3)) (ht : (pc : Int) + off = (tgt : Int)) (kt : x ≤ 0 → kJ M nL tgt lv st ws) (kf : ¬ x ≤ 0 → kJ M nL (pc + 3) lv st ws) : kJ M nL pc lv (.int x :: st) ws := fun H locs ls hP hD hS hl => by obtain ⟨hx, hb, -⟩ := K; exact lv_if_le hx hb hdg ht (fun c9 => kt c9 H locs ls hP hD hS hl) (fun c9 => kf c9 H locs ls hP hD hS hl)
theorem q_icmp_le {x y : Int32} {off : Int} (tgt : Nat) (K : kK M cc nL own fr lo) (hdg : decode cc pc = .ok (.if_icmp .le off, 3)) (ht : (pc : Int) + off = (tgt : Int)) (kt : x ≤ y → kJ M nL tgt lv st ws) (kf : ¬ x ≤ y → kJ M nL (pc + 3) lv st ws) : kJ M nL pc lv (.int y :: .int x :: st) ws := fun H locs ls hP hD hS hl => by obtain ⟨hx, hb, -⟩ := K; exact lv_icmp_le hx hb hdg ht (fun c9 => kt c9 H locs ls hP hD hS hl) (fun c9 => kf c9 H locs ls hP hD hS hl)
theorem q_goto {off : Int} (tgt : Nat) (K : kK M cc nL own fr lo) (hdg : decode cc pc = .ok (.goto off, 3)) (ht : (pc : Int) + off = (tgt : Int)) (kk : kJ M nL tgt lv st ws) : kJ M nL pc lv st ws := fun H locs ls hP hD hS hl => by obtain ⟨hx, hb, -⟩ := K; exact lv_goto hx hb hdg ht (kk H locs ls hP hD hS hl)
theorem q_tableOut {dflt a9 b9 : Int} {offs : Array Int} {len : Nat} {x : Int32} (tgt : Nat) (K : kK M cc nL own fr lo) (hdg : decode cc pc = .ok (.tableswitch dflt a9 b9 offs, len)) (h : x.toInt < a9 ∨ b9 < x.toInt) (ht : (pc : Int) + dflt = (tgt : Int)) (kk : kJ M nL tgt lv st ws) : kJ M nL pc lv (.int x :: st) ws := fun H locs ls hP hD hS hl => by obtain ⟨hx, hb, -⟩ := K; exact lv_tableOut hx hb hdg h ht (kk H locs ls hP hD hS hl)
theorem q_tableIn {dflt a9 b9 : Int} {offs : Array Int} {len : Nat} {x : Int32} {off : Int} (tgt : Nat) (K : kK M cc nL own fr lo) (hdg : decode cc pc = .ok (.tableswitch dflt a9 b9 offs, len)) (h1 : ¬ x.toInt < a9) (h2 : ¬ b9 < x.toInt) (ho : offs[(x.toInt - a9).toNat]? = some off) (ht : (pc : Int) + off = (tgt : Int)) (kk : kJ M nL tgt lv st ws) : kJ M nL pc lv (.int x :: st) ws := fun H locs ls hP hD hS hl => by obtain ⟨hx, hb, -⟩ := K; exact lv_tableIn hx hb hdg h1 h2 ho ht (kk H locs ls hP hD hS hl)
theorem q_get {C : String} {T : u_T} {N ci i a : Nat} {fs : List Value} (v : Value) (K : kK M cc nL own fr lo) (hin : ∀ w ∈ u_ws C T N, w ∈ tw_T) (q0 : Nat) (he : ws[q0]? = some (a, .inr (ci, fs))) (hc : vwCl[ci]? = some (C, T, N)) (k : Nat) (hk : k < N) (hlink : Cond.fieldLink own i (T k).1 (T k).2.1 (T k).2.2.1 ∈ tw_T) (hv : fs[k]? = some v) (hdg : decode cc pc = .ok (.getfield i, 3)) (kk : kJ M nL (pc + 3) lv (v :: st) ws) : kJ M nL pc lv (.ref a :: st) ws := fun H locs ls hP hD hS hl => by
  obtain ⟨hx, hb, -, ho, ht, hK, -⟩ := K
  exact va_get hx hb ht hin ho hK hP q0 he hc k hk (ht _ hlink) (fun _ h => h) hv hdg (kk H locs ls hP hD hS hl)
theorem q_put {C : String} {T : u_T} {N ci i a : Nat} {fs : List Value} {ty : FieldType} {v : Value} {ws' : va_W} (K : kK M cc nL own fr lo) (hin : ∀ w ∈ u_ws C T N, w ∈ tw_T) (ty0 : Nat → FieldType) (hty : ∀ k, k < N → parseFieldDescriptor (T k).2.2.1 = some (ty0 k)) (hnm : ∀ a, a < N → ∀ b, b < N → a ≠ b → (T a).2.1 ≠ (T b).2.1) (q0 : Nat) (he : ws[q0]? = some (a, .inr (ci, fs))) (hc : vwCl[ci]? = some (C, T, N)) (k : Nat) (hk : k < N) (hlink : Cond.fieldLink own i (T k).1 (T k).2.1 (T k).2.2.1 ∈ tw_T) (hfin : (T k).2.2.2 = false) (hd : parseFieldDescriptor (T k).2.2.1 = some ty) (hn : narrow ty v = v) (hfit : fits ty v = true) (hl9 : k < fs.length) (hw : ws.set q0 (a, .inr (ci, fs.set k v)) = ws') (hdg : decode cc pc = .ok (.putfield i, 3)) (kk : kJ M nL (pc + 3) lv st ws') : kJ M nL pc lv (v :: .ref a :: st) ws := fun H locs ls hP hD hS hl => by
  obtain ⟨hx, hb, -, ho, ht, hK, -⟩ := K
  subst hw
  exact va_put hx hb ht hin ty0 hty hnm ho hK hP hD hS q0 he hc k hk (ht _ hlink) (fun _ h => h) hfin hd hn hfit hl9 hdg (fun H1 locs1 hP1 hD1 hS1 => kk H1 locs1 ls hP1 hD1 hS1 hl)
theorem q_iald {a n : Nat} {f : Nat → Int32} {i : Int32} (K : kK M cc nL own fr lo) (q0 : Nat) (ha : ws[q0]? = some (a, .inl ((k_Z M).2.1 0, n, .inl f))) (hin : vp_in i n) (hdg : decode cc pc = .ok (.iaload, 1)) (kk : kJ M nL (pc + 1) lv (.int (f i.toNatClampNeg) :: st) ws) : kJ M nL pc lv (.int i :: .ref a :: st) ws := fun H locs ls hP hD hS hl => by
  obtain ⟨hx, hb, -, ho, ht, hK, -⟩ := K
  exact va_iald hx hb hK hP q0 0 ha rfl hin hdg (kk H locs ls hP hD hS hl)
theorem q_bald {a n : Nat} {f : Nat → Int32} {i : Int32} (K : kK M cc nL own fr lo) (q0 : Nat) (ha : ws[q0]? = some (a, .inl ((k_Z M).2.1 2, n, .inl f))) (hin : vp_in i n) (hdg : decode cc pc = .ok (.baload, 1)) (kk : kJ M nL (pc + 1) lv (.int (f i.toNatClampNeg) :: st) ws) : kJ M nL pc lv (.int i :: .ref a :: st) ws := fun H locs ls hP hD hS hl => by
  obtain ⟨hx, hb, -, ho, ht, hK, -⟩ := K
  exact va_bald hx hb hK hP q0 2 ha rfl hin hdg (kk H locs ls hP hD hS hl)
theorem q_cald {a n : Nat} {f : Nat → Int32} {i : Int32} (K : kK M cc nL own fr lo) (q0 : Nat) (ha : ws[q0]? = some (a, .inl ((k_Z M).2.1 3, n, .inl f))) (hin : vp_in i n) (hdg : decode cc pc = .ok (.caload, 1)) (kk : kJ M nL (pc + 1) lv (.int (f i.toNatClampNeg) :: st) ws) : kJ M nL pc lv (.int i :: .ref a :: st) ws := fun H locs ls hP hD hS hl => by
  obtain ⟨hx, hb, -, ho, ht, hK, -⟩ := K
  exact va_cald hx hb hK hP q0 3 ha rfl hin hdg (kk H locs ls hP hD hS hl)
theorem q_aldg {a n y : Nat} {f : Nat → Option Nat} {i : Int32} (K : kK M cc nL own fr lo) (q0 : Nat) (ha : ws[q0]? = some (a, .inl ((k_Z M).2.1 1, n, .inr (.inr (.inr (.inr f)))))) (hin : vp_in i n) (hy : f i.toNatClampNeg = some y) (hdg : decode cc pc = .ok (.aaload, 1)) (kk : kJ M nL (pc + 1) lv (.ref y :: st) ws) : kJ M nL pc lv (.int i :: .ref a :: st) ws := fun H locs ls hP hD hS hl => by
  obtain ⟨hx, hb, -, ho, ht, hK, -⟩ := K
  have hlt : i.toNatClampNeg < n := Nat.not_le.mp fun q => hin (Or.inr q)
  exact W.aald (v := .ref y) (ty := .array .int) hx hb (hP q0 _ ha) ((hK.2 1 _ rfl).1 n (fun j => va_rf (f j))) rfl (fun q => by cases q) (by show ¬ (i < 0 ∨ (arrV _ _ _).slots.size ≤ _); rw [arrV_size]; exact hin) (by show (arrV _ _ _).slots[_]? = _; rw [arrV_read _ _ hlt, hy]; rfl) rfl rfl hdg (kk H locs ls hP hD hS hl)
theorem q_aldo {a n y : Nat} {f : Nat → Option Nat} {i : Int32} (K : kK M cc nL own fr lo) (q0 : Nat) (ha : ws[q0]? = some (a, .inl ((k_Z M).2.1 4, n, .inr (.inr (.inr (.inr f)))))) (hin : vp_in i n) (hy : f i.toNatClampNeg = some y) (hdg : decode cc pc = .ok (.aaload, 1)) (kk : kJ M nL (pc + 1) lv (.ref y :: st) ws) : kJ M nL pc lv (.int i :: .ref a :: st) ws := fun H locs ls hP hD hS hl => by
  obtain ⟨hx, hb, -, ho, ht, hK, -⟩ := K
  exact va_aldq hx hb hK hP q0 4 ha rfl hin hdg (by rw [hy]; exact kk H locs ls hP hD hS hl)
theorem q_iast {a n : Nat} {f : Nat → Int32} {i x : Int32} {ws' : va_W} (K : kK M cc nL own fr lo) (q0 : Nat) (ha : ws[q0]? = some (a, .inl ((k_Z M).2.1 0, n, .inl f))) (hin : vp_in i n) (hw : ws.set q0 (a, .inl ((k_Z M).2.1 0, n, .inl (upd f i.toNatClampNeg x))) = ws') (hdg : decode cc pc = .ok (.iastore, 1)) (kk : kJ M nL (pc + 1) lv st ws') : kJ M nL pc lv (.int x :: .int i :: .ref a :: st) ws := fun H locs ls hP hD hS hl => by
  obtain ⟨hx, hb, -, ho, ht, hK, -⟩ := K
  subst hw
  exact va_iast hx hb hK hP hD hS q0 0 ha rfl hin hdg (fun H1 locs1 hP1 hD1 hS1 => kk H1 locs1 ls hP1 hD1 hS1 hl)
theorem q_bast {a n : Nat} {f : Nat → Int32} {i x : Int32} {ws' : va_W} (K : kK M cc nL own fr lo) (q0 : Nat) (ha : ws[q0]? = some (a, .inl ((k_Z M).2.1 2, n, .inl f))) (hin : vp_in i n) (hw : ws.set q0 (a, .inl ((k_Z M).2.1 2, n, .inl (upd f i.toNatClampNeg (vp_nar .byte x)))) = ws') (hdg : decode cc pc = .ok (.bastore, 1)) (kk : kJ M nL (pc + 1) lv st ws') : kJ M nL pc lv (.int x :: .int i :: .ref a :: st) ws := fun H locs ls hP hD hS hl => by
  obtain ⟨hx, hb, -, ho, ht, hK, -⟩ := K
  subst hw
  exact va_bast hx hb hK hP hD hS q0 2 ha rfl hin hdg (fun H1 locs1 hP1 hD1 hS1 => kk H1 locs1 ls hP1 hD1 hS1 hl)
theorem q_copy {a0 a1 n0 n1 i : Nat} {f g : Nat → Int32} {sp dp n : Int32} {ws' : va_W} (K : kK M cc nL own fr lo) (hm : Cond.methodLink own i arraycopyName ∈ tw_T) (q0 q1 : Nat) (ha0 : ws[q0]? = some (a0, .inl ((k_Z M).2.1 0, n0, .inl f))) (ha1 : ws[q1]? = some (a1, .inl ((k_Z M).2.1 0, n1, .inl g))) (h1 : ¬ sp < 0) (h2 : ¬ dp < 0) (h3 : ¬ n < 0) (h4 : sp.toNatClampNeg + n.toNatClampNeg ≤ n0) (h5 : dp.toNatClampNeg + n.toNatClampNeg ≤ n1) (hfr : 1 ≤ fr) (hlo : (st.map fun v => v.category).sum + (nativeFrameWords "java/lang/System" "arraycopy" 5 + 11) ≤ lo) (hw : ws.set q1 (a1, .inl ((k_Z M).2.1 0, n1, .inl (va_cpy f g sp.toNatClampNeg dp.toNatClampNeg n.toNatClampNeg))) = ws') (hdg : decode cc pc = .ok (.invokestatic i, 3)) (kk : kJ M nL (pc + 3) lv st ws') : kJ M nL pc lv (.int n :: .int dp :: .ref a1 :: .int sp :: .ref a0 :: st) ws := fun H locs ls hP hD hS hl => by
  obtain ⟨hx, hb, hml, ho, ht, hK, -, -, ⟨hf, hl9⟩, -⟩ := K
  subst hw
  exact va_copyi hx hb (hml.trans hl.1.symm) ho (ht _ hm) (ht _ na_arraycopy) (ht _ sm_arraycopy) (ht _ in_J10) hK hP hD hS q0 q1 0 0 ha0 ha1 rfl rfl rfl h1 h2 h3 h4 h5 (fun j _ => rfl) (by rw [hf]; exact hfr) (by rw [hl9]; exact hlo) hdg (fun H1 locs1 hP1 hD1 hS1 => kk H1 locs1 ls hP1 hD1 hS1 hl)
/-- the class's tables -/
theorem q_most {i : Nat} (K : kK M cc nL RX3 fr lo) (hlink : Cond.fieldLink RX3 i RX3 "MOST_OF_PART" "[I" ∈ tw_T) (hdg : decode cc pc = .ok (.getstatic i, 3)) (kk : kJ M nL (pc + 3) lv (.ref ((k_Z M).2.2 0) :: st) ws) : kJ M nL pc lv st ws := fun H locs ls hP hD hS hl => by
  obtain ⟨hx, hb, hml, ho, ht, hK, -, hZ, -⟩ := K
  exact va_gets hx hb hZ.1.1 hS ho (ht _ hlink) (fun _ h => h) hdg (kk H locs ls hP hD hS hl)
theorem q_above {i : Nat} (K : kK M cc nL RX3 fr lo) (hlink : Cond.fieldLink RX3 i RX3 "KIND_ABOVE" "[I" ∈ tw_T) (hdg : decode cc pc = .ok (.getstatic i, 3)) (kk : kJ M nL (pc + 3) lv (.ref ((k_Z M).2.2 1) :: st) ws) : kJ M nL pc lv st ws := fun H locs ls hP hD hS hl => by
  obtain ⟨hx, hb, hml, ho, ht, hK, -, hZ, -⟩ := K
  exact va_gets hx hb hZ.2.1 hS ho (ht _ hlink) (fun _ h => h) hdg (kk H locs ls hP hD hS hl)
theorem q_mostld {i v : Int32} (K : kK M cc nL own fr lo) (hin : vp_in i 5) (hv : k_most i.toNatClampNeg = .int v) (hdg : decode cc pc = .ok (.iaload, 1)) (kk : kJ M nL (pc + 1) lv (.int v :: st) ws) : kJ M nL pc lv (.int i :: .ref ((k_Z M).2.2 0) :: st) ws := fun H locs ls hP hD hS hl => by
  obtain ⟨hx, hb, hml, ho, ht, hK, -, hZ, -⟩ := K
  exact va_ti hx hb hZ.1.2 hS hin hv hdg (kk H locs ls hP hD hS hl)
theorem q_aboveld {i v : Int32} (K : kK M cc nL own fr lo) (hin : vp_in i 7) (hv : k_above i.toNatClampNeg = .int v) (hdg : decode cc pc = .ok (.iaload, 1)) (kk : kJ M nL (pc + 1) lv (.int v :: st) ws) : kJ M nL pc lv (.int i :: .ref ((k_Z M).2.2 1) :: st) ws := fun H locs ls hP hD hS hl => by
  obtain ⟨hx, hb, hml, ho, ht, hK, -, hZ, -⟩ := K
  exact va_ti hx hb hZ.2.2 hS hin hv hdg (kk H locs ls hP hD hS hl)
end KJ
/-! contracts -/
def kc_P (Z : kz_Z) (sz : Nat) (w : va_W) : State → Prop := fun U => U.heap.size = sz ∧ va_P Z.1 vwCl w U.heap ∧ va_K Z.1 vwCl (k_ty Z) U ∧ va_D (fun _ => True) w ∧ k_S Z (va_A w sz) U U.heap
def kc_B (Z : kz_Z) (A : Nat → Prop) : va_W → State → Prop := fun w t => va_P Z.1 vwCl w t.heap ∧ va_K Z.1 vwCl (k_ty Z) t ∧ va_D A w
def KI (l : Launch) (Z : kz_Z) (y : MethodName) (cc : ByteArray) (nL : Nat) (ty : FieldType) (fr lo : Nat) (av : List Value) (w : va_W) (Post : Int32 → va_W → Prop) : Prop := ∀ sz : Nat, Met l y (.code y cc nL (some ty) :: tw_T) { frames := fr, cells := 0, slots := 0, locals := lo } (va_Pc av (kc_P Z sz w)) (va_Qi Post (kc_B Z (va_A w sz)) (va_A w sz)) 0 0 (va_A w sz)
def KL (l : Launch) (Z : kz_Z) (y : MethodName) (cc : ByteArray) (nL : Nat) (fr lo : Nat) (av : List Value) (w : va_W) (Post : Int64 → va_W → Prop) : Prop := ∀ sz : Nat, Met l y (.code y cc nL (some .long) :: tw_T) { frames := fr, cells := 0, slots := 0, locals := lo } (va_Pc av (kc_P Z sz w)) (va_Ql Post (kc_B Z (va_A w sz)) (va_A w sz)) 0 0 (va_A w sz)
def KV (l : Launch) (Z : kz_Z) (y : MethodName) (cc : ByteArray) (nL : Nat) (fr lo : Nat) (av : List Value) (w : va_W) (Post : va_W → Prop) : Prop := ∀ sz : Nat, Met l y (.code y cc nL none :: tw_T) { frames := fr, cells := 0, slots := 0, locals := lo } (va_Pc av (kc_P Z sz w)) (va_Qv Post (kc_B Z (va_A w sz)) (va_A w sz)) 0 0 (va_A w sz)
theorem kc_blind {Z : kz_Z} {sz : Nat} {w : va_W} {av : List Value} : FrameBlind (va_Pc av (kc_P Z sz w)) := fun a U g mk q => by
  obtain ⟨q0, q1, qP, qK, qD, qS⟩ := q
  exact ⟨q0, q1, qP, va_K.moved (u := U) (U := U.calling g mk a) (Vm.Alike.refl U.vm) qK, qD, k_S.moved (u := U) (U := U.calling g mk a) (Vm.Alike.refl U.vm) qS⟩
