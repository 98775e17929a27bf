def va_AOA (ty : FieldType) (U : State) : Prop := (Cond.arrayOver (.array ty)).before #[] U = true
theorem va_AOA.use {ty : FieldType} {A : Array Value} {U : State} (h : va_AOA ty U) : (Cond.arrayOver (.array ty)).before A U = true := h
/-! ===== BEGIN words of one list among another's, by their places ===== -/
theorem goodIn_r {big : List Cond} (ws : List Cond) (ps : List Nat) (hp : ws = ps.filterMap (fun i => big[i]?)) (h : ws.all goodWord = true) : GoodIn big ws := by
  intro w hw
  have h1 := List.all_eq_true.mp h w hw
  rw [hp] at hw
  obtain ⟨i, -, hi⟩ := List.mem_filterMap.mp hw
  have hm : w ∈ big := by first | exact List.mem_of_getElem? hi | exact List.getElem?_mem hi
  exact ⟨hm, good_of_word h1⟩
theorem goodIn_app {big a b : List Cond} (ha : GoodIn big a) (hb : GoodIn big b) : GoodIn big (a ++ b) := fun w h => (List.mem_append.mp h).elim (ha w) (hb w)
theorem goodIn_ca {big a b : List Cond} {c : Cond} (ha : GoodIn big (c :: a)) (hb : GoodIn big b) : GoodIn big (c :: (a ++ b)) := fun w h => (List.mem_cons.mp h).elim (fun e => ha w (List.mem_cons.mpr (Or.inl e))) (fun h => (List.mem_append.mp h).elim (fun h => ha w (List.mem_cons.mpr (Or.inr h))) (hb w))
theorem goodIn_sub {big ws : List Cond} (hm : ∀ w ∈ ws, w ∈ big) (h : ws.all goodWord = true) : GoodIn big ws := fun w hw => ⟨hm w hw, good_of_word (List.all_eq_true.mp h w hw)⟩
/-! ===== END ===== -/

/-! ===== BEGIN new T[n][m]: the outer array a place, the inner ones among the pooled ===== -/
/-- f, but v at every address of l -/
def vr_up {α : Type} (f : Nat → α) (l : List Nat) (v : α) : Nat → α := fun a => if a ∈ l then v else f a
theorem vr_up_in {α : Type} {f : Nat → α} {l : List Nat} {v : α} {a : Nat} (h : a ∈ l) : vr_up f l v a = v := if_pos h
theorem vr_up_ne {α : Type} {f : Nat → α} {l : List Nat} {v : α} {a : Nat} (h : a ∉ l) : vr_up f l v a = f a := if_neg h
theorem vr_rows {L l : List Nat} {f : Nat → va_E} {e : va_E} (h : ∀ a, a ∈ l → a ∉ L) : va_pl L f ++ l.map (fun a => (a, e)) = va_pl (L ++ l) (vr_up f l e) := by
  unfold va_pl
  rw [List.map_append]
  congr 1
  · apply List.map_congr_left
    intro a ha
    rw [vr_up_ne (fun q => h a q ha)]
  · apply List.map_congr_left
    intro a ha
    rw [vr_up_in ha]
theorem vr_lay {X rows : va_W} {x : Nat × va_E} {pl : va_W} {D : va_G} {cl : List vw_C} {H : Heap} (hP : va_P D cl (((X ++ pl) ++ [x]) ++ rows) H) : va_P D cl ((X ++ [x]) ++ (pl ++ rows)) H := by
  rw [List.append_assoc (X ++ pl)] at hP
  have h := va_P.swap hP
  rw [← List.append_assoc X] at h
  have h2 := va_P.swap h
  rw [List.append_assoc (X ++ [x])] at h2
  exact h2
theorem vr_layD {X rows : va_W} {x : Nat × va_E} {pl : va_W} {A : Nat → Prop} (hD : va_D A (((X ++ pl) ++ [x]) ++ rows)) : va_D A ((X ++ [x]) ++ (pl ++ rows)) := by
  rw [List.append_assoc (X ++ pl)] at hD
  have h := va_D.swap hD
  rw [← List.append_assoc X] at h
  have h2 := va_D.swap h
  rw [List.append_assoc (X ++ [x])] at h2
  exact h2
theorem vr_outer (c : ClassId) (N h0 : Nat) : ∀ i : Nat, Jvm.Free.Multi.outerC c N h0 i = arrV c N (fun j => va_rf (if j < i then some (h0 + 1 + j) else none))
  | 0 => by
    show ({ cls := c, slots := Array.replicate N .null, vm := .none } : Cell) = _
    rw [arrV_new]
    refine congrArg (arrV c N) (funext fun j => ?_)
    simp [va_rf]
  | i + 1 => by
    show (Jvm.Free.Multi.outerC c N h0 i).setSlot i (.ref (h0 + 1 + i)) = _
    rw [vr_outer c N h0 i, arrV_store]
    refine congrArg (arrV c N) (funext fun j => ?_)
    by_cases e : j = i
    · subst e
      simp [updV, va_rf]
    · by_cases h : j < i
      · simp [updV, e, h, Nat.lt_succ_of_lt h]
      · simp [updV, e, h, show ¬ j < i + 1 by omega]
section VGM
variable {p : Program} {l : Launch} {e : Env} {R : Room} {s : State} {m : MethodId} {args : Array Value} {below : List Frame} {meth : Method} {c : Code} {H : Heap} {locs : List Loc} {cells slots : Nat} {Q : State → Prop}
variable {cc : ByteArray} {pc : Nat} {ls : Array Slot} {rest : List Value} {D : va_G} {cl : List vw_C} {A : Nat → Prop} {a : Nat} {tys : List (ClassId × FieldType)} {ws : va_W} {H0 : Heap}
theorem va_mna {X : va_W} {L : List Nat} {f : Nat → va_E} {cc : ByteArray} (hexec : p.tables.exec = Jvm.exec) (hb : c.code = cc) {own : String} {index : Nat} {ty : FieldType} {cy : ClassId} (hown : s.vm.findClass own = some m.cls) (hclink : (Cond.classLink own index ("[" ++ (FieldType.array ty).toString)).before args s = true) (hover : va_AOA ty s) (harr : (Cond.arrayClass ty).before args s = true) (hcy : s.vm.findClass (FieldType.array ty).toString = some cy)
    (hK : va_K D cl tys s) (hP : va_P D cl (X ++ va_pl L f) H) (hD : va_D A (X ++ va_pl L f)) (hS : va_S A H0 H locs) (hA : ∀ q, H0.size ≤ q → A q) {n k : Int32} {N' K' : Nat} {z : vp_A} (hn : ¬ n < 0) (hk : ¬ k < 0) (hN : n.toNatClampNeg = N') (hM : k.toNatClampNeg = K')
    (hb1 : N' * 4 ≤ 536870912) (hb2 : K' * componentBytes ty ≤ 536870912) (hb3 : K' ≤ 536870912) (hdf : fits ty (defaultValue ty) = true) (hdd : (defaultValue ty).isDefault = true) (hcells : cells + (1 + N') ≤ R.cells) (hslots : slots + (N' + N' * K') ≤ R.slots) (hz : ∀ c : ClassId, Jvm.Free.Multi.innerC c K' (defaultValue ty) = vp_cell c z) (hdg : decode cc pc = .ok (.multianewarray index 2, 4))
    (kk : ∀ (q : Nat) (r : Nat → Nat) (cA : ClassId) (H1 : Heap), (∀ i j : Nat, i < N' → j < N' → r i = r j → i = j) → (∀ i : Nat, i < N' → r i ∉ L) → va_K D cl (tys ++ [(cA, .array ty)]) s →
      va_P D cl ((X ++ [(q, .inl (cA, N', .inr (.inr (.inr (.inr (fun i => if i < N' then some (r i) else none))))))]) ++ va_pl (L ++ (List.range N').map r) (vr_up f ((List.range N').map r) (.inl (cy, z)))) H1 → va_D A ((X ++ [(q, .inl (cA, N', .inr (.inr (.inr (.inr (fun i => if i < N' then some (r i) else none))))))]) ++ va_pl (L ++ (List.range N').map r) (vr_up f ((List.range N').map r) (.inl (cy, z)))) → va_S A H0 H1 locs →
      W p l e R s m args below meth c H1 locs (cells + 1 + N') (slots + N' + N' * K') Q (F0 m (pc + 4) ls (.ref q :: rest))) : W p l e R s m args below meth c H locs cells slots Q (F0 m pc ls (.int k :: .int n :: rest)) := by
  subst hN
  subst hM
  intro T hT Xs
  obtain ⟨vm₁, cA, comp, -, fA, fC, hO, -, X', step⟩ := Xs.multianewarray2F hexec hown hclink (va_AOA.use hover) harr (g := F0 m pc ls (.int k :: .int n :: rest)) rfl (by rw [hb]; exact hdg) rfl hn hk hb1 hb2 hb3 hdf hdd hcells hslots
  have ec : some cy = some comp := hcy.symm.trans fC
  cases ec
  generalize hF : Jvm.Free.Multi.fill (T.setVm vm₁) cA cy n.toNatClampNeg k.toNatClampNeg (defaultValue ty) n.toNatClampNeg = F at X' step
  have hTh : (T.setVm vm₁).heap = H := hT
  obtain ⟨f1, f2, -, -⟩ := Jvm.Free.Multi.fill_facts (T.setVm vm₁) cA cy n.toNatClampNeg k.toNatClampNeg (defaultValue ty) n.toNatClampNeg
  rw [hF, hTh] at f1 f2
  have hold : ∀ x : Nat, x < H.size → F.heap[x]? = H[x]? := fun x hx => by
    have := Jvm.Free.Multi.fill_old (T.setVm vm₁) cA cy n.toNatClampNeg k.toNatClampNeg (defaultValue ty) (a := x) (by rw [hTh]; exact hx) n.toNatClampNeg
    rw [hF, hTh] at this
    exact this
  have hrow : ∀ j : Nat, j < n.toNatClampNeg → F.heap[H.size + 1 + j]? = some (vp_cell cy z) := fun j hj => by
    have := Jvm.Free.Multi.fill_inner (T.setVm vm₁) cA cy n.toNatClampNeg k.toNatClampNeg (defaultValue ty) n.toNatClampNeg j hj
    rw [hF, hTh, hz] at this
    exact this
  have hout : Jvm.Free.Multi.outerC cA n.toNatClampNeg H.size n.toNatClampNeg = vp_cell cA (n.toNatClampNeg, .inr (.inr (.inr (.inr (fun i => if i < n.toNatClampNeg then some (H.size + 1 + i) else none))))) := by
    rw [vp_cell_q]
    exact vr_outer cA n.toNatClampNeg H.size n.toNatClampNeg
  rw [hout] at f2
  have hlt : ∀ a, a ∈ L → a < H.size := fun a ha => by
    obtain ⟨k9, hk9⟩ := va_pl_get (X := X) (f := f) ha
    exact (hP k9 _ hk9).lt
  have hnl : ∀ i : Nat, i < n.toNatClampNeg → H.size + 1 + i ∉ L := fun i _ h => by
    have := hlt _ h
    omega
  have hnm : ∀ a, a ∈ (List.range n.toNatClampNeg).map (fun i => H.size + 1 + i) → a ∉ L := fun a ha h => by
    obtain ⟨i, -, rfl⟩ := List.mem_map.mp ha
    have := hlt _ h
    omega
  have hP0 : va_P D cl (X ++ va_pl L f) F.heap := hP.kept (fun k9 x hx => hold x.1 ((hP k9 x hx).lt))
  have hP1 : va_P D cl ((X ++ va_pl L f) ++ [(H.size, .inl (cA, n.toNatClampNeg, .inr (.inr (.inr (.inr (fun i => if i < n.toNatClampNeg then some (H.size + 1 + i) else none))))))]) F.heap := hP0.app (fun k9 x hx => by
    have h0 : k9 < 1 := (List.getElem?_eq_some_iff.mp hx).1
    rw [show k9 = 0 by omega] at hx
    cases hx
    exact f2)
  have hP2 : va_P D cl (((X ++ va_pl L f) ++ [(H.size, .inl (cA, n.toNatClampNeg, .inr (.inr (.inr (.inr (fun i => if i < n.toNatClampNeg then some (H.size + 1 + i) else none))))))]) ++ ((List.range n.toNatClampNeg).map (fun i => H.size + 1 + i)).map (fun a => (a, .inl (cy, z)))) F.heap := hP1.app (fun k9 x hx => by
    obtain ⟨a, ha, rfl⟩ := List.mem_map.mp (List.mem_of_getElem? hx)
    obtain ⟨i, hi, rfl⟩ := List.mem_map.mp ha
    exact hrow i (List.mem_range.mp hi))
  have hD2 : va_D A (((X ++ va_pl L f) ++ [(H.size, .inl (cA, n.toNatClampNeg, .inr (.inr (.inr (.inr (fun i => if i < n.toNatClampNeg then some (H.size + 1 + i) else none))))))]) ++ ((List.range n.toNatClampNeg).map (fun i => H.size + 1 + i)).map (fun a => (a, .inl (cy, z)))) := by
    have hD1 := hD.push (e := .inl (cA, n.toNatClampNeg, .inr (.inr (.inr (.inr (fun i => if i < n.toNatClampNeg then some (H.size + 1 + i) else none)))))) hP rfl (hA _ hS.1)
    generalize hW1 : (X ++ va_pl L f) ++ [(H.size, .inl (cA, n.toNatClampNeg, .inr (.inr (.inr (.inr (fun i => if i < n.toNatClampNeg then some (H.size + 1 + i) else none))))))] = W1 at hD1 hP1 ⊢
    have hle : ∀ (k9 : Nat) (x : Nat × va_E), W1[k9]? = some x → x.1 ≤ H.size := fun k9 x hx => by
      rw [← hW1] at hx
      by_cases hl : k9 < (X ++ va_pl L f).length
      · rw [List.getElem?_append_left hl] at hx
        exact Nat.le_of_lt ((hP k9 x hx).lt)
      · rw [List.getElem?_append_right (by omega)] at hx
        have h0 : k9 - (X ++ va_pl L f).length < 1 := (List.getElem?_eq_some_iff.mp hx).1
        rw [show k9 - (X ++ va_pl L f).length = 0 by omega] at hx
        cases hx
        exact Nat.le_refl _
    have hr : ∀ (k9 : Nat) (x : Nat × va_E), (((List.range n.toNatClampNeg).map (fun i => H.size + 1 + i)).map (fun a => ((a, .inl (cy, z)) : Nat × va_E)))[k9]? = some x → x.1 = H.size + 1 + k9 := fun k9 x hx => by
      rw [List.getElem?_map, List.getElem?_map] at hx
      by_cases h9 : k9 < n.toNatClampNeg
      · rw [List.getElem?_range h9] at hx
        cases hx
        rfl
      · have hn0 : (List.range n.toNatClampNeg)[k9]? = none := List.getElem?_eq_none (by rw [List.length_range]; omega)
        rw [hn0] at hx
        cases hx
    refine ⟨fun i j x y hi hj hxy => ?_, fun k9 x hx => ?_⟩
    · by_cases h1 : i < W1.length <;> by_cases h2 : j < W1.length
      · rw [List.getElem?_append_left h1] at hi
        rw [List.getElem?_append_left h2] at hj
        exact hD1.1 i j x y hi hj hxy
      · rw [List.getElem?_append_left h1] at hi
        rw [List.getElem?_append_right (by omega)] at hj
        have := hle _ _ hi
        have := hr _ _ hj
        omega
      · rw [List.getElem?_append_right (by omega)] at hi
        rw [List.getElem?_append_left h2] at hj
        have := hle _ _ hj
        have := hr _ _ hi
        omega
      · rw [List.getElem?_append_right (by omega)] at hi hj
        have := hr _ _ hi
        have := hr _ _ hj
        omega
    · by_cases h1 : k9 < W1.length
      · rw [List.getElem?_append_left h1] at hx
        exact hD1.2 k9 x hx
      · rw [List.getElem?_append_right (by omega)] at hx
        have := hr _ _ hx
        exact hA _ (by have := hS.1; omega)
  have hAr : ArrOfT s cA (.array ty) := fun N9 z9 => by
    obtain ⟨-, k9, hk9, cm9, hkk9⟩ := (hO 0 0 0).1
    exact ⟨(fun q hq => by cases hq), k9, hk9, cm9, hkk9⟩
  have hK2 : va_K D cl (tys ++ [(cA, .array ty)]) s := ⟨hK.1, fun k9 x hx => by
    by_cases hl : k9 < tys.length
    · rw [List.getElem?_append_left hl] at hx
      exact hK.2 k9 x hx
    · rw [List.getElem?_append_right (by omega)] at hx
      have h0 : k9 - tys.length < 1 := (List.getElem?_eq_some_iff.mp hx).1
      rw [show k9 - tys.length = 0 by omega] at hx
      cases hx
      exact ⟨hAr, fA⟩⟩
  obtain ⟨t, a1, b1⟩ := kk H.size (fun i => H.size + 1 + i) cA F.heap (fun i j _ _ h => by have h9 : H.size + 1 + i = H.size + 1 + j := h; omega) hnl hK2 (by rw [← vr_rows hnm]; exact vr_lay hP2) (by rw [← vr_rows hnm]; exact vr_layD hD2) ⟨by rw [f1]; have := hS.1; omega, fun x h1 h2 => (hold x (Nat.lt_of_lt_of_le h1 hS.1)).trans (hS.2.1 x h1 h2), hS.2.2⟩ F rfl X'
  refine ⟨t, step t ?_, b1⟩
  have e : T.heap.size = H.size := by rw [hT]
  rw [e]
  exact a1
end VGM
/-! ===== END ===== -/

/-! ===== BEGIN printed: names, fields, word lists, decode rows ===== -/
def RX0 : String := "GateManners$Farm"
def TX0 : u_T := fun k => match k with
  | 0 => ("GateManners$Farm", "beastsIn", "[I", true)
  | 1 => ("GateManners$Farm", "standing", "[I", true)
  | 2 => ("GateManners$Farm", "parts", "[[I", true)
  | 3 => ("GateManners$Farm", "heldAt", "[I", true)
  | 4 => ("GateManners$Farm", "walkers", "I", false)
  | 5 => ("GateManners$Farm", "windNow", "I", false)
  | 6 => ("GateManners$Farm", "hour", "I", false)
  | _ => ("GateManners$Farm", "z", "I", false)
def tyX0 : Nat → FieldType := fun k => match k with
  | 0 => .array .int
  | 1 => .array .int
  | 2 => .array (.array .int)
  | 3 => .array .int
  | 4 => .int
  | 5 => .int
  | 6 => .int
  | _ => .int
theorem nmX0 : ∀ a, a < 8 → ∀ b, b < 8 → a ≠ b → (TX0 a).2.1 ≠ (TX0 b).2.1 := by decide +kernel
theorem tyX0_ok : ∀ k, k < 8 → parseFieldDescriptor (TX0 k).2.2.1 = some (tyX0 k) := by decide +kernel
abbrev cX0_init : ByteArray := prog_2_method_1_code
def yX0_init : MethodName := ⟨RX0, "<init>", "()V"⟩
abbrev cX0_become : ByteArray := prog_2_method_2_code
def yX0_become : MethodName := ⟨RX0, "become", "(LGateManners$Farm;)V"⟩
abbrev cX0_addWalker : ByteArray := prog_2_method_3_code
def yX0_addWalker : MethodName := ⟨RX0, "addWalker", "(II)I"⟩
abbrev cX0_leftBy : ByteArray := prog_2_method_4_code
def yX0_leftBy : MethodName := ⟨RX0, "leftBy", "(II)I"⟩
abbrev cX0_feltBy : ByteArray := prog_2_method_5_code
def yX0_feltBy : MethodName := ⟨RX0, "feltBy", "(II)I"⟩
abbrev cX0_goesOf : ByteArray := prog_2_method_6_code
def yX0_goesOf : MethodName := ⟨RX0, "goesOf", "(I)I"⟩
abbrev cX0_passHours : ByteArray := prog_2_method_7_code
def yX0_passHours : MethodName := ⟨RX0, "passHours", "(II)V"⟩
abbrev cX0_letGo : ByteArray := prog_2_method_8_code
def yX0_letGo : MethodName := ⟨RX0, "letGo", "(I)V"⟩
abbrev cX0_passOrTurn : ByteArray := prog_2_method_9_code
def yX0_passOrTurn : MethodName := ⟨RX0, "passOrTurn", "(I)V"⟩
abbrev cX0_moveBeasts : ByteArray := prog_2_method_10_code
def yX0_moveBeasts : MethodName := ⟨RX0, "moveBeasts", "()V"⟩
abbrev cX0_through : ByteArray := prog_2_method_11_code
def yX0_through : MethodName := ⟨RX0, "through", "(II)I"⟩
abbrev cX0_blowShut : ByteArray := prog_2_method_12_code
def yX0_blowShut : MethodName := ⟨RX0, "blowShut", "()V"⟩
abbrev cX0_draw : ByteArray := prog_2_method_13_code
def yX0_draw : MethodName := ⟨RX0, "draw", "()I"⟩
abbrev cX0_standsAsTold : ByteArray := prog_2_method_14_code
def yX0_standsAsTold : MethodName := ⟨RX0, "standsAsTold", "(LGateManners$Sheet;)Z"⟩
abbrev cX0_walkersIn : ByteArray := prog_2_method_15_code
def yX0_walkersIn : MethodName := ⟨RX0, "walkersIn", "(I)I"⟩
abbrev cX0_standingByFour : ByteArray := prog_2_method_16_code
def yX0_standingByFour : MethodName := ⟨RX0, "standingByFour", "()I"⟩
abbrev cX0_notShut : ByteArray := prog_2_method_17_code
def yX0_notShut : MethodName := ⟨RX0, "notShut", "()I"⟩
abbrev cX0_allBeasts : ByteArray := prog_2_method_18_code
def yX0_allBeasts : MethodName := ⟨RX0, "allBeasts", "()I"⟩
abbrev cX0_allPassed : ByteArray := prog_2_method_19_code
def yX0_allPassed : MethodName := ⟨RX0, "allPassed", "()I"⟩
abbrev cX0_fullestField : ByteArray := prog_2_method_20_code
def yX0_fullestField : MethodName := ⟨RX0, "fullestField", "()I"⟩
abbrev cX0_spotsInUse : ByteArray := prog_2_method_21_code
def yX0_spotsInUse : MethodName := ⟨RX0, "spotsInUse", "()I"⟩
def RX1 : String := "GateManners$Sheet"
def TX1 : u_T := fun k => match k with
  | 0 => ("GateManners$Sheet", "numbers", "[I", true)
  | 1 => ("GateManners$Sheet", "bits", "I", false)
  | _ => ("GateManners$Sheet", "size", "I", false)
def tyX1 : Nat → FieldType := fun k => match k with
  | 0 => .array .int
  | 1 => .int
  | _ => .int
theorem nmX1 : ∀ a, a < 3 → ∀ b, b < 3 → a ≠ b → (TX1 a).2.1 ≠ (TX1 b).2.1 := by decide +kernel
theorem tyX1_ok : ∀ k, k < 3 → parseFieldDescriptor (TX1 k).2.2.1 = some (tyX1 k) := by decide +kernel
abbrev cX1_init : ByteArray := prog_3_method_1_code
def yX1_init : MethodName := ⟨RX1, "<init>", "()V"⟩
abbrev cX1_isMissing : ByteArray := prog_3_method_2_code
def yX1_isMissing : MethodName := ⟨RX1, "isMissing", "()Z"⟩
abbrev cX1_clear : ByteArray := prog_3_method_3_code
def yX1_clear : MethodName := ⟨RX1, "clear", "(II)V"⟩
abbrev cX1_put : ByteArray := prog_3_method_4_code
def yX1_put : MethodName := ⟨RX1, "put", "(II)V"⟩
abbrev cX1_hasRow : ByteArray := prog_3_method_5_code
def yX1_hasRow : MethodName := ⟨RX1, "hasRow", "(II)Z"⟩
def RX2 : String := "GateManners$Tape"
def TX2 : u_T := fun k => match k with
  | 0 => ("GateManners$Tape", "bytes", "[B", true)
  | 1 => ("GateManners$Tape", "size", "I", false)
  | 2 => ("GateManners$Tape", "words", "[C", true)
  | 3 => ("GateManners$Tape", "sorts", "[I", true)
  | 4 => ("GateManners$Tape", "places", "[I", true)
  | 5 => ("GateManners$Tape", "lengths", "[I", true)
  | _ => ("GateManners$Tape", "next", "I", false)
def tyX2 : Nat → FieldType := fun k => match k with
  | 0 => .array .byte
  | 1 => .int
  | 2 => .array .char
  | 3 => .array .int
  | 4 => .array .int
  | 5 => .array .int
  | _ => .int
theorem nmX2 : ∀ a, a < 7 → ∀ b, b < 7 → a ≠ b → (TX2 a).2.1 ≠ (TX2 b).2.1 := by decide +kernel
theorem tyX2_ok : ∀ k, k < 7 → parseFieldDescriptor (TX2 k).2.2.1 = some (tyX2 k) := by decide +kernel
abbrev cX2_init : ByteArray := prog_4_method_1_code
def yX2_init : MethodName := ⟨RX2, "<init>", "()V"⟩
abbrev cX2_put : ByteArray := prog_4_method_2_code
def yX2_put : MethodName := ⟨RX2, "put", "(I)V"⟩
abbrev cX2_tellTo : ByteArray := prog_4_method_3_code
def yX2_tellTo : MethodName := ⟨RX2, "tellTo", "(LGateManners$Farm;)I"⟩
abbrev cX2_split : ByteArray := prog_4_method_4_code
def yX2_split : MethodName := ⟨RX2, "split", "()V"⟩
abbrev cX2_setToken : ByteArray := prog_4_method_5_code
def yX2_setToken : MethodName := ⟨RX2, "setToken", "(III)V"⟩
abbrev cX2_sortOf : ByteArray := prog_4_method_6_code
def yX2_sortOf : MethodName := ⟨RX2, "sortOf", "(B)I"⟩
abbrev cX2_takeItem : ByteArray := prog_4_method_7_code
def yX2_takeItem : MethodName := ⟨RX2, "takeItem", "(LGateManners$Farm;)Z"⟩
abbrev cX2_takeWalker : ByteArray := prog_4_method_8_code
def yX2_takeWalker : MethodName := ⟨RX2, "takeWalker", "(LGateManners$Farm;I)Z"⟩
abbrev cX2_takeGate : ByteArray := prog_4_method_9_code
def yX2_takeGate : MethodName := ⟨RX2, "takeGate", "(LGateManners$Farm;I)Z"⟩
abbrev cX2_takeBeasts : ByteArray := prog_4_method_10_code
def yX2_takeBeasts : MethodName := ⟨RX2, "takeBeasts", "(LGateManners$Farm;)Z"⟩
abbrev cX2_takeWind : ByteArray := prog_4_method_11_code
def yX2_takeWind : MethodName := ⟨RX2, "takeWind", "(LGateManners$Farm;)Z"⟩
abbrev cX2_takeWord : ByteArray := prog_4_method_12_code
def yX2_takeWord : MethodName := ⟨RX2, "takeWord", "(I)Z"⟩
abbrev cX2_takeNumber : ByteArray := prog_4_method_13_code
def yX2_takeNumber : MethodName := ⟨RX2, "takeNumber", "(I)I"⟩
abbrev cX2_wordAhead : ByteArray := prog_4_method_14_code
def yX2_wordAhead : MethodName := ⟨RX2, "wordAhead", "()I"⟩
abbrev cX2_isSpelt : ByteArray := prog_4_method_15_code
def yX2_isSpelt : MethodName := ⟨RX2, "isSpelt", "(I)Z"⟩
def RX3 : String := "GateManners"
def TX3 : u_T := fun k => match k with
  | 0 => ("GateManners", "farm", "LGateManners$Farm;", true)
  | 1 => ("GateManners", "trial", "LGateManners$Farm;", true)
  | 2 => ("GateManners", "kept", "LGateManners$Farm;", true)
  | 3 => ("GateManners", "isKept", "Z", false)
  | 4 => ("GateManners", "tape", "LGateManners$Tape;", true)
  | 5 => ("GateManners", "sheets", "[LGateManners$Sheet;", true)
  | _ => ("GateManners", "found", "[I", true)
def tyX3 : Nat → FieldType := fun k => match k with
  | 0 => .object "GateManners$Farm"
  | 1 => .object "GateManners$Farm"
  | 2 => .object "GateManners$Farm"
  | 3 => .boolean
  | 4 => .object "GateManners$Tape"
  | 5 => .array (.object "GateManners$Sheet")
  | _ => .array .int
theorem nmX3 : ∀ a, a < 7 → ∀ b, b < 7 → a ≠ b → (TX3 a).2.1 ≠ (TX3 b).2.1 := by decide +kernel
theorem tyX3_ok : ∀ k, k < 7 → parseFieldDescriptor (TX3 k).2.2.1 = some (tyX3 k) := by decide +kernel
abbrev cX3_init : ByteArray := prog_1_method_1_code
def yX3_init : MethodName := ⟨RX3, "<init>", "()V"⟩
abbrev cX3_beasts : ByteArray := prog_1_method_2_code
def yX3_beasts : MethodName := ⟨RX3, "beasts", "(II)I"⟩
abbrev cX3_field : ByteArray := prog_1_method_3_code
def yX3_field : MethodName := ⟨RX3, "field", "(II)I"⟩
abbrev cX3_gate : ByteArray := prog_1_method_4_code
def yX3_gate : MethodName := ⟨RX3, "gate", "(II)I"⟩
abbrev cX3_stands : ByteArray := prog_1_method_5_code
def yX3_stands : MethodName := ⟨RX3, "stands", "(I)I"⟩
abbrev cX3_wind : ByteArray := prog_1_method_6_code
def yX3_wind : MethodName := ⟨RX3, "wind", "(I)I"⟩
abbrev cX3_walker : ByteArray := prog_1_method_7_code
def yX3_walker : MethodName := ⟨RX3, "walker", "(II)I"⟩
abbrev cX3_of : ByteArray := prog_1_method_8_code
def yX3_of : MethodName := ⟨RX3, "of", "(II)I"⟩
abbrev cX3_change : ByteArray := prog_1_method_9_code
def yX3_change : MethodName := ⟨RX3, "change", "(III)I"⟩
abbrev cX3_leaves : ByteArray := prog_1_method_10_code
def yX3_leaves : MethodName := ⟨RX3, "leaves", "(III)I"⟩
abbrev cX3_go : ByteArray := prog_1_method_11_code
def yX3_go : MethodName := ⟨RX3, "go", "(I)I"⟩
abbrev cX3_now : ByteArray := prog_1_method_12_code
def yX3_now : MethodName := ⟨RX3, "now", "(I)I"⟩
abbrev cX3_ahead : ByteArray := prog_1_method_13_code
def yX3_ahead : MethodName := ⟨RX3, "ahead", "(II)I"⟩
abbrev cX3_stand : ByteArray := prog_1_method_14_code
def yX3_stand : MethodName := ⟨RX3, "stand", "(II)I"⟩
abbrev cX3_where : ByteArray := prog_1_method_15_code
def yX3_where : MethodName := ⟨RX3, "where", "(III)I"⟩
abbrev cX3_corn : ByteArray := prog_1_method_16_code
def yX3_corn : MethodName := ⟨RX3, "corn", "(II)I"⟩
abbrev cX3_when : ByteArray := prog_1_method_17_code
def yX3_when : MethodName := ⟨RX3, "when", "(II)I"⟩
abbrev cX3_meet : ByteArray := prog_1_method_18_code
def yX3_meet : MethodName := ⟨RX3, "meet", "(II)I"⟩
abbrev cX3_start : ByteArray := prog_1_method_19_code
def yX3_start : MethodName := ⟨RX3, "start", "(IIII)I"⟩
abbrev cX3_kindsFor : ByteArray := prog_1_method_20_code
def yX3_kindsFor : MethodName := ⟨RX3, "kindsFor", "(IIII)I"⟩
abbrev cX3_moods : ByteArray := prog_1_method_21_code
def yX3_moods : MethodName := ⟨RX3, "moods", "(IIII)I"⟩
abbrev cX3_windFor : ByteArray := prog_1_method_22_code
def yX3_windFor : MethodName := ⟨RX3, "windFor", "(III)I"⟩
abbrev cX3_home : ByteArray := prog_1_method_23_code
def yX3_home : MethodName := ⟨RX3, "home", "(III)I"⟩
abbrev cX3_shut : ByteArray := prog_1_method_24_code
def yX3_shut : MethodName := ⟨RX3, "shut", "(II)I"⟩
abbrev cX3_who : ByteArray := prog_1_method_25_code
def yX3_who : MethodName := ⟨RX3, "who", "(I)I"⟩
abbrev cX3_fits : ByteArray := prog_1_method_26_code
def yX3_fits : MethodName := ⟨RX3, "fits", "(III)I"⟩
abbrev cX3_kinds : ByteArray := prog_1_method_27_code
def yX3_kinds : MethodName := ⟨RX3, "kinds", "(II)I"⟩
abbrev cX3_gales : ByteArray := prog_1_method_28_code
def yX3_gales : MethodName := ⟨RX3, "gales", "(I)I"⟩
abbrev cX3_odds : ByteArray := prog_1_method_29_code
def yX3_odds : MethodName := ⟨RX3, "odds", "(II)J"⟩
abbrev cX3_seed : ByteArray := prog_1_method_30_code
def yX3_seed : MethodName := ⟨RX3, "seed", "(I)I"⟩
abbrev cX3_feed : ByteArray := prog_1_method_31_code
def yX3_feed : MethodName := ⟨RX3, "feed", "(II)I"⟩
abbrev cX3_wipe : ByteArray := prog_1_method_32_code
def yX3_wipe : MethodName := ⟨RX3, "wipe", "()I"⟩
abbrev cX3_text : ByteArray := prog_1_method_33_code
def yX3_text : MethodName := ⟨RX3, "text", "()I"⟩
abbrev cX3_hold : ByteArray := prog_1_method_34_code
def yX3_hold : MethodName := ⟨RX3, "hold", "(II)I"⟩
abbrev cX3_as : ByteArray := prog_1_method_35_code
def yX3_as : MethodName := ⟨RX3, "as", "(II)I"⟩
abbrev cX3_sheet : ByteArray := prog_1_method_36_code
def yX3_sheet : MethodName := ⟨RX3, "sheet", "(III)I"⟩
abbrev cX3_write : ByteArray := prog_1_method_37_code
def yX3_write : MethodName := ⟨RX3, "write", "(III)I"⟩
abbrev cX3_copy : ByteArray := prog_1_method_38_code
def yX3_copy : MethodName := ⟨RX3, "copy", "(IIIII)I"⟩
abbrev cX3_load : ByteArray := prog_1_method_39_code
def yX3_load : MethodName := ⟨RX3, "load", "(I)I"⟩
abbrev cX3_judge : ByteArray := prog_1_method_40_code
def yX3_judge : MethodName := ⟨RX3, "judge", "(I)I"⟩
abbrev cX3_image : ByteArray := prog_1_method_41_code
def yX3_image : MethodName := ⟨RX3, "image", "()I"⟩
abbrev cX3_undo : ByteArray := prog_1_method_42_code
def yX3_undo : MethodName := ⟨RX3, "undo", "()I"⟩
abbrev cX3_tear : ByteArray := prog_1_method_43_code
def yX3_tear : MethodName := ⟨RX3, "tear", "()I"⟩
abbrev cX3_count : ByteArray := prog_1_method_44_code
def yX3_count : MethodName := ⟨RX3, "count", "(I)I"⟩
abbrev cX3_status : ByteArray := prog_1_method_45_code
def yX3_status : MethodName := ⟨RX3, "status", "(I)I"⟩
abbrev cX3_finding : ByteArray := prog_1_method_46_code
def yX3_finding : MethodName := ⟨RX3, "finding", "(I)I"⟩
abbrev cX3_allFound : ByteArray := prog_1_method_47_code
def yX3_allFound : MethodName := ⟨RX3, "allFound", "()I"⟩
abbrev cX3_isIn : ByteArray := prog_1_method_48_code
def yX3_isIn : MethodName := ⟨RX3, "isIn", "(III)Z"⟩
abbrev cX3_isField : ByteArray := prog_1_method_49_code
def yX3_isField : MethodName := ⟨RX3, "isField", "(I)Z"⟩
abbrev cX3_isGate : ByteArray := prog_1_method_50_code
def yX3_isGate : MethodName := ⟨RX3, "isGate", "(I)Z"⟩
abbrev cX3_isManner : ByteArray := prog_1_method_51_code
def yX3_isManner : MethodName := ⟨RX3, "isManner", "(I)Z"⟩
abbrev cX3_isKind : ByteArray := prog_1_method_52_code
def yX3_isKind : MethodName := ⟨RX3, "isKind", "(I)Z"⟩
abbrev cX3_isSpot : ByteArray := prog_1_method_53_code
def yX3_isSpot : MethodName := ⟨RX3, "isSpot", "(I)Z"⟩
abbrev cX3_isSheet : ByteArray := prog_1_method_54_code
def yX3_isSheet : MethodName := ⟨RX3, "isSheet", "(I)Z"⟩
abbrev cX3_isWalker : ByteArray := prog_1_method_55_code
def yX3_isWalker : MethodName := ⟨RX3, "isWalker", "(I)Z"⟩
abbrev cX3_isWish : ByteArray := prog_1_method_56_code
def yX3_isWish : MethodName := ⟨RX3, "isWish", "(IIII)Z"⟩
abbrev cX3_wrongSheet : ByteArray := prog_1_method_57_code
def yX3_wrongSheet : MethodName := ⟨RX3, "wrongSheet", "(I)I"⟩
abbrev cX3_isUnder : ByteArray := prog_1_method_58_code
def yX3_isUnder : MethodName := ⟨RX3, "isUnder", "(II)Z"⟩
abbrev cX3_tryHours : ByteArray := prog_1_method_59_code
def yX3_tryHours : MethodName := ⟨RX3, "tryHours", "(I)V"⟩
abbrev cX3_valuesFor : ByteArray := prog_1_method_60_code
def yX3_valuesFor : MethodName := ⟨RX3, "valuesFor", "(IIIII)I"⟩
abbrev cX3_leastHome : ByteArray := prog_1_method_61_code
def yX3_leastHome : MethodName := ⟨RX3, "leastHome", "(IIII)I"⟩
abbrev cX3_feelsAsTold : ByteArray := prog_1_method_62_code
def yX3_feelsAsTold : MethodName := ⟨RX3, "feelsAsTold", "(LGateManners$Sheet;I)Z"⟩
abbrev cX3_power : ByteArray := prog_1_method_63_code
def yX3_power : MethodName := ⟨RX3, "power", "(II)J"⟩
def RX4 : String := "GateMannersModel"
def TX4 : u_T := fun k => match k with
  | 0 => ("GateMannersModel", "s", "[I", true)
  | 1 => ("GateMannersModel", "kept", "[I", true)
  | 2 => ("GateMannersModel", "before", "[I", true)
  | 3 => ("GateMannersModel", "aside", "[I", true)
  | 4 => ("GateMannersModel", "isKept", "Z", false)
  | 5 => ("GateMannersModel", "findings", "[I", true)
  | 6 => ("GateMannersModel", "tape", "[I", true)
  | 7 => ("GateMannersModel", "taped", "I", false)
  | 8 => ("GateMannersModel", "bitsOf", "[I", true)
  | 9 => ("GateMannersModel", "sizes", "[I", true)
  | 10 => ("GateMannersModel", "numbers", "[I", true)
  | 11 => ("GateMannersModel", "gone", "[I", true)
  | 12 => ("GateMannersModel", "token", "I", false)
  | 13 => ("GateMannersModel", "from", "I", false)
  | 14 => ("GateMannersModel", "to", "I", false)
  | 15 => ("GateMannersModel", "value", "I", false)
  | _ => ("GateMannersModel", "faultAt", "I", false)
def tyX4 : Nat → FieldType := fun k => match k with
  | 0 => .array .int
  | 1 => .array .int
  | 2 => .array .int
  | 3 => .array .int
  | 4 => .boolean
  | 5 => .array .int
  | 6 => .array .int
  | 7 => .int
  | 8 => .array .int
  | 9 => .array .int
  | 10 => .array .int
  | 11 => .array .int
  | 12 => .int
  | 13 => .int
  | 14 => .int
  | 15 => .int
  | _ => .int
theorem nmX4 : ∀ a, a < 17 → ∀ b, b < 17 → a ≠ b → (TX4 a).2.1 ≠ (TX4 b).2.1 := by decide +kernel
theorem tyX4_ok : ∀ k, k < 17 → parseFieldDescriptor (TX4 k).2.2.1 = some (tyX4 k) := by decide +kernel
abbrev cX4_init : ByteArray := prog_6_method_1_code
def yX4_init : MethodName := ⟨RX4, "<init>", "()V"⟩
abbrev cX4_isIn : ByteArray := prog_6_method_2_code
def yX4_isIn : MethodName := ⟨RX4, "isIn", "(JJJ)Z"⟩
abbrev cX4_finds : ByteArray := prog_6_method_3_code
def yX4_finds : MethodName := ⟨RX4, "finds", "(I)I"⟩
abbrev cX4_becomes : ByteArray := prog_6_method_4_code
def yX4_becomes : MethodName := ⟨RX4, "becomes", "(II)I"⟩
abbrev cX4_copyRow : ByteArray := prog_6_method_5_code
def yX4_copyRow : MethodName := ⟨RX4, "copyRow", "([I[I)V"⟩
abbrev cX4_isField : ByteArray := prog_6_method_6_code
def yX4_isField : MethodName := ⟨RX4, "isField", "(I)Z"⟩
abbrev cX4_isGate : ByteArray := prog_6_method_7_code
def yX4_isGate : MethodName := ⟨RX4, "isGate", "(I)Z"⟩
abbrev cX4_isStand : ByteArray := prog_6_method_8_code
def yX4_isStand : MethodName := ⟨RX4, "isStand", "(I)Z"⟩
abbrev cX4_isWalker : ByteArray := prog_6_method_9_code
def yX4_isWalker : MethodName := ⟨RX4, "isWalker", "(I)Z"⟩
abbrev cX4_at : ByteArray := prog_6_method_10_code
def yX4_at : MethodName := ⟨RX4, "at", "(II)I"⟩
abbrev cX4_its : ByteArray := prog_6_method_11_code
def yX4_its : MethodName := ⟨RX4, "its", "(II)I"⟩
abbrev cX4_least : ByteArray := prog_6_method_12_code
def yX4_least : MethodName := ⟨RX4, "least", "(II)I"⟩
abbrev cX4_orNone : ByteArray := prog_6_method_13_code
def yX4_orNone : MethodName := ⟨RX4, "orNone", "(I)I"⟩
abbrev cX4_many : ByteArray := prog_6_method_14_code
def yX4_many : MethodName := ⟨RX4, "many", "(I)I"⟩
abbrev cX4_beasts : ByteArray := prog_6_method_15_code
def yX4_beasts : MethodName := ⟨RX4, "beasts", "(II)I"⟩
abbrev cX4_there : ByteArray := prog_6_method_16_code
def yX4_there : MethodName := ⟨RX4, "there", "(I)I"⟩
abbrev cX4_field : ByteArray := prog_6_method_17_code
def yX4_field : MethodName := ⟨RX4, "field", "(II)I"⟩
abbrev cX4_gate : ByteArray := prog_6_method_18_code
def yX4_gate : MethodName := ⟨RX4, "gate", "(II)I"⟩
abbrev cX4_stands : ByteArray := prog_6_method_19_code
def yX4_stands : MethodName := ⟨RX4, "stands", "(I)I"⟩
abbrev cX4_wind : ByteArray := prog_6_method_20_code
def yX4_wind : MethodName := ⟨RX4, "wind", "(I)I"⟩
abbrev cX4_comes : ByteArray := prog_6_method_21_code
def yX4_comes : MethodName := ⟨RX4, "comes", "(II)V"⟩
abbrev cX4_walker : ByteArray := prog_6_method_22_code
def yX4_walker : MethodName := ⟨RX4, "walker", "(II)I"⟩
abbrev cX4_leavesIt : ByteArray := prog_6_method_23_code
def yX4_leavesIt : MethodName := ⟨RX4, "leavesIt", "(II)I"⟩
abbrev cX4_feels : ByteArray := prog_6_method_24_code
def yX4_feels : MethodName := ⟨RX4, "feels", "(II)I"⟩
abbrev cX4_goesFar : ByteArray := prog_6_method_25_code
def yX4_goesFar : MethodName := ⟨RX4, "goesFar", "(I)I"⟩
abbrev cX4_of : ByteArray := prog_6_method_26_code
def yX4_of : MethodName := ⟨RX4, "of", "(II)I"⟩
abbrev cX4_greatestOf : ByteArray := prog_6_method_27_code
def yX4_greatestOf : MethodName := ⟨RX4, "greatestOf", "(I)I"⟩
abbrev cX4_change : ByteArray := prog_6_method_28_code
def yX4_change : MethodName := ⟨RX4, "change", "(III)I"⟩
abbrev cX4_leaves : ByteArray := prog_6_method_29_code
def yX4_leaves : MethodName := ⟨RX4, "leaves", "(III)I"⟩
abbrev cX4_walks : ByteArray := prog_6_method_30_code
def yX4_walks : MethodName := ⟨RX4, "walks", "(I)V"⟩
abbrev cX4_wander : ByteArray := prog_6_method_31_code
def yX4_wander : MethodName := ⟨RX4, "wander", "()V"⟩
abbrev cX4_hourBut : ByteArray := prog_6_method_32_code
def yX4_hourBut : MethodName := ⟨RX4, "hourBut", "(I)V"⟩
abbrev cX4_goes : ByteArray := prog_6_method_33_code
def yX4_goes : MethodName := ⟨RX4, "goes", "(I)V"⟩
abbrev cX4_allStand : ByteArray := prog_6_method_34_code
def yX4_allStand : MethodName := ⟨RX4, "allStand", "()I"⟩
abbrev cX4_go : ByteArray := prog_6_method_35_code
def yX4_go : MethodName := ⟨RX4, "go", "(I)I"⟩
abbrev cX4_beastsAll : ByteArray := prog_6_method_36_code
def yX4_beastsAll : MethodName := ⟨RX4, "beastsAll", "()I"⟩
abbrev cX4_notShut : ByteArray := prog_6_method_37_code
def yX4_notShut : MethodName := ⟨RX4, "notShut", "()I"⟩
abbrev cX4_passedAll : ByteArray := prog_6_method_38_code
def yX4_passedAll : MethodName := ⟨RX4, "passedAll", "()I"⟩
abbrev cX4_fullest : ByteArray := prog_6_method_39_code
def yX4_fullest : MethodName := ⟨RX4, "fullest", "()I"⟩
abbrev cX4_now : ByteArray := prog_6_method_40_code
def yX4_now : MethodName := ⟨RX4, "now", "(I)I"⟩
abbrev cX4_thenAt : ByteArray := prog_6_method_41_code
def yX4_thenAt : MethodName := ⟨RX4, "thenAt", "(II)I"⟩
abbrev cX4_ahead : ByteArray := prog_6_method_42_code
def yX4_ahead : MethodName := ⟨RX4, "ahead", "(II)I"⟩
abbrev cX4_stand : ByteArray := prog_6_method_43_code
def yX4_stand : MethodName := ⟨RX4, "stand", "(II)I"⟩
abbrev cX4_where : ByteArray := prog_6_method_44_code
def yX4_where : MethodName := ⟨RX4, "where", "(III)I"⟩
abbrev cX4_corn : ByteArray := prog_6_method_45_code
def yX4_corn : MethodName := ⟨RX4, "corn", "(II)I"⟩
abbrev cX4_when : ByteArray := prog_6_method_46_code
def yX4_when : MethodName := ⟨RX4, "when", "(II)I"⟩
abbrev cX4_meet : ByteArray := prog_6_method_47_code
def yX4_meet : MethodName := ⟨RX4, "meet", "(II)I"⟩
abbrev cX4_isAsked : ByteArray := prog_6_method_48_code
def yX4_isAsked : MethodName := ⟨RX4, "isAsked", "(IIII)Z"⟩
abbrev cX4_withWhich : ByteArray := prog_6_method_49_code
def yX4_withWhich : MethodName := ⟨RX4, "withWhich", "(IIIII)I"⟩
abbrev cX4_lowest : ByteArray := prog_6_method_50_code
def yX4_lowest : MethodName := ⟨RX4, "lowest", "(I)I"⟩
abbrev cX4_start : ByteArray := prog_6_method_51_code
def yX4_start : MethodName := ⟨RX4, "start", "(IIII)I"⟩
abbrev cX4_kindsFor : ByteArray := prog_6_method_52_code
def yX4_kindsFor : MethodName := ⟨RX4, "kindsFor", "(IIII)I"⟩
abbrev cX4_moods : ByteArray := prog_6_method_53_code
def yX4_moods : MethodName := ⟨RX4, "moods", "(IIII)I"⟩
abbrev cX4_windFor : ByteArray := prog_6_method_54_code
def yX4_windFor : MethodName := ⟨RX4, "windFor", "(III)I"⟩
abbrev cX4_home : ByteArray := prog_6_method_55_code
def yX4_home : MethodName := ⟨RX4, "home", "(III)I"⟩
abbrev cX4_shut : ByteArray := prog_6_method_56_code
def yX4_shut : MethodName := ⟨RX4, "shut", "(II)I"⟩
abbrev cX4_isTold : ByteArray := prog_6_method_57_code
def yX4_isTold : MethodName := ⟨RX4, "isTold", "(III)Z"⟩
abbrev cX4_allBut : ByteArray := prog_6_method_58_code
def yX4_allBut : MethodName := ⟨RX4, "allBut", "(I)I"⟩
abbrev cX4_who : ByteArray := prog_6_method_59_code
def yX4_who : MethodName := ⟨RX4, "who", "(I)I"⟩
abbrev cX4_fits : ByteArray := prog_6_method_60_code
def yX4_fits : MethodName := ⟨RX4, "fits", "(III)I"⟩
abbrev cX4_isInMood : ByteArray := prog_6_method_61_code
def yX4_isInMood : MethodName := ⟨RX4, "isInMood", "(II)Z"⟩
abbrev cX4_kinds : ByteArray := prog_6_method_62_code
def yX4_kinds : MethodName := ⟨RX4, "kinds", "(II)I"⟩
abbrev cX4_draw : ByteArray := prog_6_method_63_code
def yX4_draw : MethodName := ⟨RX4, "draw", "()I"⟩
abbrev cX4_gales : ByteArray := prog_6_method_64_code
def yX4_gales : MethodName := ⟨RX4, "gales", "(I)I"⟩
abbrev cX4_odds : ByteArray := prog_6_method_65_code
def yX4_odds : MethodName := ⟨RX4, "odds", "(II)J"⟩
abbrev cX4_seed : ByteArray := prog_6_method_66_code
def yX4_seed : MethodName := ⟨RX4, "seed", "(I)I"⟩
abbrev cX4_feed : ByteArray := prog_6_method_67_code
def yX4_feed : MethodName := ⟨RX4, "feed", "(II)I"⟩
abbrev cX4_wipe : ByteArray := prog_6_method_68_code
def yX4_wipe : MethodName := ⟨RX4, "wipe", "()I"⟩
abbrev cX4_isLetter : ByteArray := prog_6_method_69_code
def yX4_isLetter : MethodName := ⟨RX4, "isLetter", "(I)Z"⟩
abbrev cX4_isDigit : ByteArray := prog_6_method_70_code
def yX4_isDigit : MethodName := ⟨RX4, "isDigit", "(I)Z"⟩
abbrev cX4_byteAt : ByteArray := prog_6_method_71_code
def yX4_byteAt : MethodName := ⟨RX4, "byteAt", "(I)I"⟩
abbrev cX4_nextToken : ByteArray := prog_6_method_72_code
def yX4_nextToken : MethodName := ⟨RX4, "nextToken", "()V"⟩
abbrev cX4_has3 : ByteArray := prog_6_method_73_code
def yX4_has3 : MethodName := ⟨RX4, "has3", "(IIII)Z"⟩
abbrev cX4_isWord : ByteArray := prog_6_method_74_code
def yX4_isWord : MethodName := ⟨RX4, "isWord", "(I)Z"⟩
abbrev cX4_fails : ByteArray := prog_6_method_75_code
def yX4_fails : MethodName := ⟨RX4, "fails", "()Z"⟩
abbrev cX4_isFour : ByteArray := prog_6_method_76_code
def yX4_isFour : MethodName := ⟨RX4, "isFour", "(IIII)Z"⟩
abbrev cX4_isFive : ByteArray := prog_6_method_77_code
def yX4_isFive : MethodName := ⟨RX4, "isFive", "(IIIII)Z"⟩
abbrev cX4_isSix : ByteArray := prog_6_method_78_code
def yX4_isSix : MethodName := ⟨RX4, "isSix", "(IIIIII)Z"⟩
abbrev cX4_isNumber : ByteArray := prog_6_method_79_code
def yX4_isNumber : MethodName := ⟨RX4, "isNumber", "(II)Z"⟩
abbrev cX4_kindHere : ByteArray := prog_6_method_80_code
def yX4_kindHere : MethodName := ⟨RX4, "kindHere", "()I"⟩
abbrev cX4_standHere : ByteArray := prog_6_method_81_code
def yX4_standHere : MethodName := ⟨RX4, "standHere", "()I"⟩
abbrev cX4_walkerHere : ByteArray := prog_6_method_82_code
def yX4_walkerHere : MethodName := ⟨RX4, "walkerHere", "(I)Z"⟩
abbrev cX4_gateHere : ByteArray := prog_6_method_83_code
def yX4_gateHere : MethodName := ⟨RX4, "gateHere", "(I)Z"⟩
abbrev cX4_beastsHere : ByteArray := prog_6_method_84_code
def yX4_beastsHere : MethodName := ⟨RX4, "beastsHere", "()Z"⟩
abbrev cX4_windHere : ByteArray := prog_6_method_85_code
def yX4_windHere : MethodName := ⟨RX4, "windHere", "()Z"⟩
abbrev cX4_itemHere : ByteArray := prog_6_method_86_code
def yX4_itemHere : MethodName := ⟨RX4, "itemHere", "()Z"⟩
abbrev cX4_text : ByteArray := prog_6_method_87_code
def yX4_text : MethodName := ⟨RX4, "text", "()I"⟩
abbrev cX4_hold : ByteArray := prog_6_method_88_code
def yX4_hold : MethodName := ⟨RX4, "hold", "(II)I"⟩
abbrev cX4_isUnder : ByteArray := prog_6_method_89_code
def yX4_isUnder : MethodName := ⟨RX4, "isUnder", "(II)Z"⟩
abbrev cX4_as : ByteArray := prog_6_method_90_code
def yX4_as : MethodName := ⟨RX4, "as", "(II)I"⟩
abbrev cX4_isSheet : ByteArray := prog_6_method_91_code
def yX4_isSheet : MethodName := ⟨RX4, "isSheet", "(I)Z"⟩
abbrev cX4_sheet : ByteArray := prog_6_method_92_code
def yX4_sheet : MethodName := ⟨RX4, "sheet", "(III)I"⟩
abbrev cX4_write : ByteArray := prog_6_method_93_code
def yX4_write : MethodName := ⟨RX4, "write", "(III)I"⟩
abbrev cX4_copy : ByteArray := prog_6_method_94_code
def yX4_copy : MethodName := ⟨RX4, "copy", "(IIIII)I"⟩
abbrev cX4_wants : ByteArray := prog_6_method_95_code
def yX4_wants : MethodName := ⟨RX4, "wants", "(I)I"⟩
abbrev cX4_load : ByteArray := prog_6_method_96_code
def yX4_load : MethodName := ⟨RX4, "load", "(I)I"⟩
abbrev cX4_judge : ByteArray := prog_6_method_97_code
def yX4_judge : MethodName := ⟨RX4, "judge", "(I)I"⟩
abbrev cX4_image : ByteArray := prog_6_method_98_code
def yX4_image : MethodName := ⟨RX4, "image", "()I"⟩
abbrev cX4_undo : ByteArray := prog_6_method_99_code
def yX4_undo : MethodName := ⟨RX4, "undo", "()I"⟩
abbrev cX4_tear : ByteArray := prog_6_method_100_code
def yX4_tear : MethodName := ⟨RX4, "tear", "()I"⟩
abbrev cX4_count : ByteArray := prog_6_method_101_code
def yX4_count : MethodName := ⟨RX4, "count", "(I)I"⟩
abbrev cX4_status : ByteArray := prog_6_method_102_code
def yX4_status : MethodName := ⟨RX4, "status", "(I)I"⟩
def RJ6 : String := "java/lang/Integer"
def TJ6 : u_T := fun k => match k with
  | _ => ("", "", "", false)
def tyJ6 : Nat → FieldType := fun k => match k with
  | _ => .int
abbrev cJ6_numberOfTrailingZeros_0f7a4 : ByteArray := prog_7_method_48_code
def yJ6_numberOfTrailingZeros_0f7a4 : MethodName := ⟨RJ6, "numberOfTrailingZeros", "(I)I"⟩
abbrev cJ6_bitCount_0f7a4 : ByteArray := prog_7_method_49_code
def yJ6_bitCount_0f7a4 : MethodName := ⟨RJ6, "bitCount", "(I)I"⟩
def RJ9 : String := "java/lang/Math"
def TJ9 : u_T := fun k => match k with
  | _ => ("", "", "", false)
def tyJ9 : Nat → FieldType := fun k => match k with
  | _ => .int
abbrev cJ9_max_7cf53 : ByteArray := prog_8_method_65_code
def yJ9_max_7cf53 : MethodName := ⟨RJ9, "max", "(II)I"⟩
abbrev cJ9_min_7cf53 : ByteArray := prog_8_method_69_code
def yJ9_min_7cf53 : MethodName := ⟨RJ9, "min", "(II)I"⟩
def RJ0 : String := "java/lang/String"
def TJ0 : u_T := fun k => match k with
  | _ => ("", "", "", false)
def tyJ0 : Nat → FieldType := fun k => match k with
  | _ => .int
abbrev cJ0_toCharArray_70df3 : ByteArray := prog_9_method_129_code
def yJ0_toCharArray_70df3 : MethodName := ⟨RJ0, "toCharArray", "()[C"⟩
abbrev cJ0_isLatin1_aae02 : ByteArray := prog_9_method_154_code
def yJ0_isLatin1_aae02 : MethodName := ⟨RJ0, "isLatin1", "()Z"⟩
abbrev cJ0_checkBoundsOffCount_cabcc : ByteArray := prog_9_method_157_code
def yJ0_checkBoundsOffCount_cabcc : MethodName := ⟨RJ0, "checkBoundsOffCount", "(III)I"⟩
def RJ1 : String := "java/lang/StringLatin1"
def TJ1 : u_T := fun k => match k with
  | _ => ("", "", "", false)
def tyJ1 : Nat → FieldType := fun k => match k with
  | _ => .int
abbrev cJ1_toChars_9d188 : ByteArray := prog_10_method_9_code
def yJ1_toChars_9d188 : MethodName := ⟨RJ1, "toChars", "([B)[C"⟩
abbrev cJ1_inflate_03870 : ByteArray := prog_10_method_49_code
def yJ1_inflate_03870 : MethodName := ⟨RJ1, "inflate", "([BI[CII)V"⟩
def RJ2 : String := "java/lang/StringUTF16"
def TJ2 : u_T := fun k => match k with
  | _ => ("", "", "", false)
def tyJ2 : Nat → FieldType := fun k => match k with
  | _ => .int
abbrev cJ2_getChar_3b067 : ByteArray := prog_11_method_5_code
def yJ2_getChar_3b067 : MethodName := ⟨RJ2, "getChar", "([BI)C"⟩
abbrev cJ2_length_9d52b : ByteArray := prog_11_method_6_code
def yJ2_length_9d52b : MethodName := ⟨RJ2, "length", "([B)I"⟩
abbrev cJ2_toChars_9d188 : ByteArray := prog_11_method_13_code
def yJ2_toChars_9d188 : MethodName := ⟨RJ2, "toChars", "([B)[C"⟩
abbrev cJ2_getChars_a1a8b : ByteArray := prog_11_method_26_code
def yJ2_getChars_a1a8b : MethodName := ⟨RJ2, "getChars", "([BII[CI)V"⟩
abbrev cJ2_checkBoundsOffCount_d044e : ByteArray := prog_11_method_94_code
def yJ2_checkBoundsOffCount_d044e : MethodName := ⟨RJ2, "checkBoundsOffCount", "(II[B)V"⟩
def RJ10 : String := "java/lang/System"
def TJ10 : u_T := fun k => match k with
  | _ => ("", "", "", false)
def tyJ10 : Nat → FieldType := fun k => match k with
  | _ => .int
def RJ3 : String := "jdk/internal/util/Preconditions"
def TJ3 : u_T := fun k => match k with
  | _ => ("", "", "", false)
def tyJ3 : Nat → FieldType := fun k => match k with
  | _ => .int
abbrev cJ3_checkFromIndexSize_8c36e : ByteArray := prog_13_method_13_code
def yJ3_checkFromIndexSize_8c36e : MethodName := ⟨RJ3, "checkFromIndexSize", "(IIILjava/util/function/BiFunction;)I"⟩
def RL : String := "GateMannersLaw"
abbrev cL_law : ByteArray := code
def yL_law : MethodName := ⟨RL, "law", "([I)Z"⟩
abbrev vwCl : List vw_C := [(RX0, TX0, 8), (RX1, TX1, 3), (RX2, TX2, 7), (RX3, TX3, 7), (RX4, TX4, 17)]
