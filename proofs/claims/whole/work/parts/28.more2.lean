/-! two sheets at once -/
def w_SL (Z : kz_Z) (A : Nat → Nat → Nat) (S : Nat → SS) (l : List Nat) : va_W := l.flatMap (fun k => w_S Z (A (5 + k)) (S k))
def k_oth (y x : Nat) : List Nat := [0, 1, 2, 3].filter (fun k => !(k == y) && !(k == x))
theorem k_oth_perm : ∀ y, y < 4 → ∀ x, x < 4 → x ≠ y → ([0, 1, 2, 3] : List Nat).Perm (y :: x :: k_oth y x) := by decide
theorem w_SS_SL (Z : kz_Z) (A : Nat → Nat → Nat) (S : Nat → SS) : w_SS Z A S = w_SL Z A S [0, 1, 2, 3] := by
  unfold w_SS w_SL
  simp [List.flatMap]
theorem k_foc2 {Z : kz_Z} {A : Nat → Nat → Nat} {S : Nat → SS} {y x : Nat} (hy : y < 4) (hx : x < 4) (hne : x ≠ y) : (w_SS Z A S).Perm (w_S Z (A (5 + y)) (S y) ++ (w_S Z (A (5 + x)) (S x) ++ w_SL Z A S (k_oth y x))) := by
  rw [w_SS_SL]
  exact (k_oth_perm y hy x hx hne).flatMap_right _
theorem w_SL_up {Z : kz_Z} {A : Nat → Nat → Nat} {S : Nat → SS} {x : Nat} {v : SS} : ∀ l : List Nat, x ∉ l → w_SL Z A (k_upS S x v) l = w_SL Z A S l
  | [], _ => rfl
  | k :: l, h => by
    have h1 : k ≠ x := fun e => h (by rw [e]; exact List.mem_cons_self)
    have ih := w_SL_up (Z := Z) (A := A) (S := S) (v := v) l (fun q => h (List.mem_cons_of_mem _ q))
    show w_S Z (A (5 + k)) (k_upS S x v k) ++ w_SL Z A (k_upS S x v) l = w_S Z (A (5 + k)) (S k) ++ w_SL Z A S l
    rw [ih, show k_upS S x v k = S k from if_neg h1]
theorem k_unf2 {Z : kz_Z} {A : Nat → Nat → Nat} {S : Nat → SS} {y x : Nat} (hy : y < 4) (hx : x < 4) (hne : x ≠ y) (v : SS) : (w_S Z (A (5 + y)) (S y) ++ (w_S Z (A (5 + x)) v ++ w_SL Z A S (k_oth y x))).Perm (w_SS Z A (k_upS S x v)) := by
  have h := (k_foc2 (Z := Z) (A := A) (S := k_upS S x v) hy hx hne).symm
  rw [show k_upS S x v y = S y from if_neg (Ne.symm hne), show k_upS S x v x = v from if_pos rfl, w_SL_up _ (by simp [k_oth])] at h
  exact h
theorem s_has_nat {z : Nat} {f n : Int32} (hz : z ≤ 40) (h : s_has (nI z) f n) : f.toNatClampNeg + n.toNatClampNeg ≤ z := by
  obtain ⟨h1, h2, h3, h4⟩ := h
  obtain ⟨a, ha, rfl⟩ := nI_of h1
  obtain ⟨b, hb, rfl⟩ := nI_of h2
  rw [nI_clamp ha, nI_clamp hb]
  rw [nI_ltI (by omega) hb] at h3
  rw [pk_sub (by omega), nI_ltI (by omega) ha] at h4
  omega
def o_copyd (X : AS) (y : Nat) (f : Int32) (x : Nat) (t n : Int32) : Int32 × AS := (n, a_setS X x (va_cpy (s_nm (a_S X y)) (s_nm (a_S X x)) f.toNatClampNeg t.toNatClampNeg n.toNatClampNeg, s_bt (a_S X x), s_sz (a_S X x)))
def o_copys (X : AS) (y : Nat) (f : Int32) (x : Nat) (t n : Int32) : Int32 × AS := if s_bt (a_S X y) = 0 then a_fin X 5 else if s_bt (a_S X x) = 0 then a_fin X 5 else if s_bt (a_S X y) = s_bt (a_S X x) then (if s_has (s_sz (a_S X y)) f n then (if s_has (s_sz (a_S X x)) t n then o_copyd X y f x t n else a_fin X 0) else a_fin X 0) else a_fin X 2
def o_copy (X : AS) (s f t u n : Int32) : Int32 × AS := if inR s 0 3 then (if inR t 0 3 then o_copys X s.toNatClampNeg f t.toNatClampNeg u n else a_fin X 0) else a_fin X 0
/-! the tape grows -/
def tp_put (p : TP) (v : Int32) : TP := (upd p.1 p.2 (v &&& 255), p.2 + 1)
theorem t_put (p : TP) (v : Int32) : upd (fun k => (p.1 k).toInt8.toInt32) p.2 (vp_nar .byte v.toInt8.toInt32) = fun k => ((tp_put p v).1 k).toInt8.toInt32 := by
  funext k
  by_cases h : k = p.2
  · subst h
    show upd _ _ _ _ = (upd p.1 p.2 (v &&& 255) p.2).toInt8.toInt32
    rw [pk_us, pk_us, pk_vb]
    congr 1
    apply Int8.toBitVec_inj.mp
    apply BitVec.eq_of_getLsbD_eq
    intro i hi
    have e1 : v.toInt8.toBitVec = v.toBitVec.signExtend 8 := rfl
    have e2 : (v &&& 255).toInt8.toBitVec = (v.toBitVec &&& 255#32).signExtend 8 := rfl
    rw [e1, e2, BitVec.getLsbD_signExtend, BitVec.getLsbD_signExtend]
    have e3 : (255#32 : BitVec 32).getLsbD i = true := by
      rcases (show i = 0 ∨ i = 1 ∨ i = 2 ∨ i = 3 ∨ i = 4 ∨ i = 5 ∨ i = 6 ∨ i = 7 by omega) with rfl | rfl | rfl | rfl | rfl | rfl | rfl | rfl <;> rfl
    rw [if_pos (show i < 32 by omega), if_pos (show i < 32 by omega), BitVec.getLsbD_and, e3, Bool.and_true]
  · show upd _ _ _ k = (upd p.1 p.2 (v &&& 255) k).toInt8.toInt32
    rw [pk_un h, pk_un h]
def tp_feed (p : TP) (b : Int32) : Nat → TP
  | 0 => p
  | i + 1 => tp_feed (tp_put p (j_us b (nI (8 * i)))) b i
def a_setT (X : AS) (p : TP) : AS := (a_F X, a_K X, a_kp X, a_fd X, p, a_S X)
def o_feed (X : AS) (b n : Int32) : Int32 × AS := if inR n 1 4 then (if nI (a_tp X).2 + n ≤ 120 then (nI ((a_tp X).2 + n.toNatClampNeg), a_setT X (tp_feed (a_tp X) b n.toNatClampNeg)) else a_fin X 1) else a_fin X 0
