/-! CALL BY CALL: the same answer from both, and what is kept -/
theorem lw_beasts {X Y : AS} (h : a_inv X) (hr : a_rel X Y) (a b : Int32) : (o_beasts X a b).1 = (o_beasts Y a b).1 ∧ a_inv (o_beasts X a b).2 ∧ a_rel (o_beasts X a b).2 (o_beasts Y a b).2 := by
  have hi : a_inv (o_beasts X a b).2 := by
    rw [o_beasts]
    by_cases c1 : inR a 0 8
    · rw [if_pos c1]
      by_cases c2 : inR b 0 9999
      · rw [if_pos c2]; exact inv_F h (inv_bs h.1)
      · rw [if_neg c2]; exact inv_fin h
    · rw [if_neg c1]; exact inv_fin h
  have hb : ∀ K, a_kp X = 0 → o_beasts (a_setK X K) a b = ((o_beasts X a b).1, a_setK (o_beasts X a b).2 K) := fun K h0 => by
    simp only [o_beasts, isW, isWish, a_miss, a_sz, o_with, o_none, o_homes, o_asq, o_writes, o_loads, o_judges, o_copys, o_copyd, eK_F, eK_S, eK_fd, eK_tp, eK_kp, eK_told, eK_who, eK_fits, eK_kinds]
    repeat' split
    all_goals rfl
  have hk : a_kp X = 0 → a_kp (o_beasts X a b).2 = 0 := fun h0 => by
    unfold o_beasts
    repeat' split
    all_goals exact h0
  have hz := rel_of (o := fun Z => o_beasts Z a b) hr hb hk
  exact ⟨hz.1, hi, hz.2⟩
theorem lw_field {X Y : AS} (h : a_inv X) (hr : a_rel X Y) (a b : Int32) : (o_field X a b).1 = (o_field Y a b).1 ∧ a_inv (o_field X a b).2 ∧ a_rel (o_field X a b).2 (o_field Y a b).2 := by
  have hi : a_inv (o_field X a b).2 := by
    unfold o_field
    repeat' split
    all_goals exact h
  have hb : ∀ K, a_kp X = 0 → o_field (a_setK X K) a b = ((o_field X a b).1, a_setK (o_field X a b).2 K) := fun K h0 => by
    simp only [o_field, isW, isWish, a_miss, a_sz, o_with, o_none, o_homes, o_asq, o_writes, o_loads, o_judges, o_copys, o_copyd, eK_F, eK_S, eK_fd, eK_tp, eK_kp, eK_told, eK_who, eK_fits, eK_kinds]
    repeat' split
    all_goals rfl
  have hk : a_kp X = 0 → a_kp (o_field X a b).2 = 0 := fun h0 => by
    unfold o_field
    repeat' split
    all_goals exact h0
  have hz := rel_of (o := fun Z => o_field Z a b) hr hb hk
  exact ⟨hz.1, hi, hz.2⟩
theorem lw_gate {X Y : AS} (h : a_inv X) (hr : a_rel X Y) (a b : Int32) : (o_gate X a b).1 = (o_gate Y a b).1 ∧ a_inv (o_gate X a b).2 ∧ a_rel (o_gate X a b).2 (o_gate Y a b).2 := by
  have hi : a_inv (o_gate X a b).2 := by
    rw [o_gate]
    by_cases c1 : inR a 0 7
    · rw [if_pos c1]
      by_cases c2 : inR b 0 3
      · rw [if_pos c2]; exact inv_F h (inv_gs h.1 c2)
      · rw [if_neg c2]; exact inv_fin h
    · rw [if_neg c1]; exact inv_fin h
  have hb : ∀ K, a_kp X = 0 → o_gate (a_setK X K) a b = ((o_gate X a b).1, a_setK (o_gate X a b).2 K) := fun K h0 => by
    simp only [o_gate, isW, isWish, a_miss, a_sz, o_with, o_none, o_homes, o_asq, o_writes, o_loads, o_judges, o_copys, o_copyd, eK_F, eK_S, eK_fd, eK_tp, eK_kp, eK_told, eK_who, eK_fits, eK_kinds]
    repeat' split
    all_goals rfl
  have hk : a_kp X = 0 → a_kp (o_gate X a b).2 = 0 := fun h0 => by
    unfold o_gate
    repeat' split
    all_goals exact h0
  have hz := rel_of (o := fun Z => o_gate Z a b) hr hb hk
  exact ⟨hz.1, hi, hz.2⟩
theorem lw_stands {X Y : AS} (h : a_inv X) (hr : a_rel X Y) (a : Int32) : (o_stands X a).1 = (o_stands Y a).1 ∧ a_inv (o_stands X a).2 ∧ a_rel (o_stands X a).2 (o_stands Y a).2 := by
  have hi : a_inv (o_stands X a).2 := by
    unfold o_stands
    repeat' split
    all_goals exact h
  have hb : ∀ K, a_kp X = 0 → o_stands (a_setK X K) a = ((o_stands X a).1, a_setK (o_stands X a).2 K) := fun K h0 => by
    simp only [o_stands, isW, isWish, a_miss, a_sz, o_with, o_none, o_homes, o_asq, o_writes, o_loads, o_judges, o_copys, o_copyd, eK_F, eK_S, eK_fd, eK_tp, eK_kp, eK_told, eK_who, eK_fits, eK_kinds]
    repeat' split
    all_goals rfl
  have hk : a_kp X = 0 → a_kp (o_stands X a).2 = 0 := fun h0 => by
    unfold o_stands
    repeat' split
    all_goals exact h0
  have hz := rel_of (o := fun Z => o_stands Z a) hr hb hk
  exact ⟨hz.1, hi, hz.2⟩
theorem lw_wind {X Y : AS} (h : a_inv X) (hr : a_rel X Y) (a : Int32) : (o_wind X a).1 = (o_wind Y a).1 ∧ a_inv (o_wind X a).2 ∧ a_rel (o_wind X a).2 (o_wind Y a).2 := by
  have hi : a_inv (o_wind X a).2 := by
    rw [o_wind]
    by_cases c1 : inR a 0 9
    · rw [if_pos c1]; exact inv_F h (inv_wd h.1)
    · rw [if_neg c1]; exact inv_fin h
  have hb : ∀ K, a_kp X = 0 → o_wind (a_setK X K) a = ((o_wind X a).1, a_setK (o_wind X a).2 K) := fun K h0 => by
    simp only [o_wind, isW, isWish, a_miss, a_sz, o_with, o_none, o_homes, o_asq, o_writes, o_loads, o_judges, o_copys, o_copyd, eK_F, eK_S, eK_fd, eK_tp, eK_kp, eK_told, eK_who, eK_fits, eK_kinds]
    repeat' split
    all_goals rfl
  have hk : a_kp X = 0 → a_kp (o_wind X a).2 = 0 := fun h0 => by
    unfold o_wind
    repeat' split
    all_goals exact h0
  have hz := rel_of (o := fun Z => o_wind Z a) hr hb hk
  exact ⟨hz.1, hi, hz.2⟩
theorem lw_walker {X Y : AS} (h : a_inv X) (hr : a_rel X Y) (a b : Int32) : (o_walker X a b).1 = (o_walker Y a b).1 ∧ a_inv (o_walker X a b).2 ∧ a_rel (o_walker X a b).2 (o_walker Y a b).2 := by
  have hi : a_inv (o_walker X a b).2 := by
    rw [o_walker]
    by_cases c1 : inR a 0 6
    · rw [if_pos c1]
      by_cases c2 : inR b 0 8
      · rw [if_pos c2]
        by_cases c3 : f_m (a_F X) = 8
        · rw [if_pos c3]; exact inv_fin h
        · rw [if_neg c3]; exact inv_F h (inv_add h.1 (by have := inv_m8 h.1; omega) c1)
      · rw [if_neg c2]; exact inv_fin h
    · rw [if_neg c1]; exact inv_fin h
  have hb : ∀ K, a_kp X = 0 → o_walker (a_setK X K) a b = ((o_walker X a b).1, a_setK (o_walker X a b).2 K) := fun K h0 => by
    simp only [o_walker, isW, isWish, a_miss, a_sz, o_with, o_none, o_homes, o_asq, o_writes, o_loads, o_judges, o_copys, o_copyd, eK_F, eK_S, eK_fd, eK_tp, eK_kp, eK_told, eK_who, eK_fits, eK_kinds]
    repeat' split
    all_goals rfl
  have hk : a_kp X = 0 → a_kp (o_walker X a b).2 = 0 := fun h0 => by
    unfold o_walker
    repeat' split
    all_goals exact h0
  have hz := rel_of (o := fun Z => o_walker Z a b) hr hb hk
  exact ⟨hz.1, hi, hz.2⟩
theorem lw_of {X Y : AS} (h : a_inv X) (hr : a_rel X Y) (a b : Int32) : (o_of X a b).1 = (o_of Y a b).1 ∧ a_inv (o_of X a b).2 ∧ a_rel (o_of X a b).2 (o_of Y a b).2 := by
  have hi : a_inv (o_of X a b).2 := by
    unfold o_of
    repeat' split
    all_goals exact h
  have hb : ∀ K, a_kp X = 0 → o_of (a_setK X K) a b = ((o_of X a b).1, a_setK (o_of X a b).2 K) := fun K h0 => by
    simp only [o_of, isW, isWish, a_miss, a_sz, o_with, o_none, o_homes, o_asq, o_writes, o_loads, o_judges, o_copys, o_copyd, eK_F, eK_S, eK_fd, eK_tp, eK_kp, eK_told, eK_who, eK_fits, eK_kinds]
    repeat' split
    all_goals rfl
  have hk : a_kp X = 0 → a_kp (o_of X a b).2 = 0 := fun h0 => by
    unfold o_of
    repeat' split
    all_goals exact h0
  have hz := rel_of (o := fun Z => o_of Z a b) hr hb hk
  exact ⟨hz.1, hi, hz.2⟩
theorem lw_change {X Y : AS} (h : a_inv X) (hr : a_rel X Y) (a b c : Int32) : (o_change X a b c).1 = (o_change Y a b c).1 ∧ a_inv (o_change X a b c).2 ∧ a_rel (o_change X a b c).2 (o_change Y a b c).2 := by
  have hi : a_inv (o_change X a b c).2 := by
    rw [o_change]
    by_cases c1 : isW X a
    · rw [if_pos c1]
      by_cases c2 : inR b 0 4
      · rw [if_pos c2]
        by_cases c3 : inR c 0 (o_most b.toNatClampNeg)
        · rw [if_pos c3]
          obtain ⟨k, hk, rfl⟩ := kn_rng (n := 4) c2 rfl
          rw [nI_clamp (by omega)] at c3 ⊢
          refine inv_F h ?_
          rcases (show k = 0 ∨ k = 1 ∨ k = 2 ∨ k = 3 ∨ k = 4 by omega) with rfl | rfl | rfl | rfl | rfl
          · exact inv_kd h.1 c3
          · exact h.1
          · exact h.1
          · exact inv_md h.1 c3
          · exact h.1
        · rw [if_neg c3]; exact inv_fin h
      · rw [if_neg c2]; exact inv_fin h
    · rw [if_neg c1]; exact inv_fin h
  have hb : ∀ K, a_kp X = 0 → o_change (a_setK X K) a b c = ((o_change X a b c).1, a_setK (o_change X a b c).2 K) := fun K h0 => by
    simp only [o_change, isW, isWish, a_miss, a_sz, o_with, o_none, o_homes, o_asq, o_writes, o_loads, o_judges, o_copys, o_copyd, eK_F, eK_S, eK_fd, eK_tp, eK_kp, eK_told, eK_who, eK_fits, eK_kinds]
    repeat' split
    all_goals rfl
  have hk : a_kp X = 0 → a_kp (o_change X a b c).2 = 0 := fun h0 => by
    unfold o_change
    repeat' split
    all_goals exact h0
  have hz := rel_of (o := fun Z => o_change Z a b c) hr hb hk
  exact ⟨hz.1, hi, hz.2⟩
theorem lw_leaves {X Y : AS} (h : a_inv X) (hr : a_rel X Y) (a b c : Int32) : (o_leaves X a b c).1 = (o_leaves Y a b c).1 ∧ a_inv (o_leaves X a b c).2 ∧ a_rel (o_leaves X a b c).2 (o_leaves Y a b c).2 := by
  have hi : a_inv (o_leaves X a b c).2 := by
    unfold o_leaves
    repeat' split
    all_goals exact h
  have hb : ∀ K, a_kp X = 0 → o_leaves (a_setK X K) a b c = ((o_leaves X a b c).1, a_setK (o_leaves X a b c).2 K) := fun K h0 => by
    simp only [o_leaves, isW, isWish, a_miss, a_sz, o_with, o_none, o_homes, o_asq, o_writes, o_loads, o_judges, o_copys, o_copyd, eK_F, eK_S, eK_fd, eK_tp, eK_kp, eK_told, eK_who, eK_fits, eK_kinds]
    repeat' split
    all_goals rfl
  have hk : a_kp X = 0 → a_kp (o_leaves X a b c).2 = 0 := fun h0 => by
    unfold o_leaves
    repeat' split
    all_goals exact h0
  have hz := rel_of (o := fun Z => o_leaves Z a b c) hr hb hk
  exact ⟨hz.1, hi, hz.2⟩
theorem lw_go {X Y : AS} (h : a_inv X) (hr : a_rel X Y) (a : Int32) : (o_go X a).1 = (o_go Y a).1 ∧ a_inv (o_go X a).2 ∧ a_rel (o_go X a).2 (o_go Y a).2 := by
  have hi : a_inv (o_go X a).2 := by
    rw [o_go]
    by_cases c1 : inR a 1 60
    · rw [if_pos c1]
      by_cases c2 : f_hr (a_F X) + a ≤ 99999
      · rw [if_pos c2]
        obtain ⟨k, ⟨hk1, hk⟩, rfl⟩ := kn_rng1 (n := 60) c1 rfl
        rw [nI_clamp (by omega)]
        exact inv_F h (inv_hours h.1 hk c2)
      · rw [if_neg c2]; exact inv_fin h
    · rw [if_neg c1]; exact inv_fin h
  have hb : ∀ K, a_kp X = 0 → o_go (a_setK X K) a = ((o_go X a).1, a_setK (o_go X a).2 K) := fun K h0 => by
    simp only [o_go, isW, isWish, a_miss, a_sz, o_with, o_none, o_homes, o_asq, o_writes, o_loads, o_judges, o_copys, o_copyd, eK_F, eK_S, eK_fd, eK_tp, eK_kp, eK_told, eK_who, eK_fits, eK_kinds]
    repeat' split
    all_goals rfl
  have hk : a_kp X = 0 → a_kp (o_go X a).2 = 0 := fun h0 => by
    unfold o_go
    repeat' split
    all_goals exact h0
  have hz := rel_of (o := fun Z => o_go Z a) hr hb hk
  exact ⟨hz.1, hi, hz.2⟩
theorem lw_now {X Y : AS} (h : a_inv X) (hr : a_rel X Y) (a : Int32) : (o_now X a).1 = (o_now Y a).1 ∧ a_inv (o_now X a).2 ∧ a_rel (o_now X a).2 (o_now Y a).2 := by
  have hi : a_inv (o_now X a).2 := by
    unfold o_now
    repeat' split
    all_goals exact h
  have hb : ∀ K, a_kp X = 0 → o_now (a_setK X K) a = ((o_now X a).1, a_setK (o_now X a).2 K) := fun K h0 => by
    simp only [o_now, isW, isWish, a_miss, a_sz, o_with, o_none, o_homes, o_asq, o_writes, o_loads, o_judges, o_copys, o_copyd, eK_F, eK_S, eK_fd, eK_tp, eK_kp, eK_told, eK_who, eK_fits, eK_kinds]
    repeat' split
    all_goals rfl
  have hk : a_kp X = 0 → a_kp (o_now X a).2 = 0 := fun h0 => by
    unfold o_now
    repeat' split
    all_goals exact h0
  have hz := rel_of (o := fun Z => o_now Z a) hr hb hk
  exact ⟨hz.1, hi, hz.2⟩
theorem lw_ahead {X Y : AS} (h : a_inv X) (hr : a_rel X Y) (a b : Int32) : (o_ahead X a b).1 = (o_ahead Y a b).1 ∧ a_inv (o_ahead X a b).2 ∧ a_rel (o_ahead X a b).2 (o_ahead Y a b).2 := by
  have hi : a_inv (o_ahead X a b).2 := by
    unfold o_ahead
    repeat' split
    all_goals exact h
  have hb : ∀ K, a_kp X = 0 → o_ahead (a_setK X K) a b = ((o_ahead X a b).1, a_setK (o_ahead X a b).2 K) := fun K h0 => by
    simp only [o_ahead, isW, isWish, a_miss, a_sz, o_with, o_none, o_homes, o_asq, o_writes, o_loads, o_judges, o_copys, o_copyd, eK_F, eK_S, eK_fd, eK_tp, eK_kp, eK_told, eK_who, eK_fits, eK_kinds]
    repeat' split
    all_goals rfl
  have hk : a_kp X = 0 → a_kp (o_ahead X a b).2 = 0 := fun h0 => by
    unfold o_ahead
    repeat' split
    all_goals exact h0
  have hz := rel_of (o := fun Z => o_ahead Z a b) hr hb hk
  exact ⟨hz.1, hi, hz.2⟩
theorem lw_stand {X Y : AS} (h : a_inv X) (hr : a_rel X Y) (a b : Int32) : (o_stand X a b).1 = (o_stand Y a b).1 ∧ a_inv (o_stand X a b).2 ∧ a_rel (o_stand X a b).2 (o_stand Y a b).2 := by
  have hi : a_inv (o_stand X a b).2 := by
    unfold o_stand
    repeat' split
    all_goals exact h
  have hb : ∀ K, a_kp X = 0 → o_stand (a_setK X K) a b = ((o_stand X a b).1, a_setK (o_stand X a b).2 K) := fun K h0 => by
    simp only [o_stand, isW, isWish, a_miss, a_sz, o_with, o_none, o_homes, o_asq, o_writes, o_loads, o_judges, o_copys, o_copyd, eK_F, eK_S, eK_fd, eK_tp, eK_kp, eK_told, eK_who, eK_fits, eK_kinds]
    repeat' split
    all_goals rfl
  have hk : a_kp X = 0 → a_kp (o_stand X a b).2 = 0 := fun h0 => by
    unfold o_stand
    repeat' split
    all_goals exact h0
  have hz := rel_of (o := fun Z => o_stand Z a b) hr hb hk
  exact ⟨hz.1, hi, hz.2⟩
theorem lw_where {X Y : AS} (h : a_inv X) (hr : a_rel X Y) (a b c : Int32) : (o_where X a b c).1 = (o_where Y a b c).1 ∧ a_inv (o_where X a b c).2 ∧ a_rel (o_where X a b c).2 (o_where Y a b c).2 := by
  have hi : a_inv (o_where X a b c).2 := by
    unfold o_where
    repeat' split
    all_goals exact h
  have hb : ∀ K, a_kp X = 0 → o_where (a_setK X K) a b c = ((o_where X a b c).1, a_setK (o_where X a b c).2 K) := fun K h0 => by
    simp only [o_where, isW, isWish, a_miss, a_sz, o_with, o_none, o_homes, o_asq, o_writes, o_loads, o_judges, o_copys, o_copyd, eK_F, eK_S, eK_fd, eK_tp, eK_kp, eK_told, eK_who, eK_fits, eK_kinds]
    repeat' split
    all_goals rfl
  have hk : a_kp X = 0 → a_kp (o_where X a b c).2 = 0 := fun h0 => by
    unfold o_where
    repeat' split
    all_goals exact h0
  have hz := rel_of (o := fun Z => o_where Z a b c) hr hb hk
  exact ⟨hz.1, hi, hz.2⟩
theorem lw_corn {X Y : AS} (h : a_inv X) (hr : a_rel X Y) (a b : Int32) : (o_corn X a b).1 = (o_corn Y a b).1 ∧ a_inv (o_corn X a b).2 ∧ a_rel (o_corn X a b).2 (o_corn Y a b).2 := by
  have hi : a_inv (o_corn X a b).2 := by
    unfold o_corn o_none
    repeat' split
    all_goals exact h
  have hb : ∀ K, a_kp X = 0 → o_corn (a_setK X K) a b = ((o_corn X a b).1, a_setK (o_corn X a b).2 K) := fun K h0 => by
    simp only [o_corn, isW, isWish, a_miss, a_sz, o_with, o_none, o_homes, o_asq, o_writes, o_loads, o_judges, o_copys, o_copyd, eK_F, eK_S, eK_fd, eK_tp, eK_kp, eK_told, eK_who, eK_fits, eK_kinds]
    repeat' split
    all_goals rfl
  have hk : a_kp X = 0 → a_kp (o_corn X a b).2 = 0 := fun h0 => by
    unfold o_corn o_none
    repeat' split
    all_goals exact h0
  have hz := rel_of (o := fun Z => o_corn Z a b) hr hb hk
  exact ⟨hz.1, hi, hz.2⟩
theorem lw_when {X Y : AS} (h : a_inv X) (hr : a_rel X Y) (a b : Int32) : (o_when X a b).1 = (o_when Y a b).1 ∧ a_inv (o_when X a b).2 ∧ a_rel (o_when X a b).2 (o_when Y a b).2 := by
  have hi : a_inv (o_when X a b).2 := by
    unfold o_when o_none
    repeat' split
    all_goals exact h
  have hb : ∀ K, a_kp X = 0 → o_when (a_setK X K) a b = ((o_when X a b).1, a_setK (o_when X a b).2 K) := fun K h0 => by
    simp only [o_when, isW, isWish, a_miss, a_sz, o_with, o_none, o_homes, o_asq, o_writes, o_loads, o_judges, o_copys, o_copyd, eK_F, eK_S, eK_fd, eK_tp, eK_kp, eK_told, eK_who, eK_fits, eK_kinds]
    repeat' split
    all_goals rfl
  have hk : a_kp X = 0 → a_kp (o_when X a b).2 = 0 := fun h0 => by
    unfold o_when o_none
    repeat' split
    all_goals exact h0
  have hz := rel_of (o := fun Z => o_when Z a b) hr hb hk
  exact ⟨hz.1, hi, hz.2⟩
theorem lw_meet {X Y : AS} (h : a_inv X) (hr : a_rel X Y) (a b : Int32) : (o_meet X a b).1 = (o_meet Y a b).1 ∧ a_inv (o_meet X a b).2 ∧ a_rel (o_meet X a b).2 (o_meet Y a b).2 := by
  have hi : a_inv (o_meet X a b).2 := by
    unfold o_meet o_none
    repeat' split
    all_goals exact h
  have hb : ∀ K, a_kp X = 0 → o_meet (a_setK X K) a b = ((o_meet X a b).1, a_setK (o_meet X a b).2 K) := fun K h0 => by
    simp only [o_meet, isW, isWish, a_miss, a_sz, o_with, o_none, o_homes, o_asq, o_writes, o_loads, o_judges, o_copys, o_copyd, eK_F, eK_S, eK_fd, eK_tp, eK_kp, eK_told, eK_who, eK_fits, eK_kinds]
    repeat' split
    all_goals rfl
  have hk : a_kp X = 0 → a_kp (o_meet X a b).2 = 0 := fun h0 => by
    unfold o_meet o_none
    repeat' split
    all_goals exact h0
  have hz := rel_of (o := fun Z => o_meet Z a b) hr hb hk
  exact ⟨hz.1, hi, hz.2⟩
theorem lw_start {X Y : AS} (h : a_inv X) (hr : a_rel X Y) (a b c d : Int32) : (o_start X a b c d).1 = (o_start Y a b c d).1 ∧ a_inv (o_start X a b c d).2 ∧ a_rel (o_start X a b c d).2 (o_start Y a b c d).2 := by
  have hi : a_inv (o_start X a b c d).2 := by
    unfold o_start
    repeat' split
    all_goals exact h
  have hb : ∀ K, a_kp X = 0 → o_start (a_setK X K) a b c d = ((o_start X a b c d).1, a_setK (o_start X a b c d).2 K) := fun K h0 => by
    simp only [o_start, isW, isWish, a_miss, a_sz, o_with, o_none, o_homes, o_asq, o_writes, o_loads, o_judges, o_copys, o_copyd, eK_F, eK_S, eK_fd, eK_tp, eK_kp, eK_told, eK_who, eK_fits, eK_kinds]
    repeat' split
    all_goals rfl
  have hk : a_kp X = 0 → a_kp (o_start X a b c d).2 = 0 := fun h0 => by
    unfold o_start
    repeat' split
    all_goals exact h0
  have hz := rel_of (o := fun Z => o_start Z a b c d) hr hb hk
  exact ⟨hz.1, hi, hz.2⟩
theorem lw_kindsFor {X Y : AS} (h : a_inv X) (hr : a_rel X Y) (a b c d : Int32) : (o_kindsFor X a b c d).1 = (o_kindsFor Y a b c d).1 ∧ a_inv (o_kindsFor X a b c d).2 ∧ a_rel (o_kindsFor X a b c d).2 (o_kindsFor Y a b c d).2 := by
  have hi : a_inv (o_kindsFor X a b c d).2 := by
    unfold o_kindsFor
    repeat' split
    all_goals exact h
  have hb : ∀ K, a_kp X = 0 → o_kindsFor (a_setK X K) a b c d = ((o_kindsFor X a b c d).1, a_setK (o_kindsFor X a b c d).2 K) := fun K h0 => by
    simp only [o_kindsFor, isW, isWish, a_miss, a_sz, o_with, o_none, o_homes, o_asq, o_writes, o_loads, o_judges, o_copys, o_copyd, eK_F, eK_S, eK_fd, eK_tp, eK_kp, eK_told, eK_who, eK_fits, eK_kinds]
    repeat' split
    all_goals rfl
  have hk : a_kp X = 0 → a_kp (o_kindsFor X a b c d).2 = 0 := fun h0 => by
    unfold o_kindsFor
    repeat' split
    all_goals exact h0
  have hz := rel_of (o := fun Z => o_kindsFor Z a b c d) hr hb hk
  exact ⟨hz.1, hi, hz.2⟩
theorem lw_moods {X Y : AS} (h : a_inv X) (hr : a_rel X Y) (a b c d : Int32) : (o_moods X a b c d).1 = (o_moods Y a b c d).1 ∧ a_inv (o_moods X a b c d).2 ∧ a_rel (o_moods X a b c d).2 (o_moods Y a b c d).2 := by
  have hi : a_inv (o_moods X a b c d).2 := by
    unfold o_moods
    repeat' split
    all_goals exact h
  have hb : ∀ K, a_kp X = 0 → o_moods (a_setK X K) a b c d = ((o_moods X a b c d).1, a_setK (o_moods X a b c d).2 K) := fun K h0 => by
    simp only [o_moods, isW, isWish, a_miss, a_sz, o_with, o_none, o_homes, o_asq, o_writes, o_loads, o_judges, o_copys, o_copyd, eK_F, eK_S, eK_fd, eK_tp, eK_kp, eK_told, eK_who, eK_fits, eK_kinds]
    repeat' split
    all_goals rfl
  have hk : a_kp X = 0 → a_kp (o_moods X a b c d).2 = 0 := fun h0 => by
    unfold o_moods
    repeat' split
    all_goals exact h0
  have hz := rel_of (o := fun Z => o_moods Z a b c d) hr hb hk
  exact ⟨hz.1, hi, hz.2⟩
theorem lw_windFor {X Y : AS} (h : a_inv X) (hr : a_rel X Y) (a b c : Int32) : (o_windFor X a b c).1 = (o_windFor Y a b c).1 ∧ a_inv (o_windFor X a b c).2 ∧ a_rel (o_windFor X a b c).2 (o_windFor Y a b c).2 := by
  have hi : a_inv (o_windFor X a b c).2 := by
    unfold o_windFor o_none
    repeat' split
    all_goals exact h
  have hb : ∀ K, a_kp X = 0 → o_windFor (a_setK X K) a b c = ((o_windFor X a b c).1, a_setK (o_windFor X a b c).2 K) := fun K h0 => by
    simp only [o_windFor, isW, isWish, a_miss, a_sz, o_with, o_none, o_homes, o_asq, o_writes, o_loads, o_judges, o_copys, o_copyd, eK_F, eK_S, eK_fd, eK_tp, eK_kp, eK_told, eK_who, eK_fits, eK_kinds]
    repeat' split
    all_goals rfl
  have hk : a_kp X = 0 → a_kp (o_windFor X a b c).2 = 0 := fun h0 => by
    unfold o_windFor o_none
    repeat' split
    all_goals exact h0
  have hz := rel_of (o := fun Z => o_windFor Z a b c) hr hb hk
  exact ⟨hz.1, hi, hz.2⟩
theorem lw_home {X Y : AS} (h : a_inv X) (hr : a_rel X Y) (a b c : Int32) : (o_home X a b c).1 = (o_home Y a b c).1 ∧ a_inv (o_home X a b c).2 ∧ a_rel (o_home X a b c).2 (o_home Y a b c).2 := by
  have hi : a_inv (o_home X a b c).2 := by
    unfold o_home o_homes
    repeat' split
    all_goals exact h
  have hb : ∀ K, a_kp X = 0 → o_home (a_setK X K) a b c = ((o_home X a b c).1, a_setK (o_home X a b c).2 K) := fun K h0 => by
    simp only [o_home, isW, isWish, a_miss, a_sz, o_with, o_none, o_homes, o_asq, o_writes, o_loads, o_judges, o_copys, o_copyd, eK_F, eK_S, eK_fd, eK_tp, eK_kp, eK_told, eK_who, eK_fits, eK_kinds]
    repeat' split
    all_goals rfl
  have hk : a_kp X = 0 → a_kp (o_home X a b c).2 = 0 := fun h0 => by
    unfold o_home o_homes
    repeat' split
    all_goals exact h0
  have hz := rel_of (o := fun Z => o_home Z a b c) hr hb hk
  exact ⟨hz.1, hi, hz.2⟩
theorem lw_shut {X Y : AS} (h : a_inv X) (hr : a_rel X Y) (a b : Int32) : (o_shut X a b).1 = (o_shut Y a b).1 ∧ a_inv (o_shut X a b).2 ∧ a_rel (o_shut X a b).2 (o_shut Y a b).2 := by
  have hi : a_inv (o_shut X a b).2 := by
    unfold o_shut
    repeat' split
    all_goals exact h
  have hb : ∀ K, a_kp X = 0 → o_shut (a_setK X K) a b = ((o_shut X a b).1, a_setK (o_shut X a b).2 K) := fun K h0 => by
    simp only [o_shut, isW, isWish, a_miss, a_sz, o_with, o_none, o_homes, o_asq, o_writes, o_loads, o_judges, o_copys, o_copyd, eK_F, eK_S, eK_fd, eK_tp, eK_kp, eK_told, eK_who, eK_fits, eK_kinds]
    repeat' split
    all_goals rfl
  have hk : a_kp X = 0 → a_kp (o_shut X a b).2 = 0 := fun h0 => by
    unfold o_shut
    repeat' split
    all_goals exact h0
  have hz := rel_of (o := fun Z => o_shut Z a b) hr hb hk
  exact ⟨hz.1, hi, hz.2⟩
theorem lw_who {X Y : AS} (h : a_inv X) (hr : a_rel X Y) (a : Int32) : (o_who X a).1 = (o_who Y a).1 ∧ a_inv (o_who X a).2 ∧ a_rel (o_who X a).2 (o_who Y a).2 := by
  have hi : a_inv (o_who X a).2 := by
    unfold o_who o_with
    repeat' split
    all_goals exact h
  have hb : ∀ K, a_kp X = 0 → o_who (a_setK X K) a = ((o_who X a).1, a_setK (o_who X a).2 K) := fun K h0 => by
    simp only [o_who, isW, isWish, a_miss, a_sz, o_with, o_none, o_homes, o_asq, o_writes, o_loads, o_judges, o_copys, o_copyd, eK_F, eK_S, eK_fd, eK_tp, eK_kp, eK_told, eK_who, eK_fits, eK_kinds]
    repeat' split
    all_goals rfl
  have hk : a_kp X = 0 → a_kp (o_who X a).2 = 0 := fun h0 => by
    unfold o_who o_with
    repeat' split
    all_goals exact h0
  have hz := rel_of (o := fun Z => o_who Z a) hr hb hk
  exact ⟨hz.1, hi, hz.2⟩
theorem lw_fits {X Y : AS} (h : a_inv X) (hr : a_rel X Y) (a b c : Int32) : (o_fits X a b c).1 = (o_fits Y a b c).1 ∧ a_inv (o_fits X a b c).2 ∧ a_rel (o_fits X a b c).2 (o_fits Y a b c).2 := by
  have hi : a_inv (o_fits X a b c).2 := by
    unfold o_fits o_with
    repeat' split
    all_goals exact h
  have hb : ∀ K, a_kp X = 0 → o_fits (a_setK X K) a b c = ((o_fits X a b c).1, a_setK (o_fits X a b c).2 K) := fun K h0 => by
    simp only [o_fits, isW, isWish, a_miss, a_sz, o_with, o_none, o_homes, o_asq, o_writes, o_loads, o_judges, o_copys, o_copyd, eK_F, eK_S, eK_fd, eK_tp, eK_kp, eK_told, eK_who, eK_fits, eK_kinds]
    repeat' split
    all_goals rfl
  have hk : a_kp X = 0 → a_kp (o_fits X a b c).2 = 0 := fun h0 => by
    unfold o_fits o_with
    repeat' split
    all_goals exact h0
  have hz := rel_of (o := fun Z => o_fits Z a b c) hr hb hk
  exact ⟨hz.1, hi, hz.2⟩
theorem lw_kinds {X Y : AS} (h : a_inv X) (hr : a_rel X Y) (a b : Int32) : (o_kinds X a b).1 = (o_kinds Y a b).1 ∧ a_inv (o_kinds X a b).2 ∧ a_rel (o_kinds X a b).2 (o_kinds Y a b).2 := by
  have hi : a_inv (o_kinds X a b).2 := by
    unfold o_kinds o_with
    repeat' split
    all_goals exact h
  have hb : ∀ K, a_kp X = 0 → o_kinds (a_setK X K) a b = ((o_kinds X a b).1, a_setK (o_kinds X a b).2 K) := fun K h0 => by
    simp only [o_kinds, isW, isWish, a_miss, a_sz, o_with, o_none, o_homes, o_asq, o_writes, o_loads, o_judges, o_copys, o_copyd, eK_F, eK_S, eK_fd, eK_tp, eK_kp, eK_told, eK_who, eK_fits, eK_kinds]
    repeat' split
    all_goals rfl
  have hk : a_kp X = 0 → a_kp (o_kinds X a b).2 = 0 := fun h0 => by
    unfold o_kinds o_with
    repeat' split
    all_goals exact h0
  have hz := rel_of (o := fun Z => o_kinds Z a b) hr hb hk
  exact ⟨hz.1, hi, hz.2⟩
theorem lw_gales {X Y : AS} (h : a_inv X) (hr : a_rel X Y) (a : Int32) : (o_gales X a).1 = (o_gales Y a).1 ∧ a_inv (o_gales X a).2 ∧ a_rel (o_gales X a).2 (o_gales Y a).2 := by
  have hi : a_inv (o_gales X a).2 := by
    rw [o_gales]
    by_cases c1 : inR a 1 20
    · rw [if_pos c1]
      by_cases c2 : f_hr (a_F X) + a ≤ 99999
      · rw [if_pos c2]
        obtain ⟨k, ⟨hk1, hk⟩, rfl⟩ := kn_rng1 (n := 20) c1 rfl
        rw [nI_clamp (by omega)]
        exact inv_F h (inv_gales h.1 (by omega) c2)
      · rw [if_neg c2]; exact inv_fin h
    · rw [if_neg c1]; exact inv_fin h
  have hb : ∀ K, a_kp X = 0 → o_gales (a_setK X K) a = ((o_gales X a).1, a_setK (o_gales X a).2 K) := fun K h0 => by
    simp only [o_gales, isW, isWish, a_miss, a_sz, o_with, o_none, o_homes, o_asq, o_writes, o_loads, o_judges, o_copys, o_copyd, eK_F, eK_S, eK_fd, eK_tp, eK_kp, eK_told, eK_who, eK_fits, eK_kinds]
    repeat' split
    all_goals rfl
  have hk : a_kp X = 0 → a_kp (o_gales X a).2 = 0 := fun h0 => by
    unfold o_gales
    repeat' split
    all_goals exact h0
  have hz := rel_of (o := fun Z => o_gales Z a) hr hb hk
  exact ⟨hz.1, hi, hz.2⟩
theorem lw_odds {X Y : AS} (h : a_inv X) (hr : a_rel X Y) (a b : Int32) : (o_odds X a b).1 = (o_odds Y a b).1 ∧ a_inv (o_odds X a b).2 ∧ a_rel (o_odds X a b).2 (o_odds Y a b).2 := by
  have hi : a_inv (o_odds X a b).2 := by
    unfold o_odds
    repeat' split
    all_goals exact h
  have hb : ∀ K, a_kp X = 0 → o_odds (a_setK X K) a b = ((o_odds X a b).1, a_setK (o_odds X a b).2 K) := fun K h0 => by
    simp only [o_odds, isW, isWish, a_miss, a_sz, o_with, o_none, o_homes, o_asq, o_writes, o_loads, o_judges, o_copys, o_copyd, eK_F, eK_S, eK_fd, eK_tp, eK_kp, eK_told, eK_who, eK_fits, eK_kinds]
    repeat' split
    all_goals rfl
  have hk : a_kp X = 0 → a_kp (o_odds X a b).2 = 0 := fun h0 => by
    unfold o_odds
    repeat' split
    all_goals exact h0
  have hz := rel_of (o := fun Z => o_odds Z a b) hr hb hk
  exact ⟨hz.1, hi, hz.2⟩
theorem lw_seed {X Y : AS} (h : a_inv X) (hr : a_rel X Y) (a : Int32) : (o_seed X a).1 = (o_seed Y a).1 ∧ a_inv (o_seed X a).2 ∧ a_rel (o_seed X a).2 (o_seed Y a).2 := by
  have hi : a_inv (o_seed X a).2 := by
    exact inv_F h (inv_z h.1)
  have hb : ∀ K, a_kp X = 0 → o_seed (a_setK X K) a = ((o_seed X a).1, a_setK (o_seed X a).2 K) := fun K h0 => by
    rfl
  have hk : a_kp X = 0 → a_kp (o_seed X a).2 = 0 := fun h0 => by
    exact h0
  have hz := rel_of (o := fun Z => o_seed Z a) hr hb hk
  exact ⟨hz.1, hi, hz.2⟩
theorem lw_feed {X Y : AS} (h : a_inv X) (hr : a_rel X Y) (a b : Int32) : (o_feed X a b).1 = (o_feed Y a b).1 ∧ a_inv (o_feed X a b).2 ∧ a_rel (o_feed X a b).2 (o_feed Y a b).2 := by
  have hi : a_inv (o_feed X a b).2 := by
    rw [o_feed]
    by_cases c1 : inR b 1 4
    · rw [if_pos c1]
      by_cases c2 : nI (a_tp X).2 + b ≤ 120
      · rw [if_pos c2]
        obtain ⟨k, ⟨hk1, hk⟩, rfl⟩ := kn_rng1 (n := 4) c1 rfl
        rw [nI_clamp (by omega)]
        obtain ⟨g1, g2, g3, g4, g5, g6⟩ := h
        rw [kn_add] at c2
        have c3 := (nI_leI (a := (a_tp X).2 + k) (b := 120) (by omega) (by omega)).mp c2
        exact ⟨g1, g2, g3, g4, by show (tp_feed (a_tp X) a k).2 ≤ 120; rw [len_feed]; exact c3, byt_feed k _ g6⟩
      · rw [if_neg c2]; exact inv_fin h
    · rw [if_neg c1]; exact inv_fin h
  have hb : ∀ K, a_kp X = 0 → o_feed (a_setK X K) a b = ((o_feed X a b).1, a_setK (o_feed X a b).2 K) := fun K h0 => by
    simp only [o_feed, isW, isWish, a_miss, a_sz, o_with, o_none, o_homes, o_asq, o_writes, o_loads, o_judges, o_copys, o_copyd, eK_F, eK_S, eK_fd, eK_tp, eK_kp, eK_told, eK_who, eK_fits, eK_kinds]
    repeat' split
    all_goals rfl
  have hk : a_kp X = 0 → a_kp (o_feed X a b).2 = 0 := fun h0 => by
    unfold o_feed
    repeat' split
    all_goals exact h0
  have hz := rel_of (o := fun Z => o_feed Z a b) hr hb hk
  exact ⟨hz.1, hi, hz.2⟩
theorem lw_wipe {X Y : AS} (h : a_inv X) (hr : a_rel X Y) : (o_wipe X).1 = (o_wipe Y).1 ∧ a_inv (o_wipe X).2 ∧ a_rel (o_wipe X).2 (o_wipe Y).2 := by
  have hi : a_inv (o_wipe X).2 := by
    obtain ⟨g1, g2, g3, g4, g5, g6⟩ := h
    exact ⟨g1, g2, g3, g4, Nat.zero_le _, g6⟩
  have hb : ∀ K, a_kp X = 0 → o_wipe (a_setK X K) = ((o_wipe X).1, a_setK (o_wipe X).2 K) := fun K h0 => by
    rfl
  have hk : a_kp X = 0 → a_kp (o_wipe X).2 = 0 := fun h0 => by
    exact h0
  have hz := rel_of (o := fun Z => o_wipe Z) hr hb hk
  exact ⟨hz.1, hi, hz.2⟩
theorem lw_text {X Y : AS} (h : a_inv X) (hr : a_rel X Y) (D : DJ) : (o_text X D).1 = (o_text Y D).1 ∧ a_inv (o_text X D).2 ∧ a_rel (o_text X D).2 (o_text Y D).2 := by
  have hi : a_inv (o_text X D).2 := by
    rw [o_text]
    obtain ⟨g1, g2, g3, g4, g5, g6⟩ := h
    have gF : f_inv (i_all X D).2.2.1 := i_items_P keeps_inv (fun _ h9 => inv_m8 h9) 121 1 _ (i_item_P keeps_inv (inv_m8 g1) g1)
    by_cases c1 : (i_all X D).2.1 = true ∧ d_tk (i_all X D).2.2.2 = 0
    · rw [if_pos c1]; exact ⟨gF, g2, g3, g4, Nat.zero_le _, g6⟩
    · rw [if_neg c1]; exact ⟨g1, g2, g3, g4, Nat.zero_le _, g6⟩
  have hb : ∀ K, a_kp X = 0 → o_text (a_setK X K) D = ((o_text X D).1, a_setK (o_text X D).2 K) := fun K h0 => by
    rw [o_text, o_text, show i_all (a_setK X K) D = i_all X D from rfl]
    split <;> rfl
  have hk : a_kp X = 0 → a_kp (o_text X D).2 = 0 := fun h0 => by
    unfold o_text
    repeat' split
    all_goals exact h0
  have hz := rel_of (o := fun Z => o_text Z D) hr hb hk
  exact ⟨hz.1, hi, hz.2⟩
theorem lw_hold {X Y : AS} (h : a_inv X) (hr : a_rel X Y) (a b : Int32) : (o_hold X a b).1 = (o_hold Y a b).1 ∧ a_inv (o_hold X a b).2 ∧ a_rel (o_hold X a b).2 (o_hold Y a b).2 := by
  have hi : a_inv (o_hold X a b).2 := by
    rw [o_hold]
    by_cases c1 : inR a 0 9
    · rw [if_pos c1]
      by_cases c2 : b = -1
      · rw [if_pos c2]; exact inv_F h (inv_hd h.1 (Or.inl c2))
      · rw [if_neg c2]
        by_cases c3 : isW X b
        · rw [if_pos c3]; exact inv_F h (inv_hd h.1 (Or.inr c3))
        · rw [if_neg c3]; exact inv_fin h
    · rw [if_neg c1]; exact inv_fin h
  have hb : ∀ K, a_kp X = 0 → o_hold (a_setK X K) a b = ((o_hold X a b).1, a_setK (o_hold X a b).2 K) := fun K h0 => by
    simp only [o_hold, isW, isWish, a_miss, a_sz, o_with, o_none, o_homes, o_asq, o_writes, o_loads, o_judges, o_copys, o_copyd, eK_F, eK_S, eK_fd, eK_tp, eK_kp, eK_told, eK_who, eK_fits, eK_kinds]
    repeat' split
    all_goals rfl
  have hk : a_kp X = 0 → a_kp (o_hold X a b).2 = 0 := fun h0 => by
    unfold o_hold
    repeat' split
    all_goals exact h0
  have hz := rel_of (o := fun Z => o_hold Z a b) hr hb hk
  exact ⟨hz.1, hi, hz.2⟩
theorem lw_as {X Y : AS} (h : a_inv X) (hr : a_rel X Y) (a b : Int32) : (o_as X a b).1 = (o_as Y a b).1 ∧ a_inv (o_as X a b).2 ∧ a_rel (o_as X a b).2 (o_as Y a b).2 := by
  have hi : a_inv (o_as X a b).2 := by
    unfold o_as o_asq
    repeat' split
    all_goals exact h
  have hb : ∀ K, a_kp X = 0 → o_as (a_setK X K) a b = ((o_as X a b).1, a_setK (o_as X a b).2 K) := fun K h0 => by
    simp only [o_as, isW, isWish, a_miss, a_sz, o_with, o_none, o_homes, o_asq, o_writes, o_loads, o_judges, o_copys, o_copyd, eK_F, eK_S, eK_fd, eK_tp, eK_kp, eK_told, eK_who, eK_fits, eK_kinds]
    repeat' split
    all_goals rfl
  have hk : a_kp X = 0 → a_kp (o_as X a b).2 = 0 := fun h0 => by
    unfold o_as o_asq
    repeat' split
    all_goals exact h0
  have hz := rel_of (o := fun Z => o_as Z a b) hr hb hk
  exact ⟨hz.1, hi, hz.2⟩
theorem lw_sheet {X Y : AS} (h : a_inv X) (hr : a_rel X Y) (a b c : Int32) : (o_sheet X a b c).1 = (o_sheet Y a b c).1 ∧ a_inv (o_sheet X a b c).2 ∧ a_rel (o_sheet X a b c).2 (o_sheet Y a b c).2 := by
  have hi : a_inv (o_sheet X a b c).2 := by
    rw [o_sheet]
    by_cases c1 : inR a 0 3
    · rw [if_pos c1]
      by_cases c2 : isBits b
      · rw [if_pos c2]
        by_cases c3 : 0 ≤ c
        · rw [if_pos c3]
          by_cases c4 : c ≤ 40
          · rw [if_pos c4]
            refine inv_S h ?_ c2
            show ∃ z : Nat, z ≤ 40 ∧ (if b = 0 then 0 else c) = nI z
            by_cases c5 : b = 0
            · rw [if_pos c5]; exact ⟨0, by omega, rfl⟩
            · rw [if_neg c5]; exact kn_rng (n := 40) ⟨c3, c4⟩ rfl
          · rw [if_neg c4]; exact inv_fin h
        · rw [if_neg c3]; exact inv_fin h
      · rw [if_neg c2]; exact inv_fin h
    · rw [if_neg c1]; exact inv_fin h
  have hb : ∀ K, a_kp X = 0 → o_sheet (a_setK X K) a b c = ((o_sheet X a b c).1, a_setK (o_sheet X a b c).2 K) := fun K h0 => by
    simp only [o_sheet, isW, isWish, a_miss, a_sz, o_with, o_none, o_homes, o_asq, o_writes, o_loads, o_judges, o_copys, o_copyd, eK_F, eK_S, eK_fd, eK_tp, eK_kp, eK_told, eK_who, eK_fits, eK_kinds]
    repeat' split
    all_goals rfl
  have hk : a_kp X = 0 → a_kp (o_sheet X a b c).2 = 0 := fun h0 => by
    unfold o_sheet
    repeat' split
    all_goals exact h0
  have hz := rel_of (o := fun Z => o_sheet Z a b c) hr hb hk
  exact ⟨hz.1, hi, hz.2⟩
theorem lw_write {X Y : AS} (h : a_inv X) (hr : a_rel X Y) (a b c : Int32) : (o_write X a b c).1 = (o_write Y a b c).1 ∧ a_inv (o_write X a b c).2 ∧ a_rel (o_write X a b c).2 (o_write Y a b c).2 := by
  have hi : a_inv (o_write X a b c).2 := by
    rw [o_write, o_with, o_writes]
    by_cases c1 : inR a 0 3
    · rw [if_pos c1]
      by_cases c2 : a_miss X a
      · rw [if_pos c2]; exact inv_fin h
      · rw [if_neg c2]
        by_cases c3 : inR b 0 (s_sz (a_S X a.toNatClampNeg) - 1)
        · rw [if_pos c3]
          obtain ⟨k, hk, rfl⟩ := kn_rng (n := 3) c1 rfl
          rw [nI_clamp (by omega)]
          exact inv_S h (h.2.2.1 k (by omega)) (h.2.2.2.1 k (by omega))
        · rw [if_neg c3]; exact inv_fin h
    · rw [if_neg c1]; exact inv_fin h
  have hb : ∀ K, a_kp X = 0 → o_write (a_setK X K) a b c = ((o_write X a b c).1, a_setK (o_write X a b c).2 K) := fun K h0 => by
    simp only [o_write, isW, isWish, a_miss, a_sz, o_with, o_none, o_homes, o_asq, o_writes, o_loads, o_judges, o_copys, o_copyd, eK_F, eK_S, eK_fd, eK_tp, eK_kp, eK_told, eK_who, eK_fits, eK_kinds]
    repeat' split
    all_goals rfl
  have hk : a_kp X = 0 → a_kp (o_write X a b c).2 = 0 := fun h0 => by
    unfold o_write o_with o_writes
    repeat' split
    all_goals exact h0
  have hz := rel_of (o := fun Z => o_write Z a b c) hr hb hk
  exact ⟨hz.1, hi, hz.2⟩
theorem lw_copy {X Y : AS} (h : a_inv X) (hr : a_rel X Y) (a b c d e : Int32) : (o_copy X a b c d e).1 = (o_copy Y a b c d e).1 ∧ a_inv (o_copy X a b c d e).2 ∧ a_rel (o_copy X a b c d e).2 (o_copy Y a b c d e).2 := by
  have hi : a_inv (o_copy X a b c d e).2 := by
    rw [o_copy, o_copys, o_copyd]
    by_cases c1 : inR a 0 3
    · rw [if_pos c1]
      by_cases c2 : inR c 0 3
      · rw [if_pos c2]
        obtain ⟨k, hk, rfl⟩ := kn_rng (n := 3) c2 rfl
        rw [nI_clamp (by omega)]
        have hS := fun nm => inv_S (s := k) (x := (nm, s_bt (a_S X k), s_sz (a_S X k))) h (h.2.2.1 k (by omega)) (h.2.2.2.1 k (by omega))
        split
        · exact inv_fin h
        split
        · exact inv_fin h
        split
        · split
          · split
            · exact hS _
            · exact inv_fin h
          · exact inv_fin h
        · exact inv_fin h
      · rw [if_neg c2]; exact inv_fin h
    · rw [if_neg c1]; exact inv_fin h
  have hb : ∀ K, a_kp X = 0 → o_copy (a_setK X K) a b c d e = ((o_copy X a b c d e).1, a_setK (o_copy X a b c d e).2 K) := fun K h0 => by
    simp only [o_copy, isW, isWish, a_miss, a_sz, o_with, o_none, o_homes, o_asq, o_writes, o_loads, o_judges, o_copys, o_copyd, eK_F, eK_S, eK_fd, eK_tp, eK_kp, eK_told, eK_who, eK_fits, eK_kinds]
    repeat' split
    all_goals rfl
  have hk : a_kp X = 0 → a_kp (o_copy X a b c d e).2 = 0 := fun h0 => by
    unfold o_copy o_copys o_copyd
    repeat' split
    all_goals exact h0
  have hz := rel_of (o := fun Z => o_copy Z a b c d e) hr hb hk
  exact ⟨hz.1, hi, hz.2⟩
theorem lw_load {X Y : AS} (h : a_inv X) (hr : a_rel X Y) (a : Int32) : (o_load X a).1 = (o_load Y a).1 ∧ a_inv (o_load X a).2 ∧ a_rel (o_load X a).2 (o_load Y a).2 := by
  have hi : a_inv (o_load X a).2 := by
    rw [o_load, o_with, o_loads]
    by_cases c1 : inR a 0 3
    · rw [if_pos c1]
      by_cases c2 : a_miss X a
      · rw [if_pos c2]; exact inv_fin h
      · rw [if_neg c2]; exact inv_F h (inv_bs h.1)
    · rw [if_neg c1]; exact inv_fin h
  have hb : ∀ K, a_kp X = 0 → o_load (a_setK X K) a = ((o_load X a).1, a_setK (o_load X a).2 K) := fun K h0 => by
    simp only [o_load, isW, isWish, a_miss, a_sz, o_with, o_none, o_homes, o_asq, o_writes, o_loads, o_judges, o_copys, o_copyd, eK_F, eK_S, eK_fd, eK_tp, eK_kp, eK_told, eK_who, eK_fits, eK_kinds]
    repeat' split
    all_goals rfl
  have hk : a_kp X = 0 → a_kp (o_load X a).2 = 0 := fun h0 => by
    unfold o_load o_with o_loads
    repeat' split
    all_goals exact h0
  have hz := rel_of (o := fun Z => o_load Z a) hr hb hk
  exact ⟨hz.1, hi, hz.2⟩
theorem lw_judge {X Y : AS} (h : a_inv X) (hr : a_rel X Y) (a : Int32) : (o_judge X a).1 = (o_judge Y a).1 ∧ a_inv (o_judge X a).2 ∧ a_rel (o_judge X a).2 (o_judge Y a).2 := by
  have hi : a_inv (o_judge X a).2 := by
    unfold o_judge o_with o_judges
    repeat' split
    all_goals exact h
  have hb : ∀ K, a_kp X = 0 → o_judge (a_setK X K) a = ((o_judge X a).1, a_setK (o_judge X a).2 K) := fun K h0 => by
    simp only [o_judge, isW, isWish, a_miss, a_sz, o_with, o_none, o_homes, o_asq, o_writes, o_loads, o_judges, o_copys, o_copyd, eK_F, eK_S, eK_fd, eK_tp, eK_kp, eK_told, eK_who, eK_fits, eK_kinds]
    repeat' split
    all_goals rfl
  have hk : a_kp X = 0 → a_kp (o_judge X a).2 = 0 := fun h0 => by
    unfold o_judge o_with o_judges
    repeat' split
    all_goals exact h0
  have hz := rel_of (o := fun Z => o_judge Z a) hr hb hk
  exact ⟨hz.1, hi, hz.2⟩
theorem lw_image {X Y : AS} (h : a_inv X) (hr : a_rel X Y) : (o_image X).1 = (o_image Y).1 ∧ a_inv (o_image X).2 ∧ a_rel (o_image X).2 (o_image Y).2 := by
  have hi : a_inv (o_image X).2 := by
    exact ⟨h.1, Or.inr h.1, h.2.2⟩
  refine ⟨?_, hi, ?_⟩
  · rfl
  · rcases hr with rfl | ⟨h0, K, rfl⟩
    · exact Or.inl rfl
    · exact Or.inl rfl
theorem lw_undo {X Y : AS} (h : a_inv X) (hr : a_rel X Y) : (o_undo X).1 = (o_undo Y).1 ∧ a_inv (o_undo X).2 ∧ a_rel (o_undo X).2 (o_undo Y).2 := by
  have hi : a_inv (o_undo X).2 := by
    rw [o_undo]
    by_cases c1 : a_kp X = 0
    · rw [if_pos c1]; exact inv_fin h
    · rw [if_neg c1]; exact inv_F h (h.2.1.elim (fun h9 => absurd h9 c1) id)
  have hb : ∀ K, a_kp X = 0 → o_undo (a_setK X K) = ((o_undo X).1, a_setK (o_undo X).2 K) := fun K h0 => by
    rw [o_undo, o_undo, eK_kp, if_pos h0, if_pos h0]; rfl
  have hk : a_kp X = 0 → a_kp (o_undo X).2 = 0 := fun h0 => by
    rw [o_undo, if_pos h0]; exact h0
  have hz := rel_of (o := fun Z => o_undo Z) hr hb hk
  exact ⟨hz.1, hi, hz.2⟩
theorem lw_tear {X Y : AS} (h : a_inv X) (hr : a_rel X Y) : (o_tear X).1 = (o_tear Y).1 ∧ a_inv (o_tear X).2 ∧ a_rel (o_tear X).2 (o_tear Y).2 := by
  have hi : a_inv (o_tear X).2 := by
    exact ⟨h.1, Or.inl rfl, h.2.2⟩
  have hb : ∀ K, a_kp X = 0 → o_tear (a_setK X K) = ((o_tear X).1, a_setK (o_tear X).2 K) := fun K h0 => by
    rfl
  have hk : a_kp X = 0 → a_kp (o_tear X).2 = 0 := fun h0 => by
    rfl
  have hz := rel_of (o := fun Z => o_tear Z) hr hb hk
  exact ⟨hz.1, hi, hz.2⟩
theorem lw_count {X Y : AS} (h : a_inv X) (hr : a_rel X Y) (a : Int32) : (o_count X a).1 = (o_count Y a).1 ∧ a_inv (o_count X a).2 ∧ a_rel (o_count X a).2 (o_count Y a).2 := by
  have hi : a_inv (o_count X a).2 := by
    unfold o_count
    repeat' split
    all_goals exact h
  have hb : ∀ K, a_kp X = 0 → o_count (a_setK X K) a = ((o_count X a).1, a_setK (o_count X a).2 K) := fun K h0 => by
    simp only [o_count, isW, isWish, a_miss, a_sz, o_with, o_none, o_homes, o_asq, o_writes, o_loads, o_judges, o_copys, o_copyd, eK_F, eK_S, eK_fd, eK_tp, eK_kp, eK_told, eK_who, eK_fits, eK_kinds]
    repeat' split
    all_goals rfl
  have hk : a_kp X = 0 → a_kp (o_count X a).2 = 0 := fun h0 => by
    unfold o_count
    repeat' split
    all_goals exact h0
  have hz := rel_of (o := fun Z => o_count Z a) hr hb hk
  exact ⟨hz.1, hi, hz.2⟩
theorem lw_status {X Y : AS} (h : a_inv X) (hr : a_rel X Y) (a : Int32) : (o_status X a).1 = (o_status Y a).1 ∧ a_inv (o_status X a).2 ∧ a_rel (o_status X a).2 (o_status Y a).2 := by
  have hi : a_inv (o_status X a).2 := by
    unfold o_status
    repeat' split
    all_goals exact h
  have hb : ∀ K, a_kp X = 0 → o_status (a_setK X K) a = ((o_status X a).1, a_setK (o_status X a).2 K) := fun K h0 => by
    simp only [o_status, isW, isWish, a_miss, a_sz, o_with, o_none, o_homes, o_asq, o_writes, o_loads, o_judges, o_copys, o_copyd, eK_F, eK_S, eK_fd, eK_tp, eK_kp, eK_told, eK_who, eK_fits, eK_kinds]
    repeat' split
    all_goals rfl
  have hk : a_kp X = 0 → a_kp (o_status X a).2 = 0 := fun h0 => by
    unfold o_status
    repeat' split
    all_goals exact h0
  have hz := rel_of (o := fun Z => o_status Z a) hr hb hk
  exact ⟨hz.1, hi, hz.2⟩
