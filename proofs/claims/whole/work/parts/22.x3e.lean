set_option maxHeartbeats 4000000 in
set_option maxRecDepth 100000 in
theorem c_J6_bitCount_0f7a4 (l : Launch) (Z : kz_Z) (x : Int32) : KP l Z yJ6_bitCount_0f7a4 cJ6_bitCount_0f7a4 1 .int 0 0 [.int x] (fun r => r = j_bc x) := by
  refine ki_of (by decide) [(0, .int x)] (Nat.le_of_ble_eq_true rfl) rfl ?_
  intro M e1 e2 K Rt
  subst e1 e2
  refine q_iload_n K 0 dJ6_bitCount_0f7a4_0 rfl ?_
  refine q_iload_n K 0 dJ6_bitCount_0f7a4_1 rfl ?_
  refine q_iconst 1 K dJ6_bitCount_0f7a4_2 rfl ?_
  refine q_iushr K dJ6_bitCount_0f7a4_3 ?_
  refine q_ldcw K dJ6_bitCount_0f7a4_4 ct_J6_265 ?_
  refine q_iand K dJ6_bitCount_0f7a4_7 ?_
  refine q_isub K dJ6_bitCount_0f7a4_8 ?_
  refine q_topi (fun i1 e_i1 => ?_)
  have e_i1 : i1 = j_b1 x := e_i1
  refine q_istore_n (lv' := [(0, .int i1)]) K dJ6_bitCount_0f7a4_9 (by decide) rfl ?_
  refine q_iload_n K 0 dJ6_bitCount_0f7a4_10 rfl ?_
  refine q_ldcw K dJ6_bitCount_0f7a4_11 ct_J6_266 ?_
  refine q_iand K dJ6_bitCount_0f7a4_14 ?_
  refine q_iload_n K 0 dJ6_bitCount_0f7a4_15 rfl ?_
  refine q_iconst 2 K dJ6_bitCount_0f7a4_16 rfl ?_
  refine q_iushr K dJ6_bitCount_0f7a4_17 ?_
  refine q_ldcw K dJ6_bitCount_0f7a4_18 ct_J6_266 ?_
  refine q_iand K dJ6_bitCount_0f7a4_21 ?_
  refine q_iadd K dJ6_bitCount_0f7a4_22 ?_
  refine q_topi (fun i2 e_i2 => ?_)
  have e_i2 : i2 = j_b2 i1 := e_i2
  refine q_istore_n (lv' := [(0, .int i2)]) K dJ6_bitCount_0f7a4_23 (by decide) rfl ?_
  refine q_iload_n K 0 dJ6_bitCount_0f7a4_24 rfl ?_
  refine q_iload_n K 0 dJ6_bitCount_0f7a4_25 rfl ?_
  refine q_iconst 4 K dJ6_bitCount_0f7a4_26 rfl ?_
  refine q_iushr K dJ6_bitCount_0f7a4_27 ?_
  refine q_iadd K dJ6_bitCount_0f7a4_28 ?_
  refine q_ldcw K dJ6_bitCount_0f7a4_29 ct_J6_267 ?_
  refine q_iand K dJ6_bitCount_0f7a4_32 ?_
  refine q_topi (fun i3 e_i3 => ?_)
  have e_i3 : i3 = j_b3 i2 := e_i3
  refine q_istore_n (lv' := [(0, .int i3)]) K dJ6_bitCount_0f7a4_33 (by decide) rfl ?_
  refine q_iload_n K 0 dJ6_bitCount_0f7a4_34 rfl ?_
  refine q_iload_n K 0 dJ6_bitCount_0f7a4_35 rfl ?_
  refine q_bipush 8 K dJ6_bitCount_0f7a4_36 rfl ?_
  refine q_iushr K dJ6_bitCount_0f7a4_38 ?_
  refine q_iadd K dJ6_bitCount_0f7a4_39 ?_
  refine q_topi (fun i4 e_i4 => ?_)
  have e_i4 : i4 = j_b4 i3 := e_i4
  refine q_istore_n (lv' := [(0, .int i4)]) K dJ6_bitCount_0f7a4_40 (by decide) rfl ?_
  refine q_iload_n K 0 dJ6_bitCount_0f7a4_41 rfl ?_
  refine q_iload_n K 0 dJ6_bitCount_0f7a4_42 rfl ?_
  refine q_bipush 16 K dJ6_bitCount_0f7a4_43 rfl ?_
  refine q_iushr K dJ6_bitCount_0f7a4_45 ?_
  refine q_iadd K dJ6_bitCount_0f7a4_46 ?_
  refine q_topi (fun i5 e_i5 => ?_)
  have e_i5 : i5 = j_b5 i4 := e_i5
  refine q_istore_n (lv' := [(0, .int i5)]) K dJ6_bitCount_0f7a4_47 (by decide) rfl ?_
  refine q_iload_n K 0 dJ6_bitCount_0f7a4_48 rfl ?_
  refine q_bipush 63 K dJ6_bitCount_0f7a4_49 rfl ?_
  refine q_iand K dJ6_bitCount_0f7a4_51 ?_
  exact Rt _ _ (i5 &&& 63) ([]) dJ6_bitCount_0f7a4_52 rfl (⟨by rw [j_bc, ← e_i1, ← e_i2, ← e_i3, ← e_i4, ← e_i5], rfl⟩)
theorem ks_J6_bitCount_0f7a4 : k_is yJ6_bitCount_0f7a4 cJ6_bitCount_0f7a4 1 (some .int) 1 := ⟨sm_J6_bitCount_0f7a4, in_J6, co_J6_bitCount_0f7a4, by decide +kernel⟩
set_option maxHeartbeats 4000000 in
set_option maxRecDepth 100000 in
theorem c_J6_numberOfTrailingZeros_0f7a4 (l : Launch) (Z : kz_Z) (x : Int32) : KP l Z yJ6_numberOfTrailingZeros_0f7a4 cJ6_numberOfTrailingZeros_0f7a4 2 .int 0 0 [.int x] (fun r => r = j_ntz x) := by
  refine ki_of (by decide) [(0, .int x)] (Nat.le_of_ble_eq_true rfl) rfl ?_
  intro M e1 e2 K Rt
  subst e1 e2
  refine q_iload_n K 0 dJ6_numberOfTrailingZeros_0f7a4_0 rfl ?_
  refine q_iconst (-1) K dJ6_numberOfTrailingZeros_0f7a4_1 rfl ?_
  refine q_ixor K dJ6_numberOfTrailingZeros_0f7a4_2 ?_
  refine q_iload_n K 0 dJ6_numberOfTrailingZeros_0f7a4_3 rfl ?_
  refine q_iconst 1 K dJ6_numberOfTrailingZeros_0f7a4_4 rfl ?_
  refine q_isub K dJ6_numberOfTrailingZeros_0f7a4_5 ?_
  refine q_iand K dJ6_numberOfTrailingZeros_0f7a4_6 ?_
  refine q_topi (fun y0 e_y0 => ?_)
  have e_y0 : y0 = j_n0 x := e_y0
  refine q_istore_n (lv' := [(0, .int y0)]) K dJ6_numberOfTrailingZeros_0f7a4_7 (by decide) rfl ?_
  refine q_iload_n K 0 dJ6_numberOfTrailingZeros_0f7a4_8 rfl ?_
  refine q_if_gt 17 K dJ6_numberOfTrailingZeros_0f7a4_9 (by decide) (fun c_1 => ?_) (fun c_1 => ?_)
  · refine q_iconst 1 K dJ6_numberOfTrailingZeros_0f7a4_17 rfl ?_
    refine q_istore_n (lv' := [(1, .int 1), (0, .int y0)]) K dJ6_numberOfTrailingZeros_0f7a4_18 (by decide) rfl ?_
    refine q_iload_n K 1 dJ6_numberOfTrailingZeros_0f7a4_19 rfl ?_
    refine q_ldcw K dJ6_numberOfTrailingZeros_0f7a4_20 ct_J6_264 ?_
    refine q_icmp_le 34 K dJ6_numberOfTrailingZeros_0f7a4_23 (by decide) (fun c_2 => ?_) (fun c_2 => ?_)
    · refine q_iload_n K 1 dJ6_numberOfTrailingZeros_0f7a4_34 rfl ?_
      refine q_sipush 256 K dJ6_numberOfTrailingZeros_0f7a4_35 rfl ?_
      refine q_icmp_le 49 K dJ6_numberOfTrailingZeros_0f7a4_38 (by decide) (fun c_3 => ?_) (fun c_3 => ?_)
      · refine q_iload_n K 1 dJ6_numberOfTrailingZeros_0f7a4_49 rfl ?_
        refine q_bipush 16 K dJ6_numberOfTrailingZeros_0f7a4_50 rfl ?_
        refine q_icmp_le 62 K dJ6_numberOfTrailingZeros_0f7a4_52 (by decide) (fun c_4 => ?_) (fun c_4 => ?_)
        · refine q_iload_n K 1 dJ6_numberOfTrailingZeros_0f7a4_62 rfl ?_
          refine q_iconst 4 K dJ6_numberOfTrailingZeros_0f7a4_63 rfl ?_
          refine q_icmp_le 74 K dJ6_numberOfTrailingZeros_0f7a4_64 (by decide) (fun c_5 => ?_) (fun c_5 => ?_)
          · refine q_iload_n K 0 dJ6_numberOfTrailingZeros_0f7a4_74 rfl ?_
            refine q_iload_n K 1 dJ6_numberOfTrailingZeros_0f7a4_75 rfl ?_
            refine q_iconst 1 K dJ6_numberOfTrailingZeros_0f7a4_76 rfl ?_
            refine q_iushr K dJ6_numberOfTrailingZeros_0f7a4_77 ?_
            refine q_iadd K dJ6_numberOfTrailingZeros_0f7a4_78 ?_
            exact Rt _ _ (1 + ((y0.toUInt32 >>> ((1 : Int32).toUInt32 &&& Int32.toUInt32 31)).toInt32)) ([]) dJ6_numberOfTrailingZeros_0f7a4_79 rfl (⟨by rw [j_ntz, ← e_y0, if_pos c_1]; simp only [j_nt, j_ns, if_pos c_1, if_pos c_2, if_pos c_3, if_pos c_4, if_pos c_5]; rfl, rfl⟩)
          · refine q_iinc 3 (lv' := [(1, .int 3), (0, .int y0)]) K 0 dJ6_numberOfTrailingZeros_0f7a4_67 rfl rfl (by decide) rfl ?_
            refine q_iload_n K 1 dJ6_numberOfTrailingZeros_0f7a4_70 rfl ?_
            refine q_iconst 2 K dJ6_numberOfTrailingZeros_0f7a4_71 rfl ?_
            refine q_iushr K dJ6_numberOfTrailingZeros_0f7a4_72 ?_
            refine q_topi (fun y1 e_y1 => ?_)
            have e_y1 : y1 = j_us y0 2 := e_y1
            refine q_istore_n (lv' := [(0, .int y1), (1, .int 3)]) K dJ6_numberOfTrailingZeros_0f7a4_73 (by decide) rfl ?_
            refine q_iload_n K 1 dJ6_numberOfTrailingZeros_0f7a4_74 rfl ?_
            refine q_iload_n K 0 dJ6_numberOfTrailingZeros_0f7a4_75 rfl ?_
            refine q_iconst 1 K dJ6_numberOfTrailingZeros_0f7a4_76 rfl ?_
            refine q_iushr K dJ6_numberOfTrailingZeros_0f7a4_77 ?_
            refine q_iadd K dJ6_numberOfTrailingZeros_0f7a4_78 ?_
            exact Rt _ _ (3 + ((y1.toUInt32 >>> ((1 : Int32).toUInt32 &&& Int32.toUInt32 31)).toInt32)) ([]) dJ6_numberOfTrailingZeros_0f7a4_79 rfl (⟨by rw [j_ntz, ← e_y0, if_pos c_1]; simp only [j_nt, j_ns, if_pos c_1, if_pos c_2, if_pos c_3, if_pos c_4, if_neg c_5, ← e_y1]; rfl, rfl⟩)
        · refine q_iinc 5 (lv' := [(1, .int 5), (0, .int y0)]) K 0 dJ6_numberOfTrailingZeros_0f7a4_55 rfl rfl (by decide) rfl ?_
          refine q_iload_n K 1 dJ6_numberOfTrailingZeros_0f7a4_58 rfl ?_
          refine q_iconst 4 K dJ6_numberOfTrailingZeros_0f7a4_59 rfl ?_
          refine q_iushr K dJ6_numberOfTrailingZeros_0f7a4_60 ?_
          refine q_topi (fun y2 e_y2 => ?_)
          have e_y2 : y2 = j_us y0 4 := e_y2
          refine q_istore_n (lv' := [(0, .int y2), (1, .int 5)]) K dJ6_numberOfTrailingZeros_0f7a4_61 (by decide) rfl ?_
          refine q_iload_n K 0 dJ6_numberOfTrailingZeros_0f7a4_62 rfl ?_
          refine q_iconst 4 K dJ6_numberOfTrailingZeros_0f7a4_63 rfl ?_
          refine q_icmp_le 74 K dJ6_numberOfTrailingZeros_0f7a4_64 (by decide) (fun c_6 => ?_) (fun c_6 => ?_)
          · refine q_iload_n K 1 dJ6_numberOfTrailingZeros_0f7a4_74 rfl ?_
            refine q_iload_n K 0 dJ6_numberOfTrailingZeros_0f7a4_75 rfl ?_
            refine q_iconst 1 K dJ6_numberOfTrailingZeros_0f7a4_76 rfl ?_
            refine q_iushr K dJ6_numberOfTrailingZeros_0f7a4_77 ?_
            refine q_iadd K dJ6_numberOfTrailingZeros_0f7a4_78 ?_
            exact Rt _ _ (5 + ((y2.toUInt32 >>> ((1 : Int32).toUInt32 &&& Int32.toUInt32 31)).toInt32)) ([]) dJ6_numberOfTrailingZeros_0f7a4_79 rfl (⟨by rw [j_ntz, ← e_y0, if_pos c_1]; simp only [j_nt, j_ns, if_pos c_1, if_pos c_2, if_pos c_3, if_neg c_4, if_pos c_6, ← e_y2]; rfl, rfl⟩)
          · refine q_iinc 7 (lv' := [(1, .int 7), (0, .int y2)]) K 1 dJ6_numberOfTrailingZeros_0f7a4_67 rfl rfl (by decide) rfl ?_
            refine q_iload_n K 1 dJ6_numberOfTrailingZeros_0f7a4_70 rfl ?_
            refine q_iconst 2 K dJ6_numberOfTrailingZeros_0f7a4_71 rfl ?_
            refine q_iushr K dJ6_numberOfTrailingZeros_0f7a4_72 ?_
            refine q_topi (fun y3 e_y3 => ?_)
            have e_y3 : y3 = j_us y2 2 := e_y3
            refine q_istore_n (lv' := [(0, .int y3), (1, .int 7)]) K dJ6_numberOfTrailingZeros_0f7a4_73 (by decide) rfl ?_
            refine q_iload_n K 1 dJ6_numberOfTrailingZeros_0f7a4_74 rfl ?_
            refine q_iload_n K 0 dJ6_numberOfTrailingZeros_0f7a4_75 rfl ?_
            refine q_iconst 1 K dJ6_numberOfTrailingZeros_0f7a4_76 rfl ?_
            refine q_iushr K dJ6_numberOfTrailingZeros_0f7a4_77 ?_
            refine q_iadd K dJ6_numberOfTrailingZeros_0f7a4_78 ?_
            exact Rt _ _ (7 + ((y3.toUInt32 >>> ((1 : Int32).toUInt32 &&& Int32.toUInt32 31)).toInt32)) ([]) dJ6_numberOfTrailingZeros_0f7a4_79 rfl (⟨by rw [j_ntz, ← e_y0, if_pos c_1]; simp only [j_nt, j_ns, if_pos c_1, if_pos c_2, if_pos c_3, if_neg c_4, if_neg c_6, ← e_y2, ← e_y3]; rfl, rfl⟩)
      · refine q_iinc 9 (lv' := [(1, .int 9), (0, .int y0)]) K 0 dJ6_numberOfTrailingZeros_0f7a4_41 rfl rfl (by decide) rfl ?_
        refine q_iload_n K 1 dJ6_numberOfTrailingZeros_0f7a4_44 rfl ?_
        refine q_bipush 8 K dJ6_numberOfTrailingZeros_0f7a4_45 rfl ?_
        refine q_iushr K dJ6_numberOfTrailingZeros_0f7a4_47 ?_
        refine q_topi (fun y4 e_y4 => ?_)
        have e_y4 : y4 = j_us y0 8 := e_y4
        refine q_istore_n (lv' := [(0, .int y4), (1, .int 9)]) K dJ6_numberOfTrailingZeros_0f7a4_48 (by decide) rfl ?_
        refine q_iload_n K 0 dJ6_numberOfTrailingZeros_0f7a4_49 rfl ?_
        refine q_bipush 16 K dJ6_numberOfTrailingZeros_0f7a4_50 rfl ?_
        refine q_icmp_le 62 K dJ6_numberOfTrailingZeros_0f7a4_52 (by decide) (fun c_7 => ?_) (fun c_7 => ?_)
        · refine q_iload_n K 0 dJ6_numberOfTrailingZeros_0f7a4_62 rfl ?_
          refine q_iconst 4 K dJ6_numberOfTrailingZeros_0f7a4_63 rfl ?_
          refine q_icmp_le 74 K dJ6_numberOfTrailingZeros_0f7a4_64 (by decide) (fun c_8 => ?_) (fun c_8 => ?_)
          · refine q_iload_n K 1 dJ6_numberOfTrailingZeros_0f7a4_74 rfl ?_
            refine q_iload_n K 0 dJ6_numberOfTrailingZeros_0f7a4_75 rfl ?_
            refine q_iconst 1 K dJ6_numberOfTrailingZeros_0f7a4_76 rfl ?_
            refine q_iushr K dJ6_numberOfTrailingZeros_0f7a4_77 ?_
            refine q_iadd K dJ6_numberOfTrailingZeros_0f7a4_78 ?_
            exact Rt _ _ (9 + ((y4.toUInt32 >>> ((1 : Int32).toUInt32 &&& Int32.toUInt32 31)).toInt32)) ([]) dJ6_numberOfTrailingZeros_0f7a4_79 rfl (⟨by rw [j_ntz, ← e_y0, if_pos c_1]; simp only [j_nt, j_ns, if_pos c_1, if_pos c_2, if_neg c_3, if_pos c_7, if_pos c_8, ← e_y4]; rfl, rfl⟩)
          · refine q_iinc 11 (lv' := [(1, .int 11), (0, .int y4)]) K 1 dJ6_numberOfTrailingZeros_0f7a4_67 rfl rfl (by decide) rfl ?_
            refine q_iload_n K 1 dJ6_numberOfTrailingZeros_0f7a4_70 rfl ?_
            refine q_iconst 2 K dJ6_numberOfTrailingZeros_0f7a4_71 rfl ?_
            refine q_iushr K dJ6_numberOfTrailingZeros_0f7a4_72 ?_
            refine q_topi (fun y5 e_y5 => ?_)
            have e_y5 : y5 = j_us y4 2 := e_y5
            refine q_istore_n (lv' := [(0, .int y5), (1, .int 11)]) K dJ6_numberOfTrailingZeros_0f7a4_73 (by decide) rfl ?_
            refine q_iload_n K 1 dJ6_numberOfTrailingZeros_0f7a4_74 rfl ?_
            refine q_iload_n K 0 dJ6_numberOfTrailingZeros_0f7a4_75 rfl ?_
            refine q_iconst 1 K dJ6_numberOfTrailingZeros_0f7a4_76 rfl ?_
            refine q_iushr K dJ6_numberOfTrailingZeros_0f7a4_77 ?_
            refine q_iadd K dJ6_numberOfTrailingZeros_0f7a4_78 ?_
            exact Rt _ _ (11 + ((y5.toUInt32 >>> ((1 : Int32).toUInt32 &&& Int32.toUInt32 31)).toInt32)) ([]) dJ6_numberOfTrailingZeros_0f7a4_79 rfl (⟨by rw [j_ntz, ← e_y0, if_pos c_1]; simp only [j_nt, j_ns, if_pos c_1, if_pos c_2, if_neg c_3, if_pos c_7, if_neg c_8, ← e_y4, ← e_y5]; rfl, rfl⟩)
        · refine q_iinc 13 (lv' := [(1, .int 13), (0, .int y4)]) K 1 dJ6_numberOfTrailingZeros_0f7a4_55 rfl rfl (by decide) rfl ?_
          refine q_iload_n K 1 dJ6_numberOfTrailingZeros_0f7a4_58 rfl ?_
          refine q_iconst 4 K dJ6_numberOfTrailingZeros_0f7a4_59 rfl ?_
          refine q_iushr K dJ6_numberOfTrailingZeros_0f7a4_60 ?_
          refine q_topi (fun y6 e_y6 => ?_)
          have e_y6 : y6 = j_us y4 4 := e_y6
          refine q_istore_n (lv' := [(0, .int y6), (1, .int 13)]) K dJ6_numberOfTrailingZeros_0f7a4_61 (by decide) rfl ?_
          refine q_iload_n K 0 dJ6_numberOfTrailingZeros_0f7a4_62 rfl ?_
          refine q_iconst 4 K dJ6_numberOfTrailingZeros_0f7a4_63 rfl ?_
          refine q_icmp_le 74 K dJ6_numberOfTrailingZeros_0f7a4_64 (by decide) (fun c_9 => ?_) (fun c_9 => ?_)
          · refine q_iload_n K 1 dJ6_numberOfTrailingZeros_0f7a4_74 rfl ?_
            refine q_iload_n K 0 dJ6_numberOfTrailingZeros_0f7a4_75 rfl ?_
            refine q_iconst 1 K dJ6_numberOfTrailingZeros_0f7a4_76 rfl ?_
            refine q_iushr K dJ6_numberOfTrailingZeros_0f7a4_77 ?_
            refine q_iadd K dJ6_numberOfTrailingZeros_0f7a4_78 ?_
            exact Rt _ _ (13 + ((y6.toUInt32 >>> ((1 : Int32).toUInt32 &&& Int32.toUInt32 31)).toInt32)) ([]) dJ6_numberOfTrailingZeros_0f7a4_79 rfl (⟨by rw [j_ntz, ← e_y0, if_pos c_1]; simp only [j_nt, j_ns, if_pos c_1, if_pos c_2, if_neg c_3, if_neg c_7, if_pos c_9, ← e_y4, ← e_y6]; rfl, rfl⟩)
          · refine q_iinc 15 (lv' := [(1, .int 15), (0, .int y6)]) K 1 dJ6_numberOfTrailingZeros_0f7a4_67 rfl rfl (by decide) rfl ?_
            refine q_iload_n K 1 dJ6_numberOfTrailingZeros_0f7a4_70 rfl ?_
            refine q_iconst 2 K dJ6_numberOfTrailingZeros_0f7a4_71 rfl ?_
            refine q_iushr K dJ6_numberOfTrailingZeros_0f7a4_72 ?_
            refine q_topi (fun y7 e_y7 => ?_)
            have e_y7 : y7 = j_us y6 2 := e_y7
            refine q_istore_n (lv' := [(0, .int y7), (1, .int 15)]) K dJ6_numberOfTrailingZeros_0f7a4_73 (by decide) rfl ?_
            refine q_iload_n K 1 dJ6_numberOfTrailingZeros_0f7a4_74 rfl ?_
            refine q_iload_n K 0 dJ6_numberOfTrailingZeros_0f7a4_75 rfl ?_
            refine q_iconst 1 K dJ6_numberOfTrailingZeros_0f7a4_76 rfl ?_
            refine q_iushr K dJ6_numberOfTrailingZeros_0f7a4_77 ?_
            refine q_iadd K dJ6_numberOfTrailingZeros_0f7a4_78 ?_
            exact Rt _ _ (15 + ((y7.toUInt32 >>> ((1 : Int32).toUInt32 &&& Int32.toUInt32 31)).toInt32)) ([]) dJ6_numberOfTrailingZeros_0f7a4_79 rfl (⟨by rw [j_ntz, ← e_y0, if_pos c_1]; simp only [j_nt, j_ns, if_pos c_1, if_pos c_2, if_neg c_3, if_neg c_7, if_neg c_9, ← e_y4, ← e_y6, ← e_y7]; rfl, rfl⟩)
    · refine q_iinc 17 (lv' := [(1, .int 17), (0, .int y0)]) K 0 dJ6_numberOfTrailingZeros_0f7a4_26 rfl rfl (by decide) rfl ?_
      refine q_iload_n K 1 dJ6_numberOfTrailingZeros_0f7a4_29 rfl ?_
      refine q_bipush 16 K dJ6_numberOfTrailingZeros_0f7a4_30 rfl ?_
      refine q_iushr K dJ6_numberOfTrailingZeros_0f7a4_32 ?_
      refine q_topi (fun y8 e_y8 => ?_)
      have e_y8 : y8 = j_us y0 16 := e_y8
      refine q_istore_n (lv' := [(0, .int y8), (1, .int 17)]) K dJ6_numberOfTrailingZeros_0f7a4_33 (by decide) rfl ?_
      refine q_iload_n K 0 dJ6_numberOfTrailingZeros_0f7a4_34 rfl ?_
      refine q_sipush 256 K dJ6_numberOfTrailingZeros_0f7a4_35 rfl ?_
      refine q_icmp_le 49 K dJ6_numberOfTrailingZeros_0f7a4_38 (by decide) (fun c_10 => ?_) (fun c_10 => ?_)
      · refine q_iload_n K 0 dJ6_numberOfTrailingZeros_0f7a4_49 rfl ?_
        refine q_bipush 16 K dJ6_numberOfTrailingZeros_0f7a4_50 rfl ?_
        refine q_icmp_le 62 K dJ6_numberOfTrailingZeros_0f7a4_52 (by decide) (fun c_11 => ?_) (fun c_11 => ?_)
        · refine q_iload_n K 0 dJ6_numberOfTrailingZeros_0f7a4_62 rfl ?_
          refine q_iconst 4 K dJ6_numberOfTrailingZeros_0f7a4_63 rfl ?_
          refine q_icmp_le 74 K dJ6_numberOfTrailingZeros_0f7a4_64 (by decide) (fun c_12 => ?_) (fun c_12 => ?_)
          · refine q_iload_n K 1 dJ6_numberOfTrailingZeros_0f7a4_74 rfl ?_
            refine q_iload_n K 0 dJ6_numberOfTrailingZeros_0f7a4_75 rfl ?_
            refine q_iconst 1 K dJ6_numberOfTrailingZeros_0f7a4_76 rfl ?_
            refine q_iushr K dJ6_numberOfTrailingZeros_0f7a4_77 ?_
            refine q_iadd K dJ6_numberOfTrailingZeros_0f7a4_78 ?_
            exact Rt _ _ (17 + ((y8.toUInt32 >>> ((1 : Int32).toUInt32 &&& Int32.toUInt32 31)).toInt32)) ([]) dJ6_numberOfTrailingZeros_0f7a4_79 rfl (⟨by rw [j_ntz, ← e_y0, if_pos c_1]; simp only [j_nt, j_ns, if_pos c_1, if_neg c_2, if_pos c_10, if_pos c_11, if_pos c_12, ← e_y8]; rfl, rfl⟩)
          · refine q_iinc 19 (lv' := [(1, .int 19), (0, .int y8)]) K 1 dJ6_numberOfTrailingZeros_0f7a4_67 rfl rfl (by decide) rfl ?_
            refine q_iload_n K 1 dJ6_numberOfTrailingZeros_0f7a4_70 rfl ?_
            refine q_iconst 2 K dJ6_numberOfTrailingZeros_0f7a4_71 rfl ?_
            refine q_iushr K dJ6_numberOfTrailingZeros_0f7a4_72 ?_
            refine q_topi (fun y9 e_y9 => ?_)
            have e_y9 : y9 = j_us y8 2 := e_y9
            refine q_istore_n (lv' := [(0, .int y9), (1, .int 19)]) K dJ6_numberOfTrailingZeros_0f7a4_73 (by decide) rfl ?_
            refine q_iload_n K 1 dJ6_numberOfTrailingZeros_0f7a4_74 rfl ?_
            refine q_iload_n K 0 dJ6_numberOfTrailingZeros_0f7a4_75 rfl ?_
            refine q_iconst 1 K dJ6_numberOfTrailingZeros_0f7a4_76 rfl ?_
            refine q_iushr K dJ6_numberOfTrailingZeros_0f7a4_77 ?_
            refine q_iadd K dJ6_numberOfTrailingZeros_0f7a4_78 ?_
            exact Rt _ _ (19 + ((y9.toUInt32 >>> ((1 : Int32).toUInt32 &&& Int32.toUInt32 31)).toInt32)) ([]) dJ6_numberOfTrailingZeros_0f7a4_79 rfl (⟨by rw [j_ntz, ← e_y0, if_pos c_1]; simp only [j_nt, j_ns, if_pos c_1, if_neg c_2, if_pos c_10, if_pos c_11, if_neg c_12, ← e_y8, ← e_y9]; rfl, rfl⟩)
        · refine q_iinc 21 (lv' := [(1, .int 21), (0, .int y8)]) K 1 dJ6_numberOfTrailingZeros_0f7a4_55 rfl rfl (by decide) rfl ?_
          refine q_iload_n K 1 dJ6_numberOfTrailingZeros_0f7a4_58 rfl ?_
          refine q_iconst 4 K dJ6_numberOfTrailingZeros_0f7a4_59 rfl ?_
          refine q_iushr K dJ6_numberOfTrailingZeros_0f7a4_60 ?_
          refine q_topi (fun y10 e_y10 => ?_)
          have e_y10 : y10 = j_us y8 4 := e_y10
          refine q_istore_n (lv' := [(0, .int y10), (1, .int 21)]) K dJ6_numberOfTrailingZeros_0f7a4_61 (by decide) rfl ?_
          refine q_iload_n K 0 dJ6_numberOfTrailingZeros_0f7a4_62 rfl ?_
          refine q_iconst 4 K dJ6_numberOfTrailingZeros_0f7a4_63 rfl ?_
          refine q_icmp_le 74 K dJ6_numberOfTrailingZeros_0f7a4_64 (by decide) (fun c_13 => ?_) (fun c_13 => ?_)
          · refine q_iload_n K 1 dJ6_numberOfTrailingZeros_0f7a4_74 rfl ?_
            refine q_iload_n K 0 dJ6_numberOfTrailingZeros_0f7a4_75 rfl ?_
            refine q_iconst 1 K dJ6_numberOfTrailingZeros_0f7a4_76 rfl ?_
            refine q_iushr K dJ6_numberOfTrailingZeros_0f7a4_77 ?_
            refine q_iadd K dJ6_numberOfTrailingZeros_0f7a4_78 ?_
            exact Rt _ _ (21 + ((y10.toUInt32 >>> ((1 : Int32).toUInt32 &&& Int32.toUInt32 31)).toInt32)) ([]) dJ6_numberOfTrailingZeros_0f7a4_79 rfl (⟨by rw [j_ntz, ← e_y0, if_pos c_1]; simp only [j_nt, j_ns, if_pos c_1, if_neg c_2, if_pos c_10, if_neg c_11, if_pos c_13, ← e_y8, ← e_y10]; rfl, rfl⟩)
          · refine q_iinc 23 (lv' := [(1, .int 23), (0, .int y10)]) K 1 dJ6_numberOfTrailingZeros_0f7a4_67 rfl rfl (by decide) rfl ?_
            refine q_iload_n K 1 dJ6_numberOfTrailingZeros_0f7a4_70 rfl ?_
            refine q_iconst 2 K dJ6_numberOfTrailingZeros_0f7a4_71 rfl ?_
            refine q_iushr K dJ6_numberOfTrailingZeros_0f7a4_72 ?_
            refine q_topi (fun y11 e_y11 => ?_)
            have e_y11 : y11 = j_us y10 2 := e_y11
            refine q_istore_n (lv' := [(0, .int y11), (1, .int 23)]) K dJ6_numberOfTrailingZeros_0f7a4_73 (by decide) rfl ?_
            refine q_iload_n K 1 dJ6_numberOfTrailingZeros_0f7a4_74 rfl ?_
            refine q_iload_n K 0 dJ6_numberOfTrailingZeros_0f7a4_75 rfl ?_
            refine q_iconst 1 K dJ6_numberOfTrailingZeros_0f7a4_76 rfl ?_
            refine q_iushr K dJ6_numberOfTrailingZeros_0f7a4_77 ?_
            refine q_iadd K dJ6_numberOfTrailingZeros_0f7a4_78 ?_
            exact Rt _ _ (23 + ((y11.toUInt32 >>> ((1 : Int32).toUInt32 &&& Int32.toUInt32 31)).toInt32)) ([]) dJ6_numberOfTrailingZeros_0f7a4_79 rfl (⟨by rw [j_ntz, ← e_y0, if_pos c_1]; simp only [j_nt, j_ns, if_pos c_1, if_neg c_2, if_pos c_10, if_neg c_11, if_neg c_13, ← e_y8, ← e_y10, ← e_y11]; rfl, rfl⟩)
      · refine q_iinc 25 (lv' := [(1, .int 25), (0, .int y8)]) K 1 dJ6_numberOfTrailingZeros_0f7a4_41 rfl rfl (by decide) rfl ?_
        refine q_iload_n K 1 dJ6_numberOfTrailingZeros_0f7a4_44 rfl ?_
        refine q_bipush 8 K dJ6_numberOfTrailingZeros_0f7a4_45 rfl ?_
        refine q_iushr K dJ6_numberOfTrailingZeros_0f7a4_47 ?_
        refine q_topi (fun y12 e_y12 => ?_)
        have e_y12 : y12 = j_us y8 8 := e_y12
        refine q_istore_n (lv' := [(0, .int y12), (1, .int 25)]) K dJ6_numberOfTrailingZeros_0f7a4_48 (by decide) rfl ?_
        refine q_iload_n K 0 dJ6_numberOfTrailingZeros_0f7a4_49 rfl ?_
        refine q_bipush 16 K dJ6_numberOfTrailingZeros_0f7a4_50 rfl ?_
        refine q_icmp_le 62 K dJ6_numberOfTrailingZeros_0f7a4_52 (by decide) (fun c_14 => ?_) (fun c_14 => ?_)
        · refine q_iload_n K 0 dJ6_numberOfTrailingZeros_0f7a4_62 rfl ?_
          refine q_iconst 4 K dJ6_numberOfTrailingZeros_0f7a4_63 rfl ?_
          refine q_icmp_le 74 K dJ6_numberOfTrailingZeros_0f7a4_64 (by decide) (fun c_15 => ?_) (fun c_15 => ?_)
          · refine q_iload_n K 1 dJ6_numberOfTrailingZeros_0f7a4_74 rfl ?_
            refine q_iload_n K 0 dJ6_numberOfTrailingZeros_0f7a4_75 rfl ?_
            refine q_iconst 1 K dJ6_numberOfTrailingZeros_0f7a4_76 rfl ?_
            refine q_iushr K dJ6_numberOfTrailingZeros_0f7a4_77 ?_
            refine q_iadd K dJ6_numberOfTrailingZeros_0f7a4_78 ?_
            exact Rt _ _ (25 + ((y12.toUInt32 >>> ((1 : Int32).toUInt32 &&& Int32.toUInt32 31)).toInt32)) ([]) dJ6_numberOfTrailingZeros_0f7a4_79 rfl (⟨by rw [j_ntz, ← e_y0, if_pos c_1]; simp only [j_nt, j_ns, if_pos c_1, if_neg c_2, if_neg c_10, if_pos c_14, if_pos c_15, ← e_y8, ← e_y12]; rfl, rfl⟩)
          · refine q_iinc 27 (lv' := [(1, .int 27), (0, .int y12)]) K 1 dJ6_numberOfTrailingZeros_0f7a4_67 rfl rfl (by decide) rfl ?_
            refine q_iload_n K 1 dJ6_numberOfTrailingZeros_0f7a4_70 rfl ?_
            refine q_iconst 2 K dJ6_numberOfTrailingZeros_0f7a4_71 rfl ?_
            refine q_iushr K dJ6_numberOfTrailingZeros_0f7a4_72 ?_
            refine q_topi (fun y13 e_y13 => ?_)
            have e_y13 : y13 = j_us y12 2 := e_y13
            refine q_istore_n (lv' := [(0, .int y13), (1, .int 27)]) K dJ6_numberOfTrailingZeros_0f7a4_73 (by decide) rfl ?_
            refine q_iload_n K 1 dJ6_numberOfTrailingZeros_0f7a4_74 rfl ?_
            refine q_iload_n K 0 dJ6_numberOfTrailingZeros_0f7a4_75 rfl ?_
            refine q_iconst 1 K dJ6_numberOfTrailingZeros_0f7a4_76 rfl ?_
            refine q_iushr K dJ6_numberOfTrailingZeros_0f7a4_77 ?_
            refine q_iadd K dJ6_numberOfTrailingZeros_0f7a4_78 ?_
            exact Rt _ _ (27 + ((y13.toUInt32 >>> ((1 : Int32).toUInt32 &&& Int32.toUInt32 31)).toInt32)) ([]) dJ6_numberOfTrailingZeros_0f7a4_79 rfl (⟨by rw [j_ntz, ← e_y0, if_pos c_1]; simp only [j_nt, j_ns, if_pos c_1, if_neg c_2, if_neg c_10, if_pos c_14, if_neg c_15, ← e_y8, ← e_y12, ← e_y13]; rfl, rfl⟩)
        · refine q_iinc 29 (lv' := [(1, .int 29), (0, .int y12)]) K 1 dJ6_numberOfTrailingZeros_0f7a4_55 rfl rfl (by decide) rfl ?_
          refine q_iload_n K 1 dJ6_numberOfTrailingZeros_0f7a4_58 rfl ?_
          refine q_iconst 4 K dJ6_numberOfTrailingZeros_0f7a4_59 rfl ?_
          refine q_iushr K dJ6_numberOfTrailingZeros_0f7a4_60 ?_
          refine q_topi (fun y14 e_y14 => ?_)
          have e_y14 : y14 = j_us y12 4 := e_y14
          refine q_istore_n (lv' := [(0, .int y14), (1, .int 29)]) K dJ6_numberOfTrailingZeros_0f7a4_61 (by decide) rfl ?_
          refine q_iload_n K 0 dJ6_numberOfTrailingZeros_0f7a4_62 rfl ?_
          refine q_iconst 4 K dJ6_numberOfTrailingZeros_0f7a4_63 rfl ?_
          refine q_icmp_le 74 K dJ6_numberOfTrailingZeros_0f7a4_64 (by decide) (fun c_16 => ?_) (fun c_16 => ?_)
          · refine q_iload_n K 1 dJ6_numberOfTrailingZeros_0f7a4_74 rfl ?_
            refine q_iload_n K 0 dJ6_numberOfTrailingZeros_0f7a4_75 rfl ?_
            refine q_iconst 1 K dJ6_numberOfTrailingZeros_0f7a4_76 rfl ?_
            refine q_iushr K dJ6_numberOfTrailingZeros_0f7a4_77 ?_
            refine q_iadd K dJ6_numberOfTrailingZeros_0f7a4_78 ?_
            exact Rt _ _ (29 + ((y14.toUInt32 >>> ((1 : Int32).toUInt32 &&& Int32.toUInt32 31)).toInt32)) ([]) dJ6_numberOfTrailingZeros_0f7a4_79 rfl (⟨by rw [j_ntz, ← e_y0, if_pos c_1]; simp only [j_nt, j_ns, if_pos c_1, if_neg c_2, if_neg c_10, if_neg c_14, if_pos c_16, ← e_y8, ← e_y12, ← e_y14]; rfl, rfl⟩)
          · refine q_iinc 31 (lv' := [(1, .int 31), (0, .int y14)]) K 1 dJ6_numberOfTrailingZeros_0f7a4_67 rfl rfl (by decide) rfl ?_
            refine q_iload_n K 1 dJ6_numberOfTrailingZeros_0f7a4_70 rfl ?_
            refine q_iconst 2 K dJ6_numberOfTrailingZeros_0f7a4_71 rfl ?_
            refine q_iushr K dJ6_numberOfTrailingZeros_0f7a4_72 ?_
            refine q_topi (fun y15 e_y15 => ?_)
            have e_y15 : y15 = j_us y14 2 := e_y15
            refine q_istore_n (lv' := [(0, .int y15), (1, .int 31)]) K dJ6_numberOfTrailingZeros_0f7a4_73 (by decide) rfl ?_
            refine q_iload_n K 1 dJ6_numberOfTrailingZeros_0f7a4_74 rfl ?_
            refine q_iload_n K 0 dJ6_numberOfTrailingZeros_0f7a4_75 rfl ?_
            refine q_iconst 1 K dJ6_numberOfTrailingZeros_0f7a4_76 rfl ?_
            refine q_iushr K dJ6_numberOfTrailingZeros_0f7a4_77 ?_
            refine q_iadd K dJ6_numberOfTrailingZeros_0f7a4_78 ?_
            exact Rt _ _ (31 + ((y15.toUInt32 >>> ((1 : Int32).toUInt32 &&& Int32.toUInt32 31)).toInt32)) ([]) dJ6_numberOfTrailingZeros_0f7a4_79 rfl (⟨by rw [j_ntz, ← e_y0, if_pos c_1]; simp only [j_nt, j_ns, if_pos c_1, if_neg c_2, if_neg c_10, if_neg c_14, if_neg c_16, ← e_y8, ← e_y12, ← e_y14, ← e_y15]; rfl, rfl⟩)
  · refine q_iload_n K 0 dJ6_numberOfTrailingZeros_0f7a4_12 rfl ?_
    refine q_bipush 32 K dJ6_numberOfTrailingZeros_0f7a4_13 rfl ?_
    refine q_iand K dJ6_numberOfTrailingZeros_0f7a4_15 ?_
    exact Rt _ _ (y0 &&& 32) ([]) dJ6_numberOfTrailingZeros_0f7a4_16 rfl (⟨by rw [j_ntz, ← e_y0, if_neg c_1], rfl⟩)
theorem ks_J6_numberOfTrailingZeros_0f7a4 : k_is yJ6_numberOfTrailingZeros_0f7a4 cJ6_numberOfTrailingZeros_0f7a4 2 (some .int) 1 := ⟨sm_J6_numberOfTrailingZeros_0f7a4, in_J6, co_J6_numberOfTrailingZeros_0f7a4, by decide +kernel⟩
