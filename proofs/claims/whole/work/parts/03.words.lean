def tw_T : List Cond := lw_tbl.filter goodWord
theorem tw_in : ∀ w ∈ tw_T, w ∈ lw_tbl := fun _ h => (List.mem_filter.mp h).1
theorem tw_good : ∀ w ∈ tw_T, goodWord w = true := fun _ h => (List.mem_filter.mp h).2
theorem tw_1 : ∀ w ∈ tables_1_1, goodWord w = true → w ∈ tw_T := fun _ h g => List.mem_filter.mpr ⟨List.mem_append_right _ (List.mem_append_left _ h), g⟩
theorem tw_2 : ∀ w ∈ tables_1_2, goodWord w = true → w ∈ tw_T := fun _ h g => List.mem_filter.mpr ⟨List.mem_append_right _ (List.mem_append_right _ (List.mem_append_left _ h)), g⟩
theorem tw_3 : ∀ w ∈ tables_1_3, goodWord w = true → w ∈ tw_T := fun _ h g => List.mem_filter.mpr ⟨List.mem_append_right _ (List.mem_append_right _ (List.mem_append_right _ (List.mem_append_left _ h))), g⟩
theorem tw_4 : ∀ w ∈ tables_1_4, goodWord w = true → w ∈ tw_T := fun _ h g => List.mem_filter.mpr ⟨List.mem_append_right _ (List.mem_append_right _ (List.mem_append_right _ (List.mem_append_right _ (List.mem_append_left _ h)))), g⟩
theorem tw_5 : ∀ w ∈ tables_1_5, goodWord w = true → w ∈ tw_T := fun _ h g => List.mem_filter.mpr ⟨List.mem_append_right _ (List.mem_append_right _ (List.mem_append_right _ (List.mem_append_right _ (List.mem_append_right _ h)))), g⟩
theorem in_L : Cond.initialized RL ∈ tw_T := tw_1 _ (List.mem_of_getElem? (i := 0) rfl) rfl
theorem in_X3 : Cond.initialized RX3 ∈ tw_T := tw_1 _ (List.mem_of_getElem? (i := 1) rfl) rfl
theorem in_X0 : Cond.initialized RX0 ∈ tw_T := tw_1 _ (List.mem_of_getElem? (i := 2) rfl) rfl
theorem in_X2 : Cond.initialized RX2 ∈ tw_T := tw_1 _ (List.mem_of_getElem? (i := 3) rfl) rfl
theorem in_J0 : Cond.initialized RJ0 ∈ tw_T := tw_1 _ (List.mem_of_getElem? (i := 4) rfl) rfl
theorem in_J1 : Cond.initialized RJ1 ∈ tw_T := tw_1 _ (List.mem_of_getElem? (i := 5) rfl) rfl
theorem in_J2 : Cond.initialized RJ2 ∈ tw_T := tw_1 _ (List.mem_of_getElem? (i := 6) rfl) rfl
theorem in_J3 : Cond.initialized RJ3 ∈ tw_T := tw_1 _ (List.mem_of_getElem? (i := 7) rfl) rfl
theorem in_X1 : Cond.initialized RX1 ∈ tw_T := tw_1 _ (List.mem_of_getElem? (i := 8) rfl) rfl
theorem in_X4 : Cond.initialized RX4 ∈ tw_T := tw_1 _ (List.mem_of_getElem? (i := 9) rfl) rfl
theorem in_J9 : Cond.initialized RJ9 ∈ tw_T := tw_1 _ (List.mem_of_getElem? (i := 10) rfl) rfl
theorem in_J10 : Cond.initialized RJ10 ∈ tw_T := tw_1 _ (List.mem_of_getElem? (i := 11) rfl) rfl
theorem in_J6 : Cond.initialized RJ6 ∈ tw_T := tw_1 _ (List.mem_of_getElem? (i := 12) rfl) rfl
theorem cl_L_7 : Cond.classLink RL 7 RX3 ∈ tw_T := tw_1 _ (List.mem_of_getElem? (i := 13) rfl) rfl
theorem it_X3 : Cond.instantiable RX3 7 ∈ tw_T := tw_1 _ (List.mem_of_getElem? (i := 14) rfl) rfl
theorem ml_L_9 : Cond.methodLink RL 9 yX3_init ∈ tw_T := tw_1 _ (List.mem_of_getElem? (i := 15) rfl) rfl
theorem ml_X3_3 : Cond.methodLink RX3 3 objectInit ∈ tw_T := tw_1 _ (List.mem_of_getElem? (i := 18) rfl) rfl
theorem cl_X3_9 : Cond.classLink RX3 9 RX0 ∈ tw_T := tw_1 _ (List.mem_of_getElem? (i := 21) rfl) rfl
theorem it_X0 : Cond.instantiable RX0 8 ∈ tw_T := tw_1 _ (List.mem_of_getElem? (i := 22) rfl) rfl
theorem ml_X3_11 : Cond.methodLink RX3 11 yX0_init ∈ tw_T := tw_1 _ (List.mem_of_getElem? (i := 23) rfl) rfl
theorem ml_X0_3 : Cond.methodLink RX0 3 objectInit ∈ tw_T := tw_1 _ (List.mem_of_getElem? (i := 26) rfl) rfl
theorem cl_X0_18 : Cond.classLink RX0 18 "[[I" ∈ tw_T := tw_1 _ (List.mem_of_getElem? (i := 27) rfl) rfl
theorem ao_I : Cond.arrayOver (.array .int) ∈ lw_tbl := List.mem_append_right _ (List.mem_append_left _ (List.mem_of_getElem? (i := 28) rfl))
theorem fl_X0_9 : Cond.fieldLink RX0 9 "GateManners$Farm" "beastsIn" "[I" ∈ tw_T := tw_1 _ (List.mem_of_getElem? (i := 29) rfl) rfl
theorem fl_X3_56 : Cond.fieldLink RX3 56 "GateManners$Farm" "beastsIn" "[I" ∈ tw_T := tw_1 _ (List.mem_of_getElem? (i := 30) rfl) rfl
theorem fl_X2_97 : Cond.fieldLink RX2 97 "GateManners$Farm" "beastsIn" "[I" ∈ tw_T := tw_1 _ (List.mem_of_getElem? (i := 31) rfl) rfl
theorem fl_X0_15 : Cond.fieldLink RX0 15 "GateManners$Farm" "standing" "[I" ∈ tw_T := tw_1 _ (List.mem_of_getElem? (i := 32) rfl) rfl
theorem fl_X3_68 : Cond.fieldLink RX3 68 "GateManners$Farm" "standing" "[I" ∈ tw_T := tw_1 _ (List.mem_of_getElem? (i := 33) rfl) rfl
theorem fl_X2_94 : Cond.fieldLink RX2 94 "GateManners$Farm" "standing" "[I" ∈ tw_T := tw_1 _ (List.mem_of_getElem? (i := 34) rfl) rfl
theorem fl_X0_20 : Cond.fieldLink RX0 20 "GateManners$Farm" "parts" "[[I" ∈ tw_T := tw_1 _ (List.mem_of_getElem? (i := 35) rfl) rfl
theorem fl_X3_91 : Cond.fieldLink RX3 91 "GateManners$Farm" "parts" "[[I" ∈ tw_T := tw_1 _ (List.mem_of_getElem? (i := 36) rfl) rfl
theorem fl_X2_90 : Cond.fieldLink RX2 90 "GateManners$Farm" "parts" "[[I" ∈ tw_T := tw_1 _ (List.mem_of_getElem? (i := 37) rfl) rfl
theorem fl_X0_23 : Cond.fieldLink RX0 23 "GateManners$Farm" "heldAt" "[I" ∈ tw_T := tw_1 _ (List.mem_of_getElem? (i := 38) rfl) rfl
theorem fl_X3_190 : Cond.fieldLink RX3 190 "GateManners$Farm" "heldAt" "[I" ∈ tw_T := tw_1 _ (List.mem_of_getElem? (i := 39) rfl) rfl
theorem fl_X0_26 : Cond.fieldLink RX0 26 "GateManners$Farm" "walkers" "I" ∈ tw_T := tw_1 _ (List.mem_of_getElem? (i := 40) rfl) rfl
theorem fl_X3_78 : Cond.fieldLink RX3 78 "GateManners$Farm" "walkers" "I" ∈ tw_T := tw_1 _ (List.mem_of_getElem? (i := 41) rfl) rfl
theorem fl_X0_30 : Cond.fieldLink RX0 30 "GateManners$Farm" "windNow" "I" ∈ tw_T := tw_1 _ (List.mem_of_getElem? (i := 42) rfl) rfl
theorem fl_X3_71 : Cond.fieldLink RX3 71 "GateManners$Farm" "windNow" "I" ∈ tw_T := tw_1 _ (List.mem_of_getElem? (i := 43) rfl) rfl
theorem fl_X2_100 : Cond.fieldLink RX2 100 "GateManners$Farm" "windNow" "I" ∈ tw_T := tw_1 _ (List.mem_of_getElem? (i := 44) rfl) rfl
theorem fl_X0_33 : Cond.fieldLink RX0 33 "GateManners$Farm" "hour" "I" ∈ tw_T := tw_1 _ (List.mem_of_getElem? (i := 45) rfl) rfl
theorem fl_X3_104 : Cond.fieldLink RX3 104 "GateManners$Farm" "hour" "I" ∈ tw_T := tw_1 _ (List.mem_of_getElem? (i := 46) rfl) rfl
theorem fl_X0_36 : Cond.fieldLink RX0 36 "GateManners$Farm" "z" "I" ∈ tw_T := tw_1 _ (List.mem_of_getElem? (i := 47) rfl) rfl
theorem fl_X3_174 : Cond.fieldLink RX3 174 "GateManners$Farm" "z" "I" ∈ tw_T := tw_1 _ (List.mem_of_getElem? (i := 48) rfl) rfl
theorem ac_int : Cond.arrayClass .int ∈ tw_T := tw_1 _ (List.mem_of_getElem? (i := 66) rfl) rfl
theorem cl_X3_26 : Cond.classLink RX3 26 RX2 ∈ tw_T := tw_1 _ (List.mem_of_getElem? (i := 67) rfl) rfl
theorem it_X2 : Cond.instantiable RX2 7 ∈ tw_T := tw_1 _ (List.mem_of_getElem? (i := 68) rfl) rfl
theorem mn_X3_28 : Cond.methodLinkNest RX3 28 yX2_init RX3 ∈ lw_tbl := List.mem_append_right _ (List.mem_append_left _ (List.mem_of_getElem? (i := 69) rfl))
theorem ml_X2_3 : Cond.methodLink RX2 3 objectInit ∈ tw_T := tw_1 _ (List.mem_of_getElem? (i := 72) rfl) rfl
theorem sr_X2_19 : Cond.stringRef RX2 19 "walker  postman dog     child   strangermean    daughtershut    ajar    open    propped beasts  wind    in      back    mood    " ∈ lw_tbl := List.mem_append_right _ (List.mem_append_left _ (List.mem_of_getElem? (i := 73) rfl))
theorem ml_X2_21 : Cond.methodLink RX2 21 yJ0_toCharArray_70df3 ∈ tw_T := tw_1 _ (List.mem_of_getElem? (i := 74) rfl) rfl
theorem ml_J0_492 : Cond.methodLink RJ0 492 yJ0_isLatin1_aae02 ∈ tw_T := tw_1 _ (List.mem_of_getElem? (i := 78) rfl) rfl
theorem fl_J0_38 : Cond.fieldLink RJ0 38 "java/lang/String" "COMPACT_STRINGS" "Z" ∈ tw_T := tw_1 _ (List.mem_of_getElem? (i := 82) rfl) rfl
theorem ml_J0_299 : Cond.methodLink RJ0 299 yJ1_toChars_9d188 ∈ tw_T := tw_1 _ (List.mem_of_getElem? (i := 84) rfl) rfl
theorem ml_J1_13 : Cond.methodLink RJ1 13 yJ1_inflate_03870 ∈ tw_T := tw_1 _ (List.mem_of_getElem? (i := 87) rfl) rfl
theorem ml_J0_303 : Cond.methodLink RJ0 303 yJ2_toChars_9d188 ∈ tw_T := tw_1 _ (List.mem_of_getElem? (i := 90) rfl) rfl
theorem ml_J2_103 : Cond.methodLink RJ2 103 yJ2_getChars_a1a8b ∈ tw_T := tw_1 _ (List.mem_of_getElem? (i := 93) rfl) rfl
theorem ml_J2_173 : Cond.methodLink RJ2 173 yJ2_checkBoundsOffCount_d044e ∈ tw_T := tw_1 _ (List.mem_of_getElem? (i := 96) rfl) rfl
theorem ml_J2_48 : Cond.methodLink RJ2 48 yJ2_length_9d52b ∈ tw_T := tw_1 _ (List.mem_of_getElem? (i := 99) rfl) rfl
theorem ml_J2_419 : Cond.methodLink RJ2 419 yJ0_checkBoundsOffCount_cabcc ∈ tw_T := tw_1 _ (List.mem_of_getElem? (i := 102) rfl) rfl
theorem fl_J0_1053 : Cond.fieldLink RJ0 1053 "jdk/internal/util/Preconditions" "SIOOBE_FORMATTER" "Ljava/util/function/BiFunction;" ∈ tw_T := tw_1 _ (List.mem_of_getElem? (i := 105) rfl) rfl
theorem ml_J0_1065 : Cond.methodLink RJ0 1065 yJ3_checkFromIndexSize_8c36e ∈ tw_T := tw_1 _ (List.mem_of_getElem? (i := 107) rfl) rfl
theorem ml_J2_71 : Cond.methodLink RJ2 71 yJ2_getChar_3b067 ∈ tw_T := tw_1 _ (List.mem_of_getElem? (i := 110) rfl) rfl
theorem fl_J2_44 : Cond.fieldLink RJ2 44 "java/lang/StringUTF16" "$assertionsDisabled" "Z" ∈ tw_T := tw_1 _ (List.mem_of_getElem? (i := 113) rfl) rfl
theorem fl_J2_59 : Cond.fieldLink RJ2 59 "java/lang/StringUTF16" "HI_BYTE_SHIFT" "I" ∈ tw_T := tw_1 _ (List.mem_of_getElem? (i := 115) rfl) rfl
theorem fl_J2_63 : Cond.fieldLink RJ2 63 "java/lang/StringUTF16" "LO_BYTE_SHIFT" "I" ∈ tw_T := tw_1 _ (List.mem_of_getElem? (i := 117) rfl) rfl
theorem fl_X2_9 : Cond.fieldLink RX2 9 "GateManners$Tape" "bytes" "[B" ∈ tw_T := tw_1 _ (List.mem_of_getElem? (i := 119) rfl) rfl
theorem fl_X2_15 : Cond.fieldLink RX2 15 "GateManners$Tape" "size" "I" ∈ tw_T := tw_1 _ (List.mem_of_getElem? (i := 120) rfl) rfl
theorem fl_X3_177 : Cond.fieldLink RX3 177 "GateManners$Tape" "size" "I" ∈ tw_T := tw_1 _ (List.mem_of_getElem? (i := 121) rfl) rfl
theorem fl_X2_27 : Cond.fieldLink RX2 27 "GateManners$Tape" "words" "[C" ∈ tw_T := tw_1 _ (List.mem_of_getElem? (i := 122) rfl) rfl
theorem fl_X2_31 : Cond.fieldLink RX2 31 "GateManners$Tape" "sorts" "[I" ∈ tw_T := tw_1 _ (List.mem_of_getElem? (i := 123) rfl) rfl
theorem fl_X2_35 : Cond.fieldLink RX2 35 "GateManners$Tape" "places" "[I" ∈ tw_T := tw_1 _ (List.mem_of_getElem? (i := 124) rfl) rfl
theorem fl_X2_38 : Cond.fieldLink RX2 38 "GateManners$Tape" "lengths" "[I" ∈ tw_T := tw_1 _ (List.mem_of_getElem? (i := 125) rfl) rfl
theorem fl_X2_41 : Cond.fieldLink RX2 41 "GateManners$Tape" "next" "I" ∈ tw_T := tw_1 _ (List.mem_of_getElem? (i := 126) rfl) rfl
theorem ac_byte : Cond.arrayClass .byte ∈ tw_T := tw_1 _ (List.mem_of_getElem? (i := 142) rfl) rfl
theorem ac_char : Cond.arrayClass .char ∈ tw_T := tw_1 _ (List.mem_of_getElem? (i := 143) rfl) rfl
theorem cl_X3_33 : Cond.classLink RX3 33 RX1 ∈ tw_T := tw_1 _ (List.mem_of_getElem? (i := 144) rfl) rfl
theorem ao_X1 : Cond.arrayOver (.object RX1) ∈ lw_tbl := List.mem_append_right _ (List.mem_append_left _ (List.mem_of_getElem? (i := 145) rfl))
theorem it_X1 : Cond.instantiable RX1 3 ∈ tw_T := tw_1 _ (List.mem_of_getElem? (i := 146) rfl) rfl
theorem mn_X3_39 : Cond.methodLinkNest RX3 39 yX1_init RX3 ∈ lw_tbl := List.mem_append_right _ (List.mem_append_left _ (List.mem_of_getElem? (i := 147) rfl))
theorem ml_X1_3 : Cond.methodLink RX1 3 objectInit ∈ tw_T := tw_1 _ (List.mem_of_getElem? (i := 150) rfl) rfl
theorem fl_X1_9 : Cond.fieldLink RX1 9 "GateManners$Sheet" "numbers" "[I" ∈ tw_T := tw_1 _ (List.mem_of_getElem? (i := 151) rfl) rfl
theorem fl_X0_87 : Cond.fieldLink RX0 87 "GateManners$Sheet" "numbers" "[I" ∈ tw_T := tw_1 _ (List.mem_of_getElem? (i := 152) rfl) rfl
theorem fl_X3_216 : Cond.fieldLink RX3 216 "GateManners$Sheet" "numbers" "[I" ∈ tw_T := tw_1 _ (List.mem_of_getElem? (i := 153) rfl) rfl
theorem fl_X1_15 : Cond.fieldLink RX1 15 "GateManners$Sheet" "bits" "I" ∈ tw_T := tw_1 _ (List.mem_of_getElem? (i := 154) rfl) rfl
theorem fl_X3_210 : Cond.fieldLink RX3 210 "GateManners$Sheet" "bits" "I" ∈ tw_T := tw_1 _ (List.mem_of_getElem? (i := 155) rfl) rfl
theorem fl_X1_19 : Cond.fieldLink RX1 19 "GateManners$Sheet" "size" "I" ∈ tw_T := tw_1 _ (List.mem_of_getElem? (i := 156) rfl) rfl
theorem fl_X0_82 : Cond.fieldLink RX0 82 "GateManners$Sheet" "size" "I" ∈ tw_T := tw_1 _ (List.mem_of_getElem? (i := 157) rfl) rfl
theorem fl_X3_203 : Cond.fieldLink RX3 203 "GateManners$Sheet" "size" "I" ∈ tw_T := tw_1 _ (List.mem_of_getElem? (i := 158) rfl) rfl
theorem fl_X3_12 : Cond.fieldLink RX3 12 "GateManners" "farm" "LGateManners$Farm;" ∈ tw_T := tw_1 _ (List.mem_of_getElem? (i := 166) rfl) rfl
theorem fl_X3_16 : Cond.fieldLink RX3 16 "GateManners" "trial" "LGateManners$Farm;" ∈ tw_T := tw_1 _ (List.mem_of_getElem? (i := 167) rfl) rfl
theorem fl_X3_19 : Cond.fieldLink RX3 19 "GateManners" "kept" "LGateManners$Farm;" ∈ tw_T := tw_1 _ (List.mem_of_getElem? (i := 168) rfl) rfl
theorem fl_X3_22 : Cond.fieldLink RX3 22 "GateManners" "isKept" "Z" ∈ tw_T := tw_1 _ (List.mem_of_getElem? (i := 169) rfl) rfl
theorem fl_X3_29 : Cond.fieldLink RX3 29 "GateManners" "tape" "LGateManners$Tape;" ∈ tw_T := tw_1 _ (List.mem_of_getElem? (i := 170) rfl) rfl
theorem fl_X3_35 : Cond.fieldLink RX3 35 "GateManners" "sheets" "[LGateManners$Sheet;" ∈ tw_T := tw_1 _ (List.mem_of_getElem? (i := 171) rfl) rfl
theorem fl_X3_40 : Cond.fieldLink RX3 40 "GateManners" "found" "[I" ∈ tw_T := tw_1 _ (List.mem_of_getElem? (i := 172) rfl) rfl
theorem ml_L_13 : Cond.methodLink RL 13 yX3_beasts ∈ tw_T := tw_1 _ (List.mem_of_getElem? (i := 188) rfl) rfl
theorem ml_X3_44 : Cond.methodLink RX3 44 yX3_isField ∈ tw_T := tw_1 _ (List.mem_of_getElem? (i := 192) rfl) rfl
theorem ml_X3_48 : Cond.methodLink RX3 48 yX3_isIn ∈ tw_T := tw_1 _ (List.mem_of_getElem? (i := 195) rfl) rfl
theorem ml_X3_52 : Cond.methodLink RX3 52 yX3_finding ∈ tw_T := tw_1 _ (List.mem_of_getElem? (i := 198) rfl) rfl
theorem ct_X3_236 : Cond.constant RX3 236 (-1000001) ∈ tw_T := tw_1 _ (List.mem_of_getElem? (i := 202) rfl) rfl
theorem ml_L_18 : Cond.methodLink RL 18 yX3_field ∈ tw_T := tw_1 _ (List.mem_of_getElem? (i := 203) rfl) rfl
theorem ml_X3_59 : Cond.methodLink RX3 59 yX0_walkersIn ∈ tw_T := tw_1 _ (List.mem_of_getElem? (i := 207) rfl) rfl
theorem ml_L_22 : Cond.methodLink RL 22 yX3_gate ∈ tw_T := tw_1 _ (List.mem_of_getElem? (i := 211) rfl) rfl
theorem ml_X3_62 : Cond.methodLink RX3 62 yX3_isGate ∈ tw_T := tw_1 _ (List.mem_of_getElem? (i := 215) rfl) rfl
theorem ml_X3_65 : Cond.methodLink RX3 65 yX3_isManner ∈ tw_T := tw_1 _ (List.mem_of_getElem? (i := 218) rfl) rfl
theorem ml_L_26 : Cond.methodLink RL 26 yX3_stands ∈ tw_T := tw_1 _ (List.mem_of_getElem? (i := 221) rfl) rfl
theorem ml_L_31 : Cond.methodLink RL 31 yX3_wind ∈ tw_T := tw_1 _ (List.mem_of_getElem? (i := 225) rfl) rfl
theorem ml_L_35 : Cond.methodLink RL 35 yX3_walker ∈ tw_T := tw_1 _ (List.mem_of_getElem? (i := 229) rfl) rfl
theorem ml_X3_75 : Cond.methodLink RX3 75 yX3_isKind ∈ tw_T := tw_1 _ (List.mem_of_getElem? (i := 233) rfl) rfl
theorem ml_X3_81 : Cond.methodLink RX3 81 yX0_addWalker ∈ tw_T := tw_1 _ (List.mem_of_getElem? (i := 236) rfl) rfl
theorem ml_L_39 : Cond.methodLink RL 39 yX3_of ∈ tw_T := tw_2 _ (List.mem_of_getElem? (i := 0) rfl) rfl
theorem ml_X3_85 : Cond.methodLink RX3 85 yX3_isWalker ∈ tw_T := tw_2 _ (List.mem_of_getElem? (i := 4) rfl) rfl
theorem ml_X3_88 : Cond.methodLink RX3 88 yX0_goesOf ∈ tw_T := tw_2 _ (List.mem_of_getElem? (i := 8) rfl) rfl
theorem ml_L_43 : Cond.methodLink RL 43 yX3_change ∈ tw_T := tw_2 _ (List.mem_of_getElem? (i := 12) rfl) rfl
theorem fl_X3_95 : Cond.fieldLink RX3 95 "GateManners" "MOST_OF_PART" "[I" ∈ tw_T := tw_2 _ (List.mem_of_getElem? (i := 16) rfl) rfl
theorem ml_L_48 : Cond.methodLink RL 48 yX3_leaves ∈ tw_T := tw_2 _ (List.mem_of_getElem? (i := 18) rfl) rfl
theorem ml_X3_98 : Cond.methodLink RX3 98 yX0_leftBy ∈ tw_T := tw_2 _ (List.mem_of_getElem? (i := 22) rfl) rfl
theorem ml_X3_101 : Cond.methodLink RX3 101 yX0_feltBy ∈ tw_T := tw_2 _ (List.mem_of_getElem? (i := 26) rfl) rfl
theorem ml_X0_45 : Cond.methodLink RX0 45 yJ9_min_7cf53 ∈ tw_T := tw_2 _ (List.mem_of_getElem? (i := 30) rfl) rfl
theorem ml_X0_51 : Cond.methodLink RX0 51 yJ9_max_7cf53 ∈ tw_T := tw_2 _ (List.mem_of_getElem? (i := 33) rfl) rfl
theorem ml_L_52 : Cond.methodLink RL 52 yX3_go ∈ tw_T := tw_2 _ (List.mem_of_getElem? (i := 36) rfl) rfl
theorem ct_X3_107 : Cond.constant RX3 107 (99999) ∈ tw_T := tw_2 _ (List.mem_of_getElem? (i := 40) rfl) rfl
theorem ml_X3_108 : Cond.methodLink RX3 108 yX0_passHours ∈ tw_T := tw_2 _ (List.mem_of_getElem? (i := 41) rfl) rfl
theorem ml_X0_54 : Cond.methodLink RX0 54 yX0_letGo ∈ tw_T := tw_2 _ (List.mem_of_getElem? (i := 45) rfl) rfl
theorem ml_X0_65 : Cond.methodLink RX0 65 yX0_goesOf ∈ tw_T := tw_2 _ (List.mem_of_getElem? (i := 49) rfl) rfl
theorem ml_X0_69 : Cond.methodLink RX0 69 yX0_passOrTurn ∈ tw_T := tw_2 _ (List.mem_of_getElem? (i := 50) rfl) rfl
theorem ml_X0_72 : Cond.methodLink RX0 72 yX0_leftBy ∈ tw_T := tw_2 _ (List.mem_of_getElem? (i := 54) rfl) rfl
theorem ml_X0_75 : Cond.methodLink RX0 75 yX0_feltBy ∈ tw_T := tw_2 _ (List.mem_of_getElem? (i := 55) rfl) rfl
theorem ml_X0_58 : Cond.methodLink RX0 58 yX0_moveBeasts ∈ tw_T := tw_2 _ (List.mem_of_getElem? (i := 56) rfl) rfl
theorem ml_X0_78 : Cond.methodLink RX0 78 yX0_through ∈ tw_T := tw_2 _ (List.mem_of_getElem? (i := 60) rfl) rfl
theorem ml_X0_61 : Cond.methodLink RX0 61 yX0_blowShut ∈ tw_T := tw_2 _ (List.mem_of_getElem? (i := 63) rfl) rfl
theorem ct_X0_64 : Cond.constant RX0 64 (99999) ∈ tw_T := tw_2 _ (List.mem_of_getElem? (i := 67) rfl) rfl
theorem ml_X3_112 : Cond.methodLink RX3 112 yX0_standingByFour ∈ tw_T := tw_2 _ (List.mem_of_getElem? (i := 68) rfl) rfl
theorem ml_L_56 : Cond.methodLink RL 56 yX3_now ∈ tw_T := tw_2 _ (List.mem_of_getElem? (i := 72) rfl) rfl
theorem ml_X3_116 : Cond.methodLink RX3 116 yX0_allBeasts ∈ tw_T := tw_2 _ (List.mem_of_getElem? (i := 76) rfl) rfl
theorem ml_X3_119 : Cond.methodLink RX3 119 yX0_notShut ∈ tw_T := tw_2 _ (List.mem_of_getElem? (i := 80) rfl) rfl
theorem ml_X3_122 : Cond.methodLink RX3 122 yX0_allPassed ∈ tw_T := tw_2 _ (List.mem_of_getElem? (i := 84) rfl) rfl
theorem ml_X3_125 : Cond.methodLink RX3 125 yX0_fullestField ∈ tw_T := tw_2 _ (List.mem_of_getElem? (i := 88) rfl) rfl
theorem ml_L_60 : Cond.methodLink RL 60 yX3_ahead ∈ tw_T := tw_2 _ (List.mem_of_getElem? (i := 92) rfl) rfl
theorem ml_X3_128 : Cond.methodLink RX3 128 yX3_tryHours ∈ tw_T := tw_2 _ (List.mem_of_getElem? (i := 96) rfl) rfl
theorem ml_X3_132 : Cond.methodLink RX3 132 yX0_become ∈ tw_T := tw_2 _ (List.mem_of_getElem? (i := 100) rfl) rfl
theorem ml_X0_39 : Cond.methodLink RX0 39 arraycopyName ∈ tw_T := tw_2 _ (List.mem_of_getElem? (i := 104) rfl) rfl
theorem ml_L_64 : Cond.methodLink RL 64 yX3_stand ∈ tw_T := tw_2 _ (List.mem_of_getElem? (i := 107) rfl) rfl
theorem ml_L_68 : Cond.methodLink RL 68 yX3_where ∈ tw_T := tw_2 _ (List.mem_of_getElem? (i := 111) rfl) rfl
theorem ml_L_72 : Cond.methodLink RL 72 yX3_corn ∈ tw_T := tw_2 _ (List.mem_of_getElem? (i := 115) rfl) rfl
theorem ml_L_76 : Cond.methodLink RL 76 yX3_when ∈ tw_T := tw_2 _ (List.mem_of_getElem? (i := 119) rfl) rfl
theorem ml_L_80 : Cond.methodLink RL 80 yX3_meet ∈ tw_T := tw_2 _ (List.mem_of_getElem? (i := 123) rfl) rfl
theorem ml_L_84 : Cond.methodLink RL 84 yX3_start ∈ tw_T := tw_2 _ (List.mem_of_getElem? (i := 127) rfl) rfl
theorem ml_X3_136 : Cond.methodLink RX3 136 yX3_isWish ∈ tw_T := tw_2 _ (List.mem_of_getElem? (i := 131) rfl) rfl
theorem ml_X3_140 : Cond.methodLink RX3 140 yX3_valuesFor ∈ tw_T := tw_2 _ (List.mem_of_getElem? (i := 135) rfl) rfl
theorem ml_X3_144 : Cond.methodLink RX3 144 yJ6_numberOfTrailingZeros_0f7a4 ∈ tw_T := tw_2 _ (List.mem_of_getElem? (i := 139) rfl) rfl
theorem ct_J6_264 : Cond.constant RJ6 264 (65536) ∈ tw_T := tw_2 _ (List.mem_of_getElem? (i := 142) rfl) rfl
theorem ml_L_89 : Cond.methodLink RL 89 yX3_kindsFor ∈ tw_T := tw_2 _ (List.mem_of_getElem? (i := 143) rfl) rfl
theorem ml_L_93 : Cond.methodLink RL 93 yX3_moods ∈ tw_T := tw_2 _ (List.mem_of_getElem? (i := 147) rfl) rfl
theorem ml_L_97 : Cond.methodLink RL 97 yX3_windFor ∈ tw_T := tw_2 _ (List.mem_of_getElem? (i := 151) rfl) rfl
theorem ml_L_101 : Cond.methodLink RL 101 yX3_home ∈ tw_T := tw_2 _ (List.mem_of_getElem? (i := 155) rfl) rfl
theorem ml_X3_149 : Cond.methodLink RX3 149 yX3_leastHome ∈ tw_T := tw_2 _ (List.mem_of_getElem? (i := 159) rfl) rfl
theorem ml_X3_167 : Cond.methodLink RX3 167 yJ6_bitCount_0f7a4 ∈ tw_T := tw_2 _ (List.mem_of_getElem? (i := 163) rfl) rfl
theorem ct_J6_265 : Cond.constant RJ6 265 (1431655765) ∈ tw_T := tw_2 _ (List.mem_of_getElem? (i := 166) rfl) rfl
theorem ct_J6_266 : Cond.constant RJ6 266 (858993459) ∈ tw_T := tw_2 _ (List.mem_of_getElem? (i := 167) rfl) rfl
theorem ct_J6_267 : Cond.constant RJ6 267 (252645135) ∈ tw_T := tw_2 _ (List.mem_of_getElem? (i := 168) rfl) rfl
theorem ml_L_105 : Cond.methodLink RL 105 yX3_shut ∈ tw_T := tw_2 _ (List.mem_of_getElem? (i := 169) rfl) rfl
theorem ml_L_109 : Cond.methodLink RL 109 yX3_who ∈ tw_T := tw_2 _ (List.mem_of_getElem? (i := 173) rfl) rfl
theorem ml_X3_153 : Cond.methodLink RX3 153 yX3_wrongSheet ∈ tw_T := tw_2 _ (List.mem_of_getElem? (i := 177) rfl) rfl
theorem ml_X3_197 : Cond.methodLink RX3 197 yX3_isSheet ∈ tw_T := tw_2 _ (List.mem_of_getElem? (i := 181) rfl) rfl
theorem ml_X3_206 : Cond.methodLink RX3 206 yX1_isMissing ∈ tw_T := tw_2 _ (List.mem_of_getElem? (i := 184) rfl) rfl
theorem ml_X3_156 : Cond.methodLink RX3 156 yX0_standsAsTold ∈ tw_T := tw_2 _ (List.mem_of_getElem? (i := 188) rfl) rfl
theorem ml_L_113 : Cond.methodLink RL 113 yX3_fits ∈ tw_T := tw_2 _ (List.mem_of_getElem? (i := 192) rfl) rfl
theorem ml_L_117 : Cond.methodLink RL 117 yX3_kinds ∈ tw_T := tw_2 _ (List.mem_of_getElem? (i := 196) rfl) rfl
theorem ml_X3_160 : Cond.methodLink RX3 160 yX3_feelsAsTold ∈ tw_T := tw_2 _ (List.mem_of_getElem? (i := 200) rfl) rfl
theorem ml_L_121 : Cond.methodLink RL 121 yX3_gales ∈ tw_T := tw_2 _ (List.mem_of_getElem? (i := 204) rfl) rfl
theorem ml_X3_164 : Cond.methodLink RX3 164 yX0_draw ∈ tw_T := tw_2 _ (List.mem_of_getElem? (i := 208) rfl) rfl
theorem ct_X0_81 : Cond.constant RX0 81 (1103515245) ∈ tw_T := tw_2 _ (List.mem_of_getElem? (i := 212) rfl) rfl
theorem ml_L_125 : Cond.methodLink RL 125 yX3_odds ∈ tw_T := tw_2 _ (List.mem_of_getElem? (i := 213) rfl) rfl
theorem ml_X3_170 : Cond.methodLink RX3 170 yX3_power ∈ tw_T := tw_2 _ (List.mem_of_getElem? (i := 217) rfl) rfl
theorem ml_L_130 : Cond.methodLink RL 130 yX3_seed ∈ tw_T := tw_2 _ (List.mem_of_getElem? (i := 220) rfl) rfl
theorem ml_L_134 : Cond.methodLink RL 134 yX3_feed ∈ tw_T := tw_2 _ (List.mem_of_getElem? (i := 224) rfl) rfl
theorem ml_X3_180 : Cond.methodLink RX3 180 yX2_put ∈ tw_T := tw_2 _ (List.mem_of_getElem? (i := 228) rfl) rfl
theorem ml_L_138 : Cond.methodLink RL 138 yX3_wipe ∈ tw_T := tw_2 _ (List.mem_of_getElem? (i := 232) rfl) rfl
theorem ml_L_143 : Cond.methodLink RL 143 yX3_text ∈ tw_T := tw_2 _ (List.mem_of_getElem? (i := 236) rfl) rfl
theorem ml_X3_183 : Cond.methodLink RX3 183 yX2_tellTo ∈ tw_T := tw_3 _ (List.mem_of_getElem? (i := 0) rfl) rfl
theorem ml_X2_44 : Cond.methodLink RX2 44 yX2_split ∈ tw_T := tw_3 _ (List.mem_of_getElem? (i := 4) rfl) rfl
theorem ml_X2_51 : Cond.methodLink RX2 51 yX2_sortOf ∈ tw_T := tw_3 _ (List.mem_of_getElem? (i := 8) rfl) rfl
theorem ml_X2_55 : Cond.methodLink RX2 55 yX2_setToken ∈ tw_T := tw_3 _ (List.mem_of_getElem? (i := 11) rfl) rfl
theorem ml_X2_47 : Cond.methodLink RX2 47 yX2_takeItem ∈ tw_T := tw_3 _ (List.mem_of_getElem? (i := 15) rfl) rfl
theorem ml_X2_59 : Cond.methodLink RX2 59 yX2_wordAhead ∈ tw_T := tw_3 _ (List.mem_of_getElem? (i := 19) rfl) rfl
theorem ml_X2_108 : Cond.methodLink RX2 108 yX2_isSpelt ∈ tw_T := tw_3 _ (List.mem_of_getElem? (i := 23) rfl) rfl
theorem ml_X2_63 : Cond.methodLink RX2 63 yX2_takeWalker ∈ tw_T := tw_3 _ (List.mem_of_getElem? (i := 27) rfl) rfl
theorem ml_X2_76 : Cond.methodLink RX2 76 yX0_addWalker ∈ tw_T := tw_3 _ (List.mem_of_getElem? (i := 31) rfl) rfl
theorem ml_X2_82 : Cond.methodLink RX2 82 yX2_takeWord ∈ tw_T := tw_3 _ (List.mem_of_getElem? (i := 32) rfl) rfl
theorem ml_X2_86 : Cond.methodLink RX2 86 yX2_takeNumber ∈ tw_T := tw_3 _ (List.mem_of_getElem? (i := 36) rfl) rfl
theorem ml_X2_103 : Cond.methodLink RX2 103 yJ9_min_7cf53 ∈ tw_T := tw_3 _ (List.mem_of_getElem? (i := 40) rfl) rfl
theorem ml_X2_67 : Cond.methodLink RX2 67 yX2_takeGate ∈ tw_T := tw_3 _ (List.mem_of_getElem? (i := 41) rfl) rfl
theorem ml_X2_70 : Cond.methodLink RX2 70 yX2_takeBeasts ∈ tw_T := tw_3 _ (List.mem_of_getElem? (i := 45) rfl) rfl
theorem ml_X2_73 : Cond.methodLink RX2 73 yX2_takeWind ∈ tw_T := tw_3 _ (List.mem_of_getElem? (i := 49) rfl) rfl
theorem ml_L_147 : Cond.methodLink RL 147 yX3_hold ∈ tw_T := tw_3 _ (List.mem_of_getElem? (i := 53) rfl) rfl
theorem ml_X3_187 : Cond.methodLink RX3 187 yX3_isSpot ∈ tw_T := tw_3 _ (List.mem_of_getElem? (i := 57) rfl) rfl
theorem ml_L_151 : Cond.methodLink RL 151 yX3_as ∈ tw_T := tw_3 _ (List.mem_of_getElem? (i := 60) rfl) rfl
theorem ml_X3_193 : Cond.methodLink RX3 193 yX3_isUnder ∈ tw_T := tw_3 _ (List.mem_of_getElem? (i := 64) rfl) rfl
theorem fl_X3_237 : Cond.fieldLink RX3 237 "GateManners" "KIND_ABOVE" "[I" ∈ tw_T := tw_3 _ (List.mem_of_getElem? (i := 67) rfl) rfl
theorem ml_L_155 : Cond.methodLink RL 155 yX3_sheet ∈ tw_T := tw_3 _ (List.mem_of_getElem? (i := 69) rfl) rfl
theorem ml_X3_200 : Cond.methodLink RX3 200 yX1_clear ∈ tw_T := tw_3 _ (List.mem_of_getElem? (i := 73) rfl) rfl
theorem ml_L_159 : Cond.methodLink RL 159 yX3_write ∈ tw_T := tw_3 _ (List.mem_of_getElem? (i := 77) rfl) rfl
theorem ml_X3_204 : Cond.methodLink RX3 204 yX1_put ∈ tw_T := tw_3 _ (List.mem_of_getElem? (i := 81) rfl) rfl
theorem ml_L_163 : Cond.methodLink RL 163 yX3_copy ∈ tw_T := tw_3 _ (List.mem_of_getElem? (i := 85) rfl) rfl
theorem ml_X3_213 : Cond.methodLink RX3 213 yX1_hasRow ∈ tw_T := tw_3 _ (List.mem_of_getElem? (i := 89) rfl) rfl
theorem ml_X3_219 : Cond.methodLink RX3 219 arraycopyName ∈ tw_T := tw_3 _ (List.mem_of_getElem? (i := 93) rfl) rfl
theorem ml_L_168 : Cond.methodLink RL 168 yX3_load ∈ tw_T := tw_3 _ (List.mem_of_getElem? (i := 94) rfl) rfl
theorem ml_X3_225 : Cond.methodLink RX3 225 yJ9_min_7cf53 ∈ tw_T := tw_3 _ (List.mem_of_getElem? (i := 98) rfl) rfl
theorem ml_L_172 : Cond.methodLink RL 172 yX3_judge ∈ tw_T := tw_3 _ (List.mem_of_getElem? (i := 99) rfl) rfl
theorem ml_L_176 : Cond.methodLink RL 176 yX3_image ∈ tw_T := tw_3 _ (List.mem_of_getElem? (i := 103) rfl) rfl
theorem ml_L_180 : Cond.methodLink RL 180 yX3_undo ∈ tw_T := tw_3 _ (List.mem_of_getElem? (i := 107) rfl) rfl
theorem ml_L_184 : Cond.methodLink RL 184 yX3_tear ∈ tw_T := tw_3 _ (List.mem_of_getElem? (i := 111) rfl) rfl
theorem ml_L_188 : Cond.methodLink RL 188 yX3_count ∈ tw_T := tw_3 _ (List.mem_of_getElem? (i := 115) rfl) rfl
theorem ml_X3_230 : Cond.methodLink RX3 230 yX0_spotsInUse ∈ tw_T := tw_3 _ (List.mem_of_getElem? (i := 119) rfl) rfl
theorem ml_L_192 : Cond.methodLink RL 192 yX3_status ∈ tw_T := tw_3 _ (List.mem_of_getElem? (i := 123) rfl) rfl
theorem ml_X3_233 : Cond.methodLink RX3 233 yX3_allFound ∈ tw_T := tw_3 _ (List.mem_of_getElem? (i := 127) rfl) rfl
theorem cl_L_10 : Cond.classLink RL 10 RX4 ∈ tw_T := tw_3 _ (List.mem_of_getElem? (i := 131) rfl) rfl
theorem it_X4 : Cond.instantiable RX4 17 ∈ tw_T := tw_3 _ (List.mem_of_getElem? (i := 132) rfl) rfl
theorem ml_L_12 : Cond.methodLink RL 12 yX4_init ∈ tw_T := tw_3 _ (List.mem_of_getElem? (i := 133) rfl) rfl
theorem ml_X4_1 : Cond.methodLink RX4 1 objectInit ∈ tw_T := tw_3 _ (List.mem_of_getElem? (i := 136) rfl) rfl
theorem fl_X4_7 : Cond.fieldLink RX4 7 "GateMannersModel" "s" "[I" ∈ tw_T := tw_3 _ (List.mem_of_getElem? (i := 137) rfl) rfl
theorem fl_X4_13 : Cond.fieldLink RX4 13 "GateMannersModel" "kept" "[I" ∈ tw_T := tw_3 _ (List.mem_of_getElem? (i := 138) rfl) rfl
theorem fl_X4_16 : Cond.fieldLink RX4 16 "GateMannersModel" "before" "[I" ∈ tw_T := tw_3 _ (List.mem_of_getElem? (i := 139) rfl) rfl
theorem fl_X4_19 : Cond.fieldLink RX4 19 "GateMannersModel" "aside" "[I" ∈ tw_T := tw_3 _ (List.mem_of_getElem? (i := 140) rfl) rfl
theorem fl_X4_278 : Cond.fieldLink RX4 278 "GateMannersModel" "isKept" "Z" ∈ tw_T := tw_3 _ (List.mem_of_getElem? (i := 141) rfl) rfl
theorem fl_X4_22 : Cond.fieldLink RX4 22 "GateMannersModel" "findings" "[I" ∈ tw_T := tw_3 _ (List.mem_of_getElem? (i := 142) rfl) rfl
theorem fl_X4_25 : Cond.fieldLink RX4 25 "GateMannersModel" "tape" "[I" ∈ tw_T := tw_3 _ (List.mem_of_getElem? (i := 143) rfl) rfl
theorem fl_X4_193 : Cond.fieldLink RX4 193 "GateMannersModel" "taped" "I" ∈ tw_T := tw_3 _ (List.mem_of_getElem? (i := 144) rfl) rfl
theorem fl_X4_28 : Cond.fieldLink RX4 28 "GateMannersModel" "bitsOf" "[I" ∈ tw_T := tw_3 _ (List.mem_of_getElem? (i := 145) rfl) rfl
theorem fl_X4_31 : Cond.fieldLink RX4 31 "GateMannersModel" "sizes" "[I" ∈ tw_T := tw_3 _ (List.mem_of_getElem? (i := 146) rfl) rfl
theorem fl_X4_34 : Cond.fieldLink RX4 34 "GateMannersModel" "numbers" "[I" ∈ tw_T := tw_3 _ (List.mem_of_getElem? (i := 147) rfl) rfl
theorem fl_X4_37 : Cond.fieldLink RX4 37 "GateMannersModel" "gone" "[I" ∈ tw_T := tw_3 _ (List.mem_of_getElem? (i := 148) rfl) rfl
theorem fl_X4_212 : Cond.fieldLink RX4 212 "GateMannersModel" "token" "I" ∈ tw_T := tw_3 _ (List.mem_of_getElem? (i := 149) rfl) rfl
theorem fl_X4_200 : Cond.fieldLink RX4 200 "GateMannersModel" "from" "I" ∈ tw_T := tw_3 _ (List.mem_of_getElem? (i := 150) rfl) rfl
theorem fl_X4_197 : Cond.fieldLink RX4 197 "GateMannersModel" "to" "I" ∈ tw_T := tw_3 _ (List.mem_of_getElem? (i := 151) rfl) rfl
theorem fl_X4_215 : Cond.fieldLink RX4 215 "GateMannersModel" "value" "I" ∈ tw_T := tw_3 _ (List.mem_of_getElem? (i := 152) rfl) rfl
theorem fl_X4_218 : Cond.fieldLink RX4 218 "GateMannersModel" "faultAt" "I" ∈ tw_T := tw_3 _ (List.mem_of_getElem? (i := 153) rfl) rfl
theorem ml_L_17 : Cond.methodLink RL 17 yX4_beasts ∈ tw_T := tw_3 _ (List.mem_of_getElem? (i := 189) rfl) rfl
theorem ml_X4_52 : Cond.methodLink RX4 52 yX4_isField ∈ tw_T := tw_3 _ (List.mem_of_getElem? (i := 193) rfl) rfl
theorem ct_X4_56 : Cond.constantLong RX4 56 (9999) ∈ tw_T := tw_3 _ (List.mem_of_getElem? (i := 196) rfl) rfl
theorem ml_X4_43 : Cond.methodLink RX4 43 yX4_isIn ∈ tw_T := tw_3 _ (List.mem_of_getElem? (i := 197) rfl) rfl
theorem ml_X4_58 : Cond.methodLink RX4 58 yX4_becomes ∈ tw_T := tw_3 _ (List.mem_of_getElem? (i := 200) rfl) rfl
theorem ct_X4_40 : Cond.constant RX4 40 (-1000001) ∈ tw_T := tw_3 _ (List.mem_of_getElem? (i := 204) rfl) rfl
theorem ml_X4_48 : Cond.methodLink RX4 48 yX4_finds ∈ tw_T := tw_3 _ (List.mem_of_getElem? (i := 205) rfl) rfl
theorem ml_L_21 : Cond.methodLink RL 21 yX4_field ∈ tw_T := tw_3 _ (List.mem_of_getElem? (i := 209) rfl) rfl
theorem ml_X4_65 : Cond.methodLink RX4 65 yX4_there ∈ tw_T := tw_3 _ (List.mem_of_getElem? (i := 213) rfl) rfl
theorem ml_X4_62 : Cond.methodLink RX4 62 yX4_its ∈ tw_T := tw_3 _ (List.mem_of_getElem? (i := 217) rfl) rfl
theorem ml_L_25 : Cond.methodLink RL 25 yX4_gate ∈ tw_T := tw_3 _ (List.mem_of_getElem? (i := 221) rfl) rfl
theorem ml_X4_68 : Cond.methodLink RX4 68 yX4_isGate ∈ tw_T := tw_3 _ (List.mem_of_getElem? (i := 225) rfl) rfl
theorem ml_X4_71 : Cond.methodLink RX4 71 yX4_isStand ∈ tw_T := tw_3 _ (List.mem_of_getElem? (i := 228) rfl) rfl
theorem ct_X4_41 : Cond.constantLong RX4 41 (3) ∈ tw_T := tw_3 _ (List.mem_of_getElem? (i := 231) rfl) rfl
theorem ml_L_30 : Cond.methodLink RL 30 yX4_stands ∈ tw_T := tw_3 _ (List.mem_of_getElem? (i := 232) rfl) rfl
theorem ml_L_34 : Cond.methodLink RL 34 yX4_wind ∈ tw_T := tw_3 _ (List.mem_of_getElem? (i := 236) rfl) rfl
theorem ct_X4_74 : Cond.constantLong RX4 74 (9) ∈ tw_T := tw_4 _ (List.mem_of_getElem? (i := 0) rfl) rfl
theorem ml_L_38 : Cond.methodLink RL 38 yX4_walker ∈ tw_T := tw_4 _ (List.mem_of_getElem? (i := 1) rfl) rfl
theorem ct_X4_79 : Cond.constantLong RX4 79 (6) ∈ tw_T := tw_4 _ (List.mem_of_getElem? (i := 5) rfl) rfl
theorem ct_X4_81 : Cond.constant RX4 81 (-1000002) ∈ tw_T := tw_4 _ (List.mem_of_getElem? (i := 6) rfl) rfl
theorem ml_X4_82 : Cond.methodLink RX4 82 yX4_comes ∈ tw_T := tw_4 _ (List.mem_of_getElem? (i := 7) rfl) rfl
theorem ml_X4_76 : Cond.methodLink RX4 76 yX4_at ∈ tw_T := tw_4 _ (List.mem_of_getElem? (i := 11) rfl) rfl
theorem ml_L_42 : Cond.methodLink RL 42 yX4_of ∈ tw_T := tw_4 _ (List.mem_of_getElem? (i := 14) rfl) rfl
theorem ml_X4_89 : Cond.methodLink RX4 89 yX4_isWalker ∈ tw_T := tw_4 _ (List.mem_of_getElem? (i := 18) rfl) rfl
theorem ct_X4_92 : Cond.constantLong RX4 92 (5) ∈ tw_T := tw_4 _ (List.mem_of_getElem? (i := 22) rfl) rfl
theorem ml_X4_94 : Cond.methodLink RX4 94 yX4_goesFar ∈ tw_T := tw_4 _ (List.mem_of_getElem? (i := 23) rfl) rfl
theorem ml_L_47 : Cond.methodLink RL 47 yX4_change ∈ tw_T := tw_4 _ (List.mem_of_getElem? (i := 27) rfl) rfl
theorem ct_X4_97 : Cond.constantLong RX4 97 (4) ∈ tw_T := tw_4 _ (List.mem_of_getElem? (i := 31) rfl) rfl
theorem ml_X4_99 : Cond.methodLink RX4 99 yX4_greatestOf ∈ tw_T := tw_4 _ (List.mem_of_getElem? (i := 32) rfl) rfl
theorem ml_L_51 : Cond.methodLink RL 51 yX4_leaves ∈ tw_T := tw_4 _ (List.mem_of_getElem? (i := 35) rfl) rfl
theorem ml_X4_102 : Cond.methodLink RX4 102 yX4_leavesIt ∈ tw_T := tw_4 _ (List.mem_of_getElem? (i := 39) rfl) rfl
theorem ml_X4_105 : Cond.methodLink RX4 105 yX4_feels ∈ tw_T := tw_4 _ (List.mem_of_getElem? (i := 43) rfl) rfl
theorem ml_X4_86 : Cond.methodLink RX4 86 yX4_least ∈ tw_T := tw_4 _ (List.mem_of_getElem? (i := 47) rfl) rfl
theorem ml_L_55 : Cond.methodLink RL 55 yX4_go ∈ tw_T := tw_4 _ (List.mem_of_getElem? (i := 50) rfl) rfl
theorem ct_X4_118 : Cond.constantLong RX4 118 (60) ∈ tw_T := tw_4 _ (List.mem_of_getElem? (i := 54) rfl) rfl
theorem ct_X4_120 : Cond.constant RX4 120 (99999) ∈ tw_T := tw_4 _ (List.mem_of_getElem? (i := 55) rfl) rfl
theorem ct_X4_121 : Cond.constant RX4 121 (-1000005) ∈ tw_T := tw_4 _ (List.mem_of_getElem? (i := 56) rfl) rfl
theorem ml_X4_122 : Cond.methodLink RX4 122 yX4_goes ∈ tw_T := tw_4 _ (List.mem_of_getElem? (i := 57) rfl) rfl
theorem ml_X4_115 : Cond.methodLink RX4 115 yX4_hourBut ∈ tw_T := tw_4 _ (List.mem_of_getElem? (i := 61) rfl) rfl
theorem ml_X4_108 : Cond.methodLink RX4 108 yX4_walks ∈ tw_T := tw_4 _ (List.mem_of_getElem? (i := 65) rfl) rfl
theorem ml_X4_112 : Cond.methodLink RX4 112 yX4_wander ∈ tw_T := tw_4 _ (List.mem_of_getElem? (i := 69) rfl) rfl
theorem ml_X4_125 : Cond.methodLink RX4 125 yX4_allStand ∈ tw_T := tw_4 _ (List.mem_of_getElem? (i := 73) rfl) rfl
theorem ml_L_59 : Cond.methodLink RL 59 yX4_now ∈ tw_T := tw_4 _ (List.mem_of_getElem? (i := 77) rfl) rfl
theorem ml_X4_129 : Cond.methodLink RX4 129 yX4_beastsAll ∈ tw_T := tw_4 _ (List.mem_of_getElem? (i := 81) rfl) rfl
theorem ml_X4_132 : Cond.methodLink RX4 132 yX4_notShut ∈ tw_T := tw_4 _ (List.mem_of_getElem? (i := 85) rfl) rfl
theorem ml_X4_135 : Cond.methodLink RX4 135 yX4_passedAll ∈ tw_T := tw_4 _ (List.mem_of_getElem? (i := 89) rfl) rfl
theorem ml_X4_138 : Cond.methodLink RX4 138 yX4_fullest ∈ tw_T := tw_4 _ (List.mem_of_getElem? (i := 93) rfl) rfl
theorem ml_L_63 : Cond.methodLink RL 63 yX4_ahead ∈ tw_T := tw_4 _ (List.mem_of_getElem? (i := 97) rfl) rfl
theorem ct_X4_145 : Cond.constantLong RX4 145 (100) ∈ tw_T := tw_4 _ (List.mem_of_getElem? (i := 101) rfl) rfl
theorem ml_X4_147 : Cond.methodLink RX4 147 yX4_thenAt ∈ tw_T := tw_4 _ (List.mem_of_getElem? (i := 102) rfl) rfl
theorem ml_X4_141 : Cond.methodLink RX4 141 yX4_copyRow ∈ tw_T := tw_4 _ (List.mem_of_getElem? (i := 106) rfl) rfl
theorem ml_L_67 : Cond.methodLink RL 67 yX4_stand ∈ tw_T := tw_4 _ (List.mem_of_getElem? (i := 109) rfl) rfl
theorem ml_L_71 : Cond.methodLink RL 71 yX4_where ∈ tw_T := tw_4 _ (List.mem_of_getElem? (i := 113) rfl) rfl
theorem ml_L_75 : Cond.methodLink RL 75 yX4_corn ∈ tw_T := tw_4 _ (List.mem_of_getElem? (i := 117) rfl) rfl
theorem ct_X4_47 : Cond.constant RX4 47 (-1000004) ∈ tw_T := tw_4 _ (List.mem_of_getElem? (i := 121) rfl) rfl
theorem ml_L_79 : Cond.methodLink RL 79 yX4_when ∈ tw_T := tw_4 _ (List.mem_of_getElem? (i := 122) rfl) rfl
theorem ml_L_83 : Cond.methodLink RL 83 yX4_meet ∈ tw_T := tw_4 _ (List.mem_of_getElem? (i := 126) rfl) rfl
theorem ml_L_88 : Cond.methodLink RL 88 yX4_start ∈ tw_T := tw_4 _ (List.mem_of_getElem? (i := 130) rfl) rfl
theorem ml_X4_152 : Cond.methodLink RX4 152 yX4_isAsked ∈ tw_T := tw_4 _ (List.mem_of_getElem? (i := 134) rfl) rfl
theorem ct_X4_150 : Cond.constantLong RX4 150 (40) ∈ tw_T := tw_4 _ (List.mem_of_getElem? (i := 138) rfl) rfl
theorem ml_X4_156 : Cond.methodLink RX4 156 yX4_withWhich ∈ tw_T := tw_4 _ (List.mem_of_getElem? (i := 139) rfl) rfl
theorem ml_X4_160 : Cond.methodLink RX4 160 yX4_lowest ∈ tw_T := tw_4 _ (List.mem_of_getElem? (i := 143) rfl) rfl
theorem ml_X4_163 : Cond.methodLink RX4 163 yX4_orNone ∈ tw_T := tw_4 _ (List.mem_of_getElem? (i := 146) rfl) rfl
theorem ml_L_92 : Cond.methodLink RL 92 yX4_kindsFor ∈ tw_T := tw_4 _ (List.mem_of_getElem? (i := 150) rfl) rfl
theorem ml_L_96 : Cond.methodLink RL 96 yX4_moods ∈ tw_T := tw_4 _ (List.mem_of_getElem? (i := 154) rfl) rfl
theorem ml_L_100 : Cond.methodLink RL 100 yX4_windFor ∈ tw_T := tw_4 _ (List.mem_of_getElem? (i := 158) rfl) rfl
theorem ml_L_104 : Cond.methodLink RL 104 yX4_home ∈ tw_T := tw_4 _ (List.mem_of_getElem? (i := 162) rfl) rfl
theorem ct_X4_166 : Cond.constantLong RX4 166 (20) ∈ tw_T := tw_4 _ (List.mem_of_getElem? (i := 166) rfl) rfl
theorem ml_X4_168 : Cond.methodLink RX4 168 yX4_many ∈ tw_T := tw_4 _ (List.mem_of_getElem? (i := 167) rfl) rfl
theorem ml_L_108 : Cond.methodLink RL 108 yX4_shut ∈ tw_T := tw_4 _ (List.mem_of_getElem? (i := 170) rfl) rfl
theorem ml_L_112 : Cond.methodLink RL 112 yX4_who ∈ tw_T := tw_4 _ (List.mem_of_getElem? (i := 174) rfl) rfl
theorem ml_X4_171 : Cond.methodLink RX4 171 yX4_wants ∈ tw_T := tw_4 _ (List.mem_of_getElem? (i := 178) rfl) rfl
theorem ml_X4_274 : Cond.methodLink RX4 274 yX4_isSheet ∈ tw_T := tw_4 _ (List.mem_of_getElem? (i := 182) rfl) rfl
theorem ct_X4_269 : Cond.constant RX4 269 (-1000006) ∈ tw_T := tw_4 _ (List.mem_of_getElem? (i := 185) rfl) rfl
theorem ml_X4_174 : Cond.methodLink RX4 174 yX4_allBut ∈ tw_T := tw_4 _ (List.mem_of_getElem? (i := 186) rfl) rfl
theorem ml_X4_177 : Cond.methodLink RX4 177 yX4_isTold ∈ tw_T := tw_4 _ (List.mem_of_getElem? (i := 190) rfl) rfl
theorem ml_L_116 : Cond.methodLink RL 116 yX4_fits ∈ tw_T := tw_4 _ (List.mem_of_getElem? (i := 194) rfl) rfl
theorem ml_L_120 : Cond.methodLink RL 120 yX4_kinds ∈ tw_T := tw_4 _ (List.mem_of_getElem? (i := 198) rfl) rfl
theorem ml_X4_181 : Cond.methodLink RX4 181 yX4_isInMood ∈ tw_T := tw_4 _ (List.mem_of_getElem? (i := 202) rfl) rfl
theorem ml_L_124 : Cond.methodLink RL 124 yX4_gales ∈ tw_T := tw_4 _ (List.mem_of_getElem? (i := 206) rfl) rfl
theorem ml_X4_186 : Cond.methodLink RX4 186 yX4_draw ∈ tw_T := tw_4 _ (List.mem_of_getElem? (i := 210) rfl) rfl
theorem ct_X4_185 : Cond.constant RX4 185 (1103515245) ∈ tw_T := tw_4 _ (List.mem_of_getElem? (i := 214) rfl) rfl
theorem ml_L_129 : Cond.methodLink RL 129 yX4_odds ∈ tw_T := tw_4 _ (List.mem_of_getElem? (i := 215) rfl) rfl
theorem ct_X4_189 : Cond.constantLong RX4 189 (8) ∈ tw_T := tw_4 _ (List.mem_of_getElem? (i := 219) rfl) rfl
theorem ct_X4_191 : Cond.constantLong RX4 191 (2) ∈ tw_T := tw_4 _ (List.mem_of_getElem? (i := 220) rfl) rfl
theorem ml_L_133 : Cond.methodLink RL 133 yX4_seed ∈ tw_T := tw_4 _ (List.mem_of_getElem? (i := 221) rfl) rfl
theorem ml_L_137 : Cond.methodLink RL 137 yX4_feed ∈ tw_T := tw_4 _ (List.mem_of_getElem? (i := 225) rfl) rfl
theorem ml_L_142 : Cond.methodLink RL 142 yX4_wipe ∈ tw_T := tw_4 _ (List.mem_of_getElem? (i := 229) rfl) rfl
theorem ml_L_146 : Cond.methodLink RL 146 yX4_text ∈ tw_T := tw_4 _ (List.mem_of_getElem? (i := 233) rfl) rfl
theorem ml_X4_242 : Cond.methodLink RX4 242 yX4_nextToken ∈ tw_T := tw_4 _ (List.mem_of_getElem? (i := 237) rfl) rfl
theorem ml_X4_203 : Cond.methodLink RX4 203 yX4_byteAt ∈ tw_T := tw_5 _ (List.mem_of_getElem? (i := 1) rfl) rfl
theorem ml_X4_206 : Cond.methodLink RX4 206 yX4_isLetter ∈ tw_T := tw_5 _ (List.mem_of_getElem? (i := 5) rfl) rfl
theorem ml_X4_209 : Cond.methodLink RX4 209 yX4_isDigit ∈ tw_T := tw_5 _ (List.mem_of_getElem? (i := 8) rfl) rfl
theorem ml_X4_266 : Cond.methodLink RX4 266 yX4_itemHere ∈ tw_T := tw_5 _ (List.mem_of_getElem? (i := 11) rfl) rfl
theorem ml_X4_248 : Cond.methodLink RX4 248 yX4_kindHere ∈ tw_T := tw_5 _ (List.mem_of_getElem? (i := 15) rfl) rfl
theorem ml_X4_231 : Cond.methodLink RX4 231 yX4_isSix ∈ tw_T := tw_5 _ (List.mem_of_getElem? (i := 19) rfl) rfl
theorem ml_X4_221 : Cond.methodLink RX4 221 yX4_isWord ∈ tw_T := tw_5 _ (List.mem_of_getElem? (i := 23) rfl) rfl
theorem ml_X4_224 : Cond.methodLink RX4 224 yX4_has3 ∈ tw_T := tw_5 _ (List.mem_of_getElem? (i := 27) rfl) rfl
theorem ml_X4_235 : Cond.methodLink RX4 235 yX4_isFive ∈ tw_T := tw_5 _ (List.mem_of_getElem? (i := 31) rfl) rfl
theorem ml_X4_239 : Cond.methodLink RX4 239 yX4_isFour ∈ tw_T := tw_5 _ (List.mem_of_getElem? (i := 35) rfl) rfl
theorem ml_X4_251 : Cond.methodLink RX4 251 yX4_walkerHere ∈ tw_T := tw_5 _ (List.mem_of_getElem? (i := 39) rfl) rfl
theorem ml_X4_227 : Cond.methodLink RX4 227 yX4_fails ∈ tw_T := tw_5 _ (List.mem_of_getElem? (i := 43) rfl) rfl
theorem ml_X4_245 : Cond.methodLink RX4 245 yX4_isNumber ∈ tw_T := tw_5 _ (List.mem_of_getElem? (i := 47) rfl) rfl
theorem ml_X4_254 : Cond.methodLink RX4 254 yX4_standHere ∈ tw_T := tw_5 _ (List.mem_of_getElem? (i := 51) rfl) rfl
theorem ml_X4_257 : Cond.methodLink RX4 257 yX4_gateHere ∈ tw_T := tw_5 _ (List.mem_of_getElem? (i := 55) rfl) rfl
theorem ml_X4_260 : Cond.methodLink RX4 260 yX4_beastsHere ∈ tw_T := tw_5 _ (List.mem_of_getElem? (i := 59) rfl) rfl
theorem ml_X4_263 : Cond.methodLink RX4 263 yX4_windHere ∈ tw_T := tw_5 _ (List.mem_of_getElem? (i := 63) rfl) rfl
theorem ml_L_150 : Cond.methodLink RL 150 yX4_hold ∈ tw_T := tw_5 _ (List.mem_of_getElem? (i := 67) rfl) rfl
theorem ml_L_154 : Cond.methodLink RL 154 yX4_as ∈ tw_T := tw_5 _ (List.mem_of_getElem? (i := 71) rfl) rfl
theorem ml_X4_270 : Cond.methodLink RX4 270 yX4_isUnder ∈ tw_T := tw_5 _ (List.mem_of_getElem? (i := 75) rfl) rfl
theorem ct_X4_273 : Cond.constant RX4 273 (-1000003) ∈ tw_T := tw_5 _ (List.mem_of_getElem? (i := 78) rfl) rfl
theorem ml_L_158 : Cond.methodLink RL 158 yX4_sheet ∈ tw_T := tw_5 _ (List.mem_of_getElem? (i := 79) rfl) rfl
theorem ct_X4_277 : Cond.constant RX4 277 (-1000007) ∈ tw_T := tw_5 _ (List.mem_of_getElem? (i := 83) rfl) rfl
theorem ml_L_162 : Cond.methodLink RL 162 yX4_write ∈ tw_T := tw_5 _ (List.mem_of_getElem? (i := 84) rfl) rfl
theorem ml_L_167 : Cond.methodLink RL 167 yX4_copy ∈ tw_T := tw_5 _ (List.mem_of_getElem? (i := 88) rfl) rfl
theorem ml_L_171 : Cond.methodLink RL 171 yX4_load ∈ tw_T := tw_5 _ (List.mem_of_getElem? (i := 92) rfl) rfl
theorem ml_L_175 : Cond.methodLink RL 175 yX4_judge ∈ tw_T := tw_5 _ (List.mem_of_getElem? (i := 96) rfl) rfl
theorem ml_L_179 : Cond.methodLink RL 179 yX4_image ∈ tw_T := tw_5 _ (List.mem_of_getElem? (i := 100) rfl) rfl
theorem ml_L_183 : Cond.methodLink RL 183 yX4_undo ∈ tw_T := tw_5 _ (List.mem_of_getElem? (i := 104) rfl) rfl
theorem ml_L_187 : Cond.methodLink RL 187 yX4_tear ∈ tw_T := tw_5 _ (List.mem_of_getElem? (i := 108) rfl) rfl
theorem ml_L_191 : Cond.methodLink RL 191 yX4_count ∈ tw_T := tw_5 _ (List.mem_of_getElem? (i := 112) rfl) rfl
theorem ml_L_195 : Cond.methodLink RL 195 yX4_status ∈ tw_T := tw_5 _ (List.mem_of_getElem? (i := 116) rfl) rfl
theorem ct_X4_282 : Cond.constantLong RX4 282 (-1) ∈ tw_T := tw_5 _ (List.mem_of_getElem? (i := 120) rfl) rfl
theorem fl_J0_15 : Cond.fieldLink RJ0 15 "java/lang/String" "coder" "B" ∈ tw_T := tw_5 _ (List.mem_of_getElem? (i := 121) rfl) rfl
theorem fl_J0_9 : Cond.fieldLink RJ0 9 "java/lang/String" "value" "[B" ∈ tw_T := tw_5 _ (List.mem_of_getElem? (i := 122) rfl) rfl
theorem co_X3_init : Cond.code yX3_init cX3_init 2 none ∈ tw_T := tw_1 _ (List.mem_of_getElem? (i := 17) rfl) rfl
theorem im_X3_init : Cond.instanceMethod yX3_init ∈ tw_T := tw_1 _ (List.mem_of_getElem? (i := 16) rfl) rfl
theorem im_objectInit : Cond.instanceMethod objectInit ∈ tw_T := tw_1 _ (List.mem_of_getElem? (i := 19) rfl) rfl
theorem co_objectInit : Cond.code objectInit ⟨#[0xb1]⟩ 1 none ∈ tw_T := tw_1 _ (List.mem_of_getElem? (i := 20) rfl) rfl
theorem co_X0_init : Cond.code yX0_init cX0_init 2 none ∈ tw_T := tw_1 _ (List.mem_of_getElem? (i := 25) rfl) rfl
theorem im_X0_init : Cond.instanceMethod yX0_init ∈ tw_T := tw_1 _ (List.mem_of_getElem? (i := 24) rfl) rfl
theorem co_X2_init : Cond.code yX2_init cX2_init 1 none ∈ tw_T := tw_1 _ (List.mem_of_getElem? (i := 71) rfl) rfl
theorem im_X2_init : Cond.instanceMethod yX2_init ∈ tw_T := tw_1 _ (List.mem_of_getElem? (i := 70) rfl) rfl
theorem co_J0_toCharArray_70df3 : Cond.code yJ0_toCharArray_70df3 cJ0_toCharArray_70df3 1 (some (.array .char)) ∈ tw_T := tw_1 _ (List.mem_of_getElem? (i := 77) rfl) rfl
theorem im_J0_toCharArray_70df3 : Cond.instanceMethod yJ0_toCharArray_70df3 ∈ tw_T := tw_1 _ (List.mem_of_getElem? (i := 75) rfl) rfl
theorem se_J0_toCharArray_70df3 : Cond.selects RJ0 yJ0_toCharArray_70df3 yJ0_toCharArray_70df3 ∈ tw_T := tw_1 _ (List.mem_of_getElem? (i := 76) rfl) rfl
theorem co_J0_isLatin1_aae02 : Cond.code yJ0_isLatin1_aae02 cJ0_isLatin1_aae02 1 (some .boolean) ∈ tw_T := tw_1 _ (List.mem_of_getElem? (i := 81) rfl) rfl
theorem im_J0_isLatin1_aae02 : Cond.instanceMethod yJ0_isLatin1_aae02 ∈ tw_T := tw_1 _ (List.mem_of_getElem? (i := 79) rfl) rfl
theorem se_J0_isLatin1_aae02 : Cond.selects RJ0 yJ0_isLatin1_aae02 yJ0_isLatin1_aae02 ∈ tw_T := tw_1 _ (List.mem_of_getElem? (i := 80) rfl) rfl
theorem co_J1_toChars_9d188 : Cond.code yJ1_toChars_9d188 cJ1_toChars_9d188 2 (some (.array .char)) ∈ tw_T := tw_1 _ (List.mem_of_getElem? (i := 86) rfl) rfl
theorem sm_J1_toChars_9d188 : Cond.static yJ1_toChars_9d188 ∈ tw_T := tw_1 _ (List.mem_of_getElem? (i := 85) rfl) rfl
theorem co_J1_inflate_03870 : Cond.code yJ1_inflate_03870 cJ1_inflate_03870 6 none ∈ tw_T := tw_1 _ (List.mem_of_getElem? (i := 89) rfl) rfl
theorem sm_J1_inflate_03870 : Cond.static yJ1_inflate_03870 ∈ tw_T := tw_1 _ (List.mem_of_getElem? (i := 88) rfl) rfl
theorem co_J2_toChars_9d188 : Cond.code yJ2_toChars_9d188 cJ2_toChars_9d188 2 (some (.array .char)) ∈ tw_T := tw_1 _ (List.mem_of_getElem? (i := 92) rfl) rfl
theorem sm_J2_toChars_9d188 : Cond.static yJ2_toChars_9d188 ∈ tw_T := tw_1 _ (List.mem_of_getElem? (i := 91) rfl) rfl
theorem co_J2_getChars_a1a8b : Cond.code yJ2_getChars_a1a8b cJ2_getChars_a1a8b 6 none ∈ tw_T := tw_1 _ (List.mem_of_getElem? (i := 95) rfl) rfl
theorem sm_J2_getChars_a1a8b : Cond.static yJ2_getChars_a1a8b ∈ tw_T := tw_1 _ (List.mem_of_getElem? (i := 94) rfl) rfl
theorem co_J2_checkBoundsOffCount_d044e : Cond.code yJ2_checkBoundsOffCount_d044e cJ2_checkBoundsOffCount_d044e 3 none ∈ tw_T := tw_1 _ (List.mem_of_getElem? (i := 98) rfl) rfl
theorem sm_J2_checkBoundsOffCount_d044e : Cond.static yJ2_checkBoundsOffCount_d044e ∈ tw_T := tw_1 _ (List.mem_of_getElem? (i := 97) rfl) rfl
theorem co_J2_length_9d52b : Cond.code yJ2_length_9d52b cJ2_length_9d52b 1 (some .int) ∈ tw_T := tw_1 _ (List.mem_of_getElem? (i := 101) rfl) rfl
theorem sm_J2_length_9d52b : Cond.static yJ2_length_9d52b ∈ tw_T := tw_1 _ (List.mem_of_getElem? (i := 100) rfl) rfl
theorem co_J0_checkBoundsOffCount_cabcc : Cond.code yJ0_checkBoundsOffCount_cabcc cJ0_checkBoundsOffCount_cabcc 3 (some .int) ∈ tw_T := tw_1 _ (List.mem_of_getElem? (i := 104) rfl) rfl
theorem sm_J0_checkBoundsOffCount_cabcc : Cond.static yJ0_checkBoundsOffCount_cabcc ∈ tw_T := tw_1 _ (List.mem_of_getElem? (i := 103) rfl) rfl
theorem co_J3_checkFromIndexSize_8c36e : Cond.code yJ3_checkFromIndexSize_8c36e cJ3_checkFromIndexSize_8c36e 4 (some .int) ∈ tw_T := tw_1 _ (List.mem_of_getElem? (i := 109) rfl) rfl
theorem sm_J3_checkFromIndexSize_8c36e : Cond.static yJ3_checkFromIndexSize_8c36e ∈ tw_T := tw_1 _ (List.mem_of_getElem? (i := 108) rfl) rfl
theorem co_J2_getChar_3b067 : Cond.code yJ2_getChar_3b067 cJ2_getChar_3b067 2 (some .char) ∈ tw_T := tw_1 _ (List.mem_of_getElem? (i := 112) rfl) rfl
theorem sm_J2_getChar_3b067 : Cond.static yJ2_getChar_3b067 ∈ tw_T := tw_1 _ (List.mem_of_getElem? (i := 111) rfl) rfl
theorem co_X1_init : Cond.code yX1_init cX1_init 1 none ∈ tw_T := tw_1 _ (List.mem_of_getElem? (i := 149) rfl) rfl
theorem im_X1_init : Cond.instanceMethod yX1_init ∈ tw_T := tw_1 _ (List.mem_of_getElem? (i := 148) rfl) rfl
theorem co_X3_beasts : Cond.code yX3_beasts cX3_beasts 4 (some .int) ∈ tw_T := tw_1 _ (List.mem_of_getElem? (i := 191) rfl) rfl
theorem im_X3_beasts : Cond.instanceMethod yX3_beasts ∈ tw_T := tw_1 _ (List.mem_of_getElem? (i := 189) rfl) rfl
theorem se_X3_beasts : Cond.selects RX3 yX3_beasts yX3_beasts ∈ tw_T := tw_1 _ (List.mem_of_getElem? (i := 190) rfl) rfl
theorem co_X3_isField : Cond.code yX3_isField cX3_isField 1 (some .boolean) ∈ tw_T := tw_1 _ (List.mem_of_getElem? (i := 194) rfl) rfl
theorem sm_X3_isField : Cond.static yX3_isField ∈ tw_T := tw_1 _ (List.mem_of_getElem? (i := 193) rfl) rfl
theorem co_X3_isIn : Cond.code yX3_isIn cX3_isIn 3 (some .boolean) ∈ tw_T := tw_1 _ (List.mem_of_getElem? (i := 197) rfl) rfl
theorem sm_X3_isIn : Cond.static yX3_isIn ∈ tw_T := tw_1 _ (List.mem_of_getElem? (i := 196) rfl) rfl
theorem co_X3_finding : Cond.code yX3_finding cX3_finding 2 (some .int) ∈ tw_T := tw_1 _ (List.mem_of_getElem? (i := 201) rfl) rfl
theorem im_X3_finding : Cond.instanceMethod yX3_finding ∈ tw_T := tw_1 _ (List.mem_of_getElem? (i := 200) rfl) rfl
theorem se_X3_finding : Cond.selects RX3 yX3_finding yX3_finding ∈ tw_T := List.mem_filter.mpr ⟨List.mem_append_left _ (List.mem_of_getElem? (i := 0) rfl), rfl⟩
theorem co_X3_field : Cond.code yX3_field cX3_field 3 (some .int) ∈ tw_T := tw_1 _ (List.mem_of_getElem? (i := 206) rfl) rfl
theorem im_X3_field : Cond.instanceMethod yX3_field ∈ tw_T := tw_1 _ (List.mem_of_getElem? (i := 204) rfl) rfl
theorem se_X3_field : Cond.selects RX3 yX3_field yX3_field ∈ tw_T := tw_1 _ (List.mem_of_getElem? (i := 205) rfl) rfl
theorem co_X0_walkersIn : Cond.code yX0_walkersIn cX0_walkersIn 4 (some .int) ∈ tw_T := tw_1 _ (List.mem_of_getElem? (i := 210) rfl) rfl
theorem im_X0_walkersIn : Cond.instanceMethod yX0_walkersIn ∈ tw_T := tw_1 _ (List.mem_of_getElem? (i := 208) rfl) rfl
theorem se_X0_walkersIn : Cond.selects RX0 yX0_walkersIn yX0_walkersIn ∈ tw_T := tw_1 _ (List.mem_of_getElem? (i := 209) rfl) rfl
theorem co_X3_gate : Cond.code yX3_gate cX3_gate 4 (some .int) ∈ tw_T := tw_1 _ (List.mem_of_getElem? (i := 214) rfl) rfl
theorem im_X3_gate : Cond.instanceMethod yX3_gate ∈ tw_T := tw_1 _ (List.mem_of_getElem? (i := 212) rfl) rfl
theorem se_X3_gate : Cond.selects RX3 yX3_gate yX3_gate ∈ tw_T := tw_1 _ (List.mem_of_getElem? (i := 213) rfl) rfl
theorem co_X3_isGate : Cond.code yX3_isGate cX3_isGate 1 (some .boolean) ∈ tw_T := tw_1 _ (List.mem_of_getElem? (i := 217) rfl) rfl
theorem sm_X3_isGate : Cond.static yX3_isGate ∈ tw_T := tw_1 _ (List.mem_of_getElem? (i := 216) rfl) rfl
theorem co_X3_isManner : Cond.code yX3_isManner cX3_isManner 1 (some .boolean) ∈ tw_T := tw_1 _ (List.mem_of_getElem? (i := 220) rfl) rfl
theorem sm_X3_isManner : Cond.static yX3_isManner ∈ tw_T := tw_1 _ (List.mem_of_getElem? (i := 219) rfl) rfl
theorem co_X3_stands : Cond.code yX3_stands cX3_stands 2 (some .int) ∈ tw_T := tw_1 _ (List.mem_of_getElem? (i := 224) rfl) rfl
theorem im_X3_stands : Cond.instanceMethod yX3_stands ∈ tw_T := tw_1 _ (List.mem_of_getElem? (i := 222) rfl) rfl
theorem se_X3_stands : Cond.selects RX3 yX3_stands yX3_stands ∈ tw_T := tw_1 _ (List.mem_of_getElem? (i := 223) rfl) rfl
theorem co_X3_wind : Cond.code yX3_wind cX3_wind 3 (some .int) ∈ tw_T := tw_1 _ (List.mem_of_getElem? (i := 228) rfl) rfl
theorem im_X3_wind : Cond.instanceMethod yX3_wind ∈ tw_T := tw_1 _ (List.mem_of_getElem? (i := 226) rfl) rfl
theorem se_X3_wind : Cond.selects RX3 yX3_wind yX3_wind ∈ tw_T := tw_1 _ (List.mem_of_getElem? (i := 227) rfl) rfl
theorem co_X3_walker : Cond.code yX3_walker cX3_walker 3 (some .int) ∈ tw_T := tw_1 _ (List.mem_of_getElem? (i := 232) rfl) rfl
theorem im_X3_walker : Cond.instanceMethod yX3_walker ∈ tw_T := tw_1 _ (List.mem_of_getElem? (i := 230) rfl) rfl
theorem se_X3_walker : Cond.selects RX3 yX3_walker yX3_walker ∈ tw_T := tw_1 _ (List.mem_of_getElem? (i := 231) rfl) rfl
theorem co_X3_isKind : Cond.code yX3_isKind cX3_isKind 1 (some .boolean) ∈ tw_T := tw_1 _ (List.mem_of_getElem? (i := 235) rfl) rfl
theorem sm_X3_isKind : Cond.static yX3_isKind ∈ tw_T := tw_1 _ (List.mem_of_getElem? (i := 234) rfl) rfl
theorem co_X0_addWalker : Cond.code yX0_addWalker cX0_addWalker 4 (some .int) ∈ tw_T := tw_1 _ (List.mem_of_getElem? (i := 239) rfl) rfl
theorem im_X0_addWalker : Cond.instanceMethod yX0_addWalker ∈ tw_T := tw_1 _ (List.mem_of_getElem? (i := 237) rfl) rfl
theorem se_X0_addWalker : Cond.selects RX0 yX0_addWalker yX0_addWalker ∈ tw_T := tw_1 _ (List.mem_of_getElem? (i := 238) rfl) rfl
theorem co_X3_of : Cond.code yX3_of cX3_of 3 (some .int) ∈ tw_T := tw_2 _ (List.mem_of_getElem? (i := 3) rfl) rfl
theorem im_X3_of : Cond.instanceMethod yX3_of ∈ tw_T := tw_2 _ (List.mem_of_getElem? (i := 1) rfl) rfl
theorem se_X3_of : Cond.selects RX3 yX3_of yX3_of ∈ tw_T := tw_2 _ (List.mem_of_getElem? (i := 2) rfl) rfl
theorem co_X3_isWalker : Cond.code yX3_isWalker cX3_isWalker 2 (some .boolean) ∈ tw_T := tw_2 _ (List.mem_of_getElem? (i := 7) rfl) rfl
theorem im_X3_isWalker : Cond.instanceMethod yX3_isWalker ∈ tw_T := tw_2 _ (List.mem_of_getElem? (i := 6) rfl) rfl
theorem se_X3_isWalker : Cond.selects RX3 yX3_isWalker yX3_isWalker ∈ tw_T := List.mem_filter.mpr ⟨List.mem_append_left _ (List.mem_of_getElem? (i := 1) rfl), rfl⟩
theorem co_X0_goesOf : Cond.code yX0_goesOf cX0_goesOf 3 (some .int) ∈ tw_T := tw_2 _ (List.mem_of_getElem? (i := 11) rfl) rfl
theorem im_X0_goesOf : Cond.instanceMethod yX0_goesOf ∈ tw_T := tw_2 _ (List.mem_of_getElem? (i := 9) rfl) rfl
theorem se_X0_goesOf : Cond.selects RX0 yX0_goesOf yX0_goesOf ∈ tw_T := tw_2 _ (List.mem_of_getElem? (i := 10) rfl) rfl
theorem co_X3_change : Cond.code yX3_change cX3_change 5 (some .int) ∈ tw_T := tw_2 _ (List.mem_of_getElem? (i := 15) rfl) rfl
theorem im_X3_change : Cond.instanceMethod yX3_change ∈ tw_T := tw_2 _ (List.mem_of_getElem? (i := 13) rfl) rfl
theorem se_X3_change : Cond.selects RX3 yX3_change yX3_change ∈ tw_T := tw_2 _ (List.mem_of_getElem? (i := 14) rfl) rfl
theorem co_X3_leaves : Cond.code yX3_leaves cX3_leaves 4 (some .int) ∈ tw_T := tw_2 _ (List.mem_of_getElem? (i := 21) rfl) rfl
theorem im_X3_leaves : Cond.instanceMethod yX3_leaves ∈ tw_T := tw_2 _ (List.mem_of_getElem? (i := 19) rfl) rfl
theorem se_X3_leaves : Cond.selects RX3 yX3_leaves yX3_leaves ∈ tw_T := tw_2 _ (List.mem_of_getElem? (i := 20) rfl) rfl
theorem co_X0_leftBy : Cond.code yX0_leftBy cX0_leftBy 6 (some .int) ∈ tw_T := tw_2 _ (List.mem_of_getElem? (i := 25) rfl) rfl
theorem im_X0_leftBy : Cond.instanceMethod yX0_leftBy ∈ tw_T := tw_2 _ (List.mem_of_getElem? (i := 23) rfl) rfl
theorem se_X0_leftBy : Cond.selects RX0 yX0_leftBy yX0_leftBy ∈ tw_T := tw_2 _ (List.mem_of_getElem? (i := 24) rfl) rfl
theorem co_X0_feltBy : Cond.code yX0_feltBy cX0_feltBy 7 (some .int) ∈ tw_T := tw_2 _ (List.mem_of_getElem? (i := 29) rfl) rfl
theorem im_X0_feltBy : Cond.instanceMethod yX0_feltBy ∈ tw_T := tw_2 _ (List.mem_of_getElem? (i := 27) rfl) rfl
theorem se_X0_feltBy : Cond.selects RX0 yX0_feltBy yX0_feltBy ∈ tw_T := tw_2 _ (List.mem_of_getElem? (i := 28) rfl) rfl
theorem co_J9_min_7cf53 : Cond.code yJ9_min_7cf53 cJ9_min_7cf53 2 (some .int) ∈ tw_T := tw_2 _ (List.mem_of_getElem? (i := 32) rfl) rfl
theorem sm_J9_min_7cf53 : Cond.static yJ9_min_7cf53 ∈ tw_T := tw_2 _ (List.mem_of_getElem? (i := 31) rfl) rfl
theorem co_J9_max_7cf53 : Cond.code yJ9_max_7cf53 cJ9_max_7cf53 2 (some .int) ∈ tw_T := tw_2 _ (List.mem_of_getElem? (i := 35) rfl) rfl
theorem sm_J9_max_7cf53 : Cond.static yJ9_max_7cf53 ∈ tw_T := tw_2 _ (List.mem_of_getElem? (i := 34) rfl) rfl
theorem co_X3_go : Cond.code yX3_go cX3_go 2 (some .int) ∈ tw_T := tw_2 _ (List.mem_of_getElem? (i := 39) rfl) rfl
theorem im_X3_go : Cond.instanceMethod yX3_go ∈ tw_T := tw_2 _ (List.mem_of_getElem? (i := 37) rfl) rfl
theorem se_X3_go : Cond.selects RX3 yX3_go yX3_go ∈ tw_T := tw_2 _ (List.mem_of_getElem? (i := 38) rfl) rfl
theorem co_X0_passHours : Cond.code yX0_passHours cX0_passHours 5 none ∈ tw_T := tw_2 _ (List.mem_of_getElem? (i := 44) rfl) rfl
theorem im_X0_passHours : Cond.instanceMethod yX0_passHours ∈ tw_T := tw_2 _ (List.mem_of_getElem? (i := 42) rfl) rfl
theorem se_X0_passHours : Cond.selects RX0 yX0_passHours yX0_passHours ∈ tw_T := tw_2 _ (List.mem_of_getElem? (i := 43) rfl) rfl
theorem co_X0_letGo : Cond.code yX0_letGo cX0_letGo 4 none ∈ tw_T := tw_2 _ (List.mem_of_getElem? (i := 48) rfl) rfl
theorem im_X0_letGo : Cond.instanceMethod yX0_letGo ∈ tw_T := tw_2 _ (List.mem_of_getElem? (i := 46) rfl) rfl
theorem se_X0_letGo : Cond.selects RX0 yX0_letGo yX0_letGo ∈ tw_T := tw_2 _ (List.mem_of_getElem? (i := 47) rfl) rfl
theorem co_X0_passOrTurn : Cond.code yX0_passOrTurn cX0_passOrTurn 5 none ∈ tw_T := tw_2 _ (List.mem_of_getElem? (i := 53) rfl) rfl
theorem im_X0_passOrTurn : Cond.instanceMethod yX0_passOrTurn ∈ tw_T := tw_2 _ (List.mem_of_getElem? (i := 51) rfl) rfl
theorem se_X0_passOrTurn : Cond.selects RX0 yX0_passOrTurn yX0_passOrTurn ∈ tw_T := tw_2 _ (List.mem_of_getElem? (i := 52) rfl) rfl
theorem co_X0_moveBeasts : Cond.code yX0_moveBeasts cX0_moveBeasts 5 none ∈ tw_T := tw_2 _ (List.mem_of_getElem? (i := 59) rfl) rfl
theorem im_X0_moveBeasts : Cond.instanceMethod yX0_moveBeasts ∈ tw_T := tw_2 _ (List.mem_of_getElem? (i := 57) rfl) rfl
theorem se_X0_moveBeasts : Cond.selects RX0 yX0_moveBeasts yX0_moveBeasts ∈ tw_T := tw_2 _ (List.mem_of_getElem? (i := 58) rfl) rfl
theorem co_X0_through : Cond.code yX0_through cX0_through 2 (some .int) ∈ tw_T := tw_2 _ (List.mem_of_getElem? (i := 62) rfl) rfl
theorem sm_X0_through : Cond.static yX0_through ∈ tw_T := tw_2 _ (List.mem_of_getElem? (i := 61) rfl) rfl
theorem co_X0_blowShut : Cond.code yX0_blowShut cX0_blowShut 2 none ∈ tw_T := tw_2 _ (List.mem_of_getElem? (i := 66) rfl) rfl
theorem im_X0_blowShut : Cond.instanceMethod yX0_blowShut ∈ tw_T := tw_2 _ (List.mem_of_getElem? (i := 64) rfl) rfl
theorem se_X0_blowShut : Cond.selects RX0 yX0_blowShut yX0_blowShut ∈ tw_T := tw_2 _ (List.mem_of_getElem? (i := 65) rfl) rfl
theorem co_X0_standingByFour : Cond.code yX0_standingByFour cX0_standingByFour 3 (some .int) ∈ tw_T := tw_2 _ (List.mem_of_getElem? (i := 71) rfl) rfl
theorem im_X0_standingByFour : Cond.instanceMethod yX0_standingByFour ∈ tw_T := tw_2 _ (List.mem_of_getElem? (i := 69) rfl) rfl
theorem se_X0_standingByFour : Cond.selects RX0 yX0_standingByFour yX0_standingByFour ∈ tw_T := tw_2 _ (List.mem_of_getElem? (i := 70) rfl) rfl
theorem co_X3_now : Cond.code yX3_now cX3_now 2 (some .int) ∈ tw_T := tw_2 _ (List.mem_of_getElem? (i := 75) rfl) rfl
theorem im_X3_now : Cond.instanceMethod yX3_now ∈ tw_T := tw_2 _ (List.mem_of_getElem? (i := 73) rfl) rfl
theorem se_X3_now : Cond.selects RX3 yX3_now yX3_now ∈ tw_T := tw_2 _ (List.mem_of_getElem? (i := 74) rfl) rfl
theorem co_X0_allBeasts : Cond.code yX0_allBeasts cX0_allBeasts 3 (some .int) ∈ tw_T := tw_2 _ (List.mem_of_getElem? (i := 79) rfl) rfl
theorem im_X0_allBeasts : Cond.instanceMethod yX0_allBeasts ∈ tw_T := tw_2 _ (List.mem_of_getElem? (i := 77) rfl) rfl
theorem se_X0_allBeasts : Cond.selects RX0 yX0_allBeasts yX0_allBeasts ∈ tw_T := tw_2 _ (List.mem_of_getElem? (i := 78) rfl) rfl
theorem co_X0_notShut : Cond.code yX0_notShut cX0_notShut 3 (some .int) ∈ tw_T := tw_2 _ (List.mem_of_getElem? (i := 83) rfl) rfl
theorem im_X0_notShut : Cond.instanceMethod yX0_notShut ∈ tw_T := tw_2 _ (List.mem_of_getElem? (i := 81) rfl) rfl
theorem se_X0_notShut : Cond.selects RX0 yX0_notShut yX0_notShut ∈ tw_T := tw_2 _ (List.mem_of_getElem? (i := 82) rfl) rfl
theorem co_X0_allPassed : Cond.code yX0_allPassed cX0_allPassed 3 (some .int) ∈ tw_T := tw_2 _ (List.mem_of_getElem? (i := 87) rfl) rfl
theorem im_X0_allPassed : Cond.instanceMethod yX0_allPassed ∈ tw_T := tw_2 _ (List.mem_of_getElem? (i := 85) rfl) rfl
theorem se_X0_allPassed : Cond.selects RX0 yX0_allPassed yX0_allPassed ∈ tw_T := tw_2 _ (List.mem_of_getElem? (i := 86) rfl) rfl
theorem co_X0_fullestField : Cond.code yX0_fullestField cX0_fullestField 3 (some .int) ∈ tw_T := tw_2 _ (List.mem_of_getElem? (i := 91) rfl) rfl
theorem im_X0_fullestField : Cond.instanceMethod yX0_fullestField ∈ tw_T := tw_2 _ (List.mem_of_getElem? (i := 89) rfl) rfl
theorem se_X0_fullestField : Cond.selects RX0 yX0_fullestField yX0_fullestField ∈ tw_T := tw_2 _ (List.mem_of_getElem? (i := 90) rfl) rfl
theorem co_X3_ahead : Cond.code yX3_ahead cX3_ahead 3 (some .int) ∈ tw_T := tw_2 _ (List.mem_of_getElem? (i := 95) rfl) rfl
theorem im_X3_ahead : Cond.instanceMethod yX3_ahead ∈ tw_T := tw_2 _ (List.mem_of_getElem? (i := 93) rfl) rfl
theorem se_X3_ahead : Cond.selects RX3 yX3_ahead yX3_ahead ∈ tw_T := tw_2 _ (List.mem_of_getElem? (i := 94) rfl) rfl
theorem co_X3_tryHours : Cond.code yX3_tryHours cX3_tryHours 2 none ∈ tw_T := tw_2 _ (List.mem_of_getElem? (i := 99) rfl) rfl
theorem im_X3_tryHours : Cond.instanceMethod yX3_tryHours ∈ tw_T := tw_2 _ (List.mem_of_getElem? (i := 98) rfl) rfl
theorem se_X3_tryHours : Cond.selects RX3 yX3_tryHours yX3_tryHours ∈ tw_T := List.mem_filter.mpr ⟨List.mem_append_left _ (List.mem_of_getElem? (i := 2) rfl), rfl⟩
theorem co_X0_become : Cond.code yX0_become cX0_become 3 none ∈ tw_T := tw_2 _ (List.mem_of_getElem? (i := 103) rfl) rfl
theorem im_X0_become : Cond.instanceMethod yX0_become ∈ tw_T := tw_2 _ (List.mem_of_getElem? (i := 101) rfl) rfl
theorem se_X0_become : Cond.selects RX0 yX0_become yX0_become ∈ tw_T := tw_2 _ (List.mem_of_getElem? (i := 102) rfl) rfl
theorem na_arraycopy : Cond.native arraycopyName ∈ tw_T := tw_2 _ (List.mem_of_getElem? (i := 106) rfl) rfl
theorem sm_arraycopy : Cond.static arraycopyName ∈ tw_T := tw_2 _ (List.mem_of_getElem? (i := 105) rfl) rfl
theorem co_X3_stand : Cond.code yX3_stand cX3_stand 3 (some .int) ∈ tw_T := tw_2 _ (List.mem_of_getElem? (i := 110) rfl) rfl
theorem im_X3_stand : Cond.instanceMethod yX3_stand ∈ tw_T := tw_2 _ (List.mem_of_getElem? (i := 108) rfl) rfl
theorem se_X3_stand : Cond.selects RX3 yX3_stand yX3_stand ∈ tw_T := tw_2 _ (List.mem_of_getElem? (i := 109) rfl) rfl
theorem co_X3_where : Cond.code yX3_where cX3_where 4 (some .int) ∈ tw_T := tw_2 _ (List.mem_of_getElem? (i := 114) rfl) rfl
theorem im_X3_where : Cond.instanceMethod yX3_where ∈ tw_T := tw_2 _ (List.mem_of_getElem? (i := 112) rfl) rfl
theorem se_X3_where : Cond.selects RX3 yX3_where yX3_where ∈ tw_T := tw_2 _ (List.mem_of_getElem? (i := 113) rfl) rfl
theorem co_X3_corn : Cond.code yX3_corn cX3_corn 4 (some .int) ∈ tw_T := tw_2 _ (List.mem_of_getElem? (i := 118) rfl) rfl
theorem im_X3_corn : Cond.instanceMethod yX3_corn ∈ tw_T := tw_2 _ (List.mem_of_getElem? (i := 116) rfl) rfl
theorem se_X3_corn : Cond.selects RX3 yX3_corn yX3_corn ∈ tw_T := tw_2 _ (List.mem_of_getElem? (i := 117) rfl) rfl
theorem co_X3_when : Cond.code yX3_when cX3_when 4 (some .int) ∈ tw_T := tw_2 _ (List.mem_of_getElem? (i := 122) rfl) rfl
theorem im_X3_when : Cond.instanceMethod yX3_when ∈ tw_T := tw_2 _ (List.mem_of_getElem? (i := 120) rfl) rfl
theorem se_X3_when : Cond.selects RX3 yX3_when yX3_when ∈ tw_T := tw_2 _ (List.mem_of_getElem? (i := 121) rfl) rfl
theorem co_X3_meet : Cond.code yX3_meet cX3_meet 4 (some .int) ∈ tw_T := tw_2 _ (List.mem_of_getElem? (i := 126) rfl) rfl
theorem im_X3_meet : Cond.instanceMethod yX3_meet ∈ tw_T := tw_2 _ (List.mem_of_getElem? (i := 124) rfl) rfl
theorem se_X3_meet : Cond.selects RX3 yX3_meet yX3_meet ∈ tw_T := tw_2 _ (List.mem_of_getElem? (i := 125) rfl) rfl
theorem co_X3_start : Cond.code yX3_start cX3_start 6 (some .int) ∈ tw_T := tw_2 _ (List.mem_of_getElem? (i := 130) rfl) rfl
theorem im_X3_start : Cond.instanceMethod yX3_start ∈ tw_T := tw_2 _ (List.mem_of_getElem? (i := 128) rfl) rfl
theorem se_X3_start : Cond.selects RX3 yX3_start yX3_start ∈ tw_T := tw_2 _ (List.mem_of_getElem? (i := 129) rfl) rfl
theorem co_X3_isWish : Cond.code yX3_isWish cX3_isWish 5 (some .boolean) ∈ tw_T := tw_2 _ (List.mem_of_getElem? (i := 134) rfl) rfl
theorem im_X3_isWish : Cond.instanceMethod yX3_isWish ∈ tw_T := tw_2 _ (List.mem_of_getElem? (i := 133) rfl) rfl
theorem se_X3_isWish : Cond.selects RX3 yX3_isWish yX3_isWish ∈ tw_T := List.mem_filter.mpr ⟨List.mem_append_left _ (List.mem_of_getElem? (i := 3) rfl), rfl⟩
theorem co_X3_valuesFor : Cond.code yX3_valuesFor cX3_valuesFor 8 (some .int) ∈ tw_T := tw_2 _ (List.mem_of_getElem? (i := 138) rfl) rfl
theorem im_X3_valuesFor : Cond.instanceMethod yX3_valuesFor ∈ tw_T := tw_2 _ (List.mem_of_getElem? (i := 137) rfl) rfl
theorem se_X3_valuesFor : Cond.selects RX3 yX3_valuesFor yX3_valuesFor ∈ tw_T := List.mem_filter.mpr ⟨List.mem_append_left _ (List.mem_of_getElem? (i := 4) rfl), rfl⟩
theorem co_J6_numberOfTrailingZeros_0f7a4 : Cond.code yJ6_numberOfTrailingZeros_0f7a4 cJ6_numberOfTrailingZeros_0f7a4 2 (some .int) ∈ tw_T := tw_2 _ (List.mem_of_getElem? (i := 141) rfl) rfl
theorem sm_J6_numberOfTrailingZeros_0f7a4 : Cond.static yJ6_numberOfTrailingZeros_0f7a4 ∈ tw_T := tw_2 _ (List.mem_of_getElem? (i := 140) rfl) rfl
theorem co_X3_kindsFor : Cond.code yX3_kindsFor cX3_kindsFor 5 (some .int) ∈ tw_T := tw_2 _ (List.mem_of_getElem? (i := 146) rfl) rfl
theorem im_X3_kindsFor : Cond.instanceMethod yX3_kindsFor ∈ tw_T := tw_2 _ (List.mem_of_getElem? (i := 144) rfl) rfl
theorem se_X3_kindsFor : Cond.selects RX3 yX3_kindsFor yX3_kindsFor ∈ tw_T := tw_2 _ (List.mem_of_getElem? (i := 145) rfl) rfl
theorem co_X3_moods : Cond.code yX3_moods cX3_moods 5 (some .int) ∈ tw_T := tw_2 _ (List.mem_of_getElem? (i := 150) rfl) rfl
theorem im_X3_moods : Cond.instanceMethod yX3_moods ∈ tw_T := tw_2 _ (List.mem_of_getElem? (i := 148) rfl) rfl
theorem se_X3_moods : Cond.selects RX3 yX3_moods yX3_moods ∈ tw_T := tw_2 _ (List.mem_of_getElem? (i := 149) rfl) rfl
theorem co_X3_windFor : Cond.code yX3_windFor cX3_windFor 5 (some .int) ∈ tw_T := tw_2 _ (List.mem_of_getElem? (i := 154) rfl) rfl
theorem im_X3_windFor : Cond.instanceMethod yX3_windFor ∈ tw_T := tw_2 _ (List.mem_of_getElem? (i := 152) rfl) rfl
theorem se_X3_windFor : Cond.selects RX3 yX3_windFor yX3_windFor ∈ tw_T := tw_2 _ (List.mem_of_getElem? (i := 153) rfl) rfl
theorem co_X3_home : Cond.code yX3_home cX3_home 6 (some .int) ∈ tw_T := tw_2 _ (List.mem_of_getElem? (i := 158) rfl) rfl
theorem im_X3_home : Cond.instanceMethod yX3_home ∈ tw_T := tw_2 _ (List.mem_of_getElem? (i := 156) rfl) rfl
theorem se_X3_home : Cond.selects RX3 yX3_home yX3_home ∈ tw_T := tw_2 _ (List.mem_of_getElem? (i := 157) rfl) rfl
theorem co_X3_leastHome : Cond.code yX3_leastHome cX3_leastHome 6 (some .int) ∈ tw_T := tw_2 _ (List.mem_of_getElem? (i := 162) rfl) rfl
theorem im_X3_leastHome : Cond.instanceMethod yX3_leastHome ∈ tw_T := tw_2 _ (List.mem_of_getElem? (i := 161) rfl) rfl
theorem se_X3_leastHome : Cond.selects RX3 yX3_leastHome yX3_leastHome ∈ tw_T := List.mem_filter.mpr ⟨List.mem_append_left _ (List.mem_of_getElem? (i := 5) rfl), rfl⟩
theorem co_J6_bitCount_0f7a4 : Cond.code yJ6_bitCount_0f7a4 cJ6_bitCount_0f7a4 1 (some .int) ∈ tw_T := tw_2 _ (List.mem_of_getElem? (i := 165) rfl) rfl
theorem sm_J6_bitCount_0f7a4 : Cond.static yJ6_bitCount_0f7a4 ∈ tw_T := tw_2 _ (List.mem_of_getElem? (i := 164) rfl) rfl
theorem co_X3_shut : Cond.code yX3_shut cX3_shut 6 (some .int) ∈ tw_T := tw_2 _ (List.mem_of_getElem? (i := 172) rfl) rfl
theorem im_X3_shut : Cond.instanceMethod yX3_shut ∈ tw_T := tw_2 _ (List.mem_of_getElem? (i := 170) rfl) rfl
theorem se_X3_shut : Cond.selects RX3 yX3_shut yX3_shut ∈ tw_T := tw_2 _ (List.mem_of_getElem? (i := 171) rfl) rfl
theorem co_X3_who : Cond.code yX3_who cX3_who 5 (some .int) ∈ tw_T := tw_2 _ (List.mem_of_getElem? (i := 176) rfl) rfl
theorem im_X3_who : Cond.instanceMethod yX3_who ∈ tw_T := tw_2 _ (List.mem_of_getElem? (i := 174) rfl) rfl
theorem se_X3_who : Cond.selects RX3 yX3_who yX3_who ∈ tw_T := tw_2 _ (List.mem_of_getElem? (i := 175) rfl) rfl
theorem co_X3_wrongSheet : Cond.code yX3_wrongSheet cX3_wrongSheet 2 (some .int) ∈ tw_T := tw_2 _ (List.mem_of_getElem? (i := 180) rfl) rfl
theorem im_X3_wrongSheet : Cond.instanceMethod yX3_wrongSheet ∈ tw_T := tw_2 _ (List.mem_of_getElem? (i := 179) rfl) rfl
theorem se_X3_wrongSheet : Cond.selects RX3 yX3_wrongSheet yX3_wrongSheet ∈ tw_T := List.mem_filter.mpr ⟨List.mem_append_left _ (List.mem_of_getElem? (i := 6) rfl), rfl⟩
theorem co_X3_isSheet : Cond.code yX3_isSheet cX3_isSheet 1 (some .boolean) ∈ tw_T := tw_2 _ (List.mem_of_getElem? (i := 183) rfl) rfl
theorem sm_X3_isSheet : Cond.static yX3_isSheet ∈ tw_T := tw_2 _ (List.mem_of_getElem? (i := 182) rfl) rfl
theorem co_X1_isMissing : Cond.code yX1_isMissing cX1_isMissing 1 (some .boolean) ∈ tw_T := tw_2 _ (List.mem_of_getElem? (i := 187) rfl) rfl
theorem im_X1_isMissing : Cond.instanceMethod yX1_isMissing ∈ tw_T := tw_2 _ (List.mem_of_getElem? (i := 185) rfl) rfl
theorem se_X1_isMissing : Cond.selects RX1 yX1_isMissing yX1_isMissing ∈ tw_T := tw_2 _ (List.mem_of_getElem? (i := 186) rfl) rfl
theorem co_X0_standsAsTold : Cond.code yX0_standsAsTold cX0_standsAsTold 3 (some .boolean) ∈ tw_T := tw_2 _ (List.mem_of_getElem? (i := 191) rfl) rfl
theorem im_X0_standsAsTold : Cond.instanceMethod yX0_standsAsTold ∈ tw_T := tw_2 _ (List.mem_of_getElem? (i := 189) rfl) rfl
theorem se_X0_standsAsTold : Cond.selects RX0 yX0_standsAsTold yX0_standsAsTold ∈ tw_T := tw_2 _ (List.mem_of_getElem? (i := 190) rfl) rfl
theorem co_X3_fits : Cond.code yX3_fits cX3_fits 7 (some .int) ∈ tw_T := tw_2 _ (List.mem_of_getElem? (i := 195) rfl) rfl
theorem im_X3_fits : Cond.instanceMethod yX3_fits ∈ tw_T := tw_2 _ (List.mem_of_getElem? (i := 193) rfl) rfl
theorem se_X3_fits : Cond.selects RX3 yX3_fits yX3_fits ∈ tw_T := tw_2 _ (List.mem_of_getElem? (i := 194) rfl) rfl
theorem co_X3_kinds : Cond.code yX3_kinds cX3_kinds 6 (some .int) ∈ tw_T := tw_2 _ (List.mem_of_getElem? (i := 199) rfl) rfl
theorem im_X3_kinds : Cond.instanceMethod yX3_kinds ∈ tw_T := tw_2 _ (List.mem_of_getElem? (i := 197) rfl) rfl
theorem se_X3_kinds : Cond.selects RX3 yX3_kinds yX3_kinds ∈ tw_T := tw_2 _ (List.mem_of_getElem? (i := 198) rfl) rfl
theorem co_X3_feelsAsTold : Cond.code yX3_feelsAsTold cX3_feelsAsTold 5 (some .boolean) ∈ tw_T := tw_2 _ (List.mem_of_getElem? (i := 203) rfl) rfl
theorem im_X3_feelsAsTold : Cond.instanceMethod yX3_feelsAsTold ∈ tw_T := tw_2 _ (List.mem_of_getElem? (i := 202) rfl) rfl
theorem se_X3_feelsAsTold : Cond.selects RX3 yX3_feelsAsTold yX3_feelsAsTold ∈ tw_T := List.mem_filter.mpr ⟨List.mem_append_left _ (List.mem_of_getElem? (i := 7) rfl), rfl⟩
theorem co_X3_gales : Cond.code yX3_gales cX3_gales 3 (some .int) ∈ tw_T := tw_2 _ (List.mem_of_getElem? (i := 207) rfl) rfl
theorem im_X3_gales : Cond.instanceMethod yX3_gales ∈ tw_T := tw_2 _ (List.mem_of_getElem? (i := 205) rfl) rfl
theorem se_X3_gales : Cond.selects RX3 yX3_gales yX3_gales ∈ tw_T := tw_2 _ (List.mem_of_getElem? (i := 206) rfl) rfl
theorem co_X0_draw : Cond.code yX0_draw cX0_draw 1 (some .int) ∈ tw_T := tw_2 _ (List.mem_of_getElem? (i := 211) rfl) rfl
theorem im_X0_draw : Cond.instanceMethod yX0_draw ∈ tw_T := tw_2 _ (List.mem_of_getElem? (i := 209) rfl) rfl
theorem se_X0_draw : Cond.selects RX0 yX0_draw yX0_draw ∈ tw_T := tw_2 _ (List.mem_of_getElem? (i := 210) rfl) rfl
theorem co_X3_odds : Cond.code yX3_odds cX3_odds 6 (some .long) ∈ tw_T := tw_2 _ (List.mem_of_getElem? (i := 216) rfl) rfl
theorem im_X3_odds : Cond.instanceMethod yX3_odds ∈ tw_T := tw_2 _ (List.mem_of_getElem? (i := 214) rfl) rfl
theorem se_X3_odds : Cond.selects RX3 yX3_odds yX3_odds ∈ tw_T := tw_2 _ (List.mem_of_getElem? (i := 215) rfl) rfl
theorem co_X3_power : Cond.code yX3_power cX3_power 5 (some .long) ∈ tw_T := tw_2 _ (List.mem_of_getElem? (i := 219) rfl) rfl
theorem sm_X3_power : Cond.static yX3_power ∈ tw_T := tw_2 _ (List.mem_of_getElem? (i := 218) rfl) rfl
theorem co_X3_seed : Cond.code yX3_seed cX3_seed 3 (some .int) ∈ tw_T := tw_2 _ (List.mem_of_getElem? (i := 223) rfl) rfl
theorem im_X3_seed : Cond.instanceMethod yX3_seed ∈ tw_T := tw_2 _ (List.mem_of_getElem? (i := 221) rfl) rfl
theorem se_X3_seed : Cond.selects RX3 yX3_seed yX3_seed ∈ tw_T := tw_2 _ (List.mem_of_getElem? (i := 222) rfl) rfl
theorem co_X3_feed : Cond.code yX3_feed cX3_feed 4 (some .int) ∈ tw_T := tw_2 _ (List.mem_of_getElem? (i := 227) rfl) rfl
theorem im_X3_feed : Cond.instanceMethod yX3_feed ∈ tw_T := tw_2 _ (List.mem_of_getElem? (i := 225) rfl) rfl
theorem se_X3_feed : Cond.selects RX3 yX3_feed yX3_feed ∈ tw_T := tw_2 _ (List.mem_of_getElem? (i := 226) rfl) rfl
theorem co_X2_put : Cond.code yX2_put cX2_put 2 none ∈ tw_T := tw_2 _ (List.mem_of_getElem? (i := 231) rfl) rfl
theorem im_X2_put : Cond.instanceMethod yX2_put ∈ tw_T := tw_2 _ (List.mem_of_getElem? (i := 229) rfl) rfl
theorem se_X2_put : Cond.selects RX2 yX2_put yX2_put ∈ tw_T := tw_2 _ (List.mem_of_getElem? (i := 230) rfl) rfl
theorem co_X3_wipe : Cond.code yX3_wipe cX3_wipe 2 (some .int) ∈ tw_T := tw_2 _ (List.mem_of_getElem? (i := 235) rfl) rfl
theorem im_X3_wipe : Cond.instanceMethod yX3_wipe ∈ tw_T := tw_2 _ (List.mem_of_getElem? (i := 233) rfl) rfl
theorem se_X3_wipe : Cond.selects RX3 yX3_wipe yX3_wipe ∈ tw_T := tw_2 _ (List.mem_of_getElem? (i := 234) rfl) rfl
theorem co_X3_text : Cond.code yX3_text cX3_text 2 (some .int) ∈ tw_T := tw_2 _ (List.mem_of_getElem? (i := 239) rfl) rfl
theorem im_X3_text : Cond.instanceMethod yX3_text ∈ tw_T := tw_2 _ (List.mem_of_getElem? (i := 237) rfl) rfl
theorem se_X3_text : Cond.selects RX3 yX3_text yX3_text ∈ tw_T := tw_2 _ (List.mem_of_getElem? (i := 238) rfl) rfl
theorem co_X2_tellTo : Cond.code yX2_tellTo cX2_tellTo 3 (some .int) ∈ tw_T := tw_3 _ (List.mem_of_getElem? (i := 3) rfl) rfl
theorem im_X2_tellTo : Cond.instanceMethod yX2_tellTo ∈ tw_T := tw_3 _ (List.mem_of_getElem? (i := 1) rfl) rfl
theorem se_X2_tellTo : Cond.selects RX2 yX2_tellTo yX2_tellTo ∈ tw_T := tw_3 _ (List.mem_of_getElem? (i := 2) rfl) rfl
theorem co_X2_split : Cond.code yX2_split cX2_split 5 none ∈ tw_T := tw_3 _ (List.mem_of_getElem? (i := 7) rfl) rfl
theorem im_X2_split : Cond.instanceMethod yX2_split ∈ tw_T := tw_3 _ (List.mem_of_getElem? (i := 6) rfl) rfl
theorem se_X2_split : Cond.selects RX2 yX2_split yX2_split ∈ tw_T := List.mem_filter.mpr ⟨List.mem_append_left _ (List.mem_of_getElem? (i := 8) rfl), rfl⟩
theorem co_X2_sortOf : Cond.code yX2_sortOf cX2_sortOf 1 (some .int) ∈ tw_T := tw_3 _ (List.mem_of_getElem? (i := 10) rfl) rfl
theorem sm_X2_sortOf : Cond.static yX2_sortOf ∈ tw_T := tw_3 _ (List.mem_of_getElem? (i := 9) rfl) rfl
theorem co_X2_setToken : Cond.code yX2_setToken cX2_setToken 4 none ∈ tw_T := tw_3 _ (List.mem_of_getElem? (i := 14) rfl) rfl
theorem im_X2_setToken : Cond.instanceMethod yX2_setToken ∈ tw_T := tw_3 _ (List.mem_of_getElem? (i := 13) rfl) rfl
theorem se_X2_setToken : Cond.selects RX2 yX2_setToken yX2_setToken ∈ tw_T := List.mem_filter.mpr ⟨List.mem_append_left _ (List.mem_of_getElem? (i := 9) rfl), rfl⟩
theorem co_X2_takeItem : Cond.code yX2_takeItem cX2_takeItem 3 (some .boolean) ∈ tw_T := tw_3 _ (List.mem_of_getElem? (i := 18) rfl) rfl
theorem im_X2_takeItem : Cond.instanceMethod yX2_takeItem ∈ tw_T := tw_3 _ (List.mem_of_getElem? (i := 17) rfl) rfl
theorem se_X2_takeItem : Cond.selects RX2 yX2_takeItem yX2_takeItem ∈ tw_T := List.mem_filter.mpr ⟨List.mem_append_left _ (List.mem_of_getElem? (i := 10) rfl), rfl⟩
theorem co_X2_wordAhead : Cond.code yX2_wordAhead cX2_wordAhead 2 (some .int) ∈ tw_T := tw_3 _ (List.mem_of_getElem? (i := 22) rfl) rfl
theorem im_X2_wordAhead : Cond.instanceMethod yX2_wordAhead ∈ tw_T := tw_3 _ (List.mem_of_getElem? (i := 21) rfl) rfl
theorem se_X2_wordAhead : Cond.selects RX2 yX2_wordAhead yX2_wordAhead ∈ tw_T := List.mem_filter.mpr ⟨List.mem_append_left _ (List.mem_of_getElem? (i := 11) rfl), rfl⟩
theorem co_X2_isSpelt : Cond.code yX2_isSpelt cX2_isSpelt 4 (some .boolean) ∈ tw_T := tw_3 _ (List.mem_of_getElem? (i := 26) rfl) rfl
theorem im_X2_isSpelt : Cond.instanceMethod yX2_isSpelt ∈ tw_T := tw_3 _ (List.mem_of_getElem? (i := 25) rfl) rfl
theorem se_X2_isSpelt : Cond.selects RX2 yX2_isSpelt yX2_isSpelt ∈ tw_T := List.mem_filter.mpr ⟨List.mem_append_left _ (List.mem_of_getElem? (i := 12) rfl), rfl⟩
theorem co_X2_takeWalker : Cond.code yX2_takeWalker cX2_takeWalker 5 (some .boolean) ∈ tw_T := tw_3 _ (List.mem_of_getElem? (i := 30) rfl) rfl
theorem im_X2_takeWalker : Cond.instanceMethod yX2_takeWalker ∈ tw_T := tw_3 _ (List.mem_of_getElem? (i := 29) rfl) rfl
theorem se_X2_takeWalker : Cond.selects RX2 yX2_takeWalker yX2_takeWalker ∈ tw_T := List.mem_filter.mpr ⟨List.mem_append_left _ (List.mem_of_getElem? (i := 13) rfl), rfl⟩
theorem co_X2_takeWord : Cond.code yX2_takeWord cX2_takeWord 2 (some .boolean) ∈ tw_T := tw_3 _ (List.mem_of_getElem? (i := 35) rfl) rfl
theorem im_X2_takeWord : Cond.instanceMethod yX2_takeWord ∈ tw_T := tw_3 _ (List.mem_of_getElem? (i := 34) rfl) rfl
theorem se_X2_takeWord : Cond.selects RX2 yX2_takeWord yX2_takeWord ∈ tw_T := List.mem_filter.mpr ⟨List.mem_append_left _ (List.mem_of_getElem? (i := 14) rfl), rfl⟩
theorem co_X2_takeNumber : Cond.code yX2_takeNumber cX2_takeNumber 5 (some .int) ∈ tw_T := tw_3 _ (List.mem_of_getElem? (i := 39) rfl) rfl
theorem im_X2_takeNumber : Cond.instanceMethod yX2_takeNumber ∈ tw_T := tw_3 _ (List.mem_of_getElem? (i := 38) rfl) rfl
theorem se_X2_takeNumber : Cond.selects RX2 yX2_takeNumber yX2_takeNumber ∈ tw_T := List.mem_filter.mpr ⟨List.mem_append_left _ (List.mem_of_getElem? (i := 15) rfl), rfl⟩
theorem co_X2_takeGate : Cond.code yX2_takeGate cX2_takeGate 4 (some .boolean) ∈ tw_T := tw_3 _ (List.mem_of_getElem? (i := 44) rfl) rfl
theorem im_X2_takeGate : Cond.instanceMethod yX2_takeGate ∈ tw_T := tw_3 _ (List.mem_of_getElem? (i := 43) rfl) rfl
theorem se_X2_takeGate : Cond.selects RX2 yX2_takeGate yX2_takeGate ∈ tw_T := List.mem_filter.mpr ⟨List.mem_append_left _ (List.mem_of_getElem? (i := 16) rfl), rfl⟩
theorem co_X2_takeBeasts : Cond.code yX2_takeBeasts cX2_takeBeasts 4 (some .boolean) ∈ tw_T := tw_3 _ (List.mem_of_getElem? (i := 48) rfl) rfl
theorem im_X2_takeBeasts : Cond.instanceMethod yX2_takeBeasts ∈ tw_T := tw_3 _ (List.mem_of_getElem? (i := 47) rfl) rfl
theorem se_X2_takeBeasts : Cond.selects RX2 yX2_takeBeasts yX2_takeBeasts ∈ tw_T := List.mem_filter.mpr ⟨List.mem_append_left _ (List.mem_of_getElem? (i := 17) rfl), rfl⟩
theorem co_X2_takeWind : Cond.code yX2_takeWind cX2_takeWind 3 (some .boolean) ∈ tw_T := tw_3 _ (List.mem_of_getElem? (i := 52) rfl) rfl
theorem im_X2_takeWind : Cond.instanceMethod yX2_takeWind ∈ tw_T := tw_3 _ (List.mem_of_getElem? (i := 51) rfl) rfl
theorem se_X2_takeWind : Cond.selects RX2 yX2_takeWind yX2_takeWind ∈ tw_T := List.mem_filter.mpr ⟨List.mem_append_left _ (List.mem_of_getElem? (i := 18) rfl), rfl⟩
theorem co_X3_hold : Cond.code yX3_hold cX3_hold 3 (some .int) ∈ tw_T := tw_3 _ (List.mem_of_getElem? (i := 56) rfl) rfl
theorem im_X3_hold : Cond.instanceMethod yX3_hold ∈ tw_T := tw_3 _ (List.mem_of_getElem? (i := 54) rfl) rfl
theorem se_X3_hold : Cond.selects RX3 yX3_hold yX3_hold ∈ tw_T := tw_3 _ (List.mem_of_getElem? (i := 55) rfl) rfl
theorem co_X3_isSpot : Cond.code yX3_isSpot cX3_isSpot 1 (some .boolean) ∈ tw_T := tw_3 _ (List.mem_of_getElem? (i := 59) rfl) rfl
theorem sm_X3_isSpot : Cond.static yX3_isSpot ∈ tw_T := tw_3 _ (List.mem_of_getElem? (i := 58) rfl) rfl
theorem co_X3_as : Cond.code yX3_as cX3_as 4 (some .int) ∈ tw_T := tw_3 _ (List.mem_of_getElem? (i := 63) rfl) rfl
theorem im_X3_as : Cond.instanceMethod yX3_as ∈ tw_T := tw_3 _ (List.mem_of_getElem? (i := 61) rfl) rfl
theorem se_X3_as : Cond.selects RX3 yX3_as yX3_as ∈ tw_T := tw_3 _ (List.mem_of_getElem? (i := 62) rfl) rfl
theorem co_X3_isUnder : Cond.code yX3_isUnder cX3_isUnder 4 (some .boolean) ∈ tw_T := tw_3 _ (List.mem_of_getElem? (i := 66) rfl) rfl
theorem sm_X3_isUnder : Cond.static yX3_isUnder ∈ tw_T := tw_3 _ (List.mem_of_getElem? (i := 65) rfl) rfl
theorem co_X3_sheet : Cond.code yX3_sheet cX3_sheet 4 (some .int) ∈ tw_T := tw_3 _ (List.mem_of_getElem? (i := 72) rfl) rfl
theorem im_X3_sheet : Cond.instanceMethod yX3_sheet ∈ tw_T := tw_3 _ (List.mem_of_getElem? (i := 70) rfl) rfl
theorem se_X3_sheet : Cond.selects RX3 yX3_sheet yX3_sheet ∈ tw_T := tw_3 _ (List.mem_of_getElem? (i := 71) rfl) rfl
theorem co_X1_clear : Cond.code yX1_clear cX1_clear 4 none ∈ tw_T := tw_3 _ (List.mem_of_getElem? (i := 76) rfl) rfl
theorem im_X1_clear : Cond.instanceMethod yX1_clear ∈ tw_T := tw_3 _ (List.mem_of_getElem? (i := 74) rfl) rfl
theorem se_X1_clear : Cond.selects RX1 yX1_clear yX1_clear ∈ tw_T := tw_3 _ (List.mem_of_getElem? (i := 75) rfl) rfl
theorem co_X3_write : Cond.code yX3_write cX3_write 5 (some .int) ∈ tw_T := tw_3 _ (List.mem_of_getElem? (i := 80) rfl) rfl
theorem im_X3_write : Cond.instanceMethod yX3_write ∈ tw_T := tw_3 _ (List.mem_of_getElem? (i := 78) rfl) rfl
theorem se_X3_write : Cond.selects RX3 yX3_write yX3_write ∈ tw_T := tw_3 _ (List.mem_of_getElem? (i := 79) rfl) rfl
theorem co_X1_put : Cond.code yX1_put cX1_put 3 none ∈ tw_T := tw_3 _ (List.mem_of_getElem? (i := 84) rfl) rfl
theorem im_X1_put : Cond.instanceMethod yX1_put ∈ tw_T := tw_3 _ (List.mem_of_getElem? (i := 82) rfl) rfl
theorem se_X1_put : Cond.selects RX1 yX1_put yX1_put ∈ tw_T := tw_3 _ (List.mem_of_getElem? (i := 83) rfl) rfl
theorem co_X3_copy : Cond.code yX3_copy cX3_copy 6 (some .int) ∈ tw_T := tw_3 _ (List.mem_of_getElem? (i := 88) rfl) rfl
theorem im_X3_copy : Cond.instanceMethod yX3_copy ∈ tw_T := tw_3 _ (List.mem_of_getElem? (i := 86) rfl) rfl
theorem se_X3_copy : Cond.selects RX3 yX3_copy yX3_copy ∈ tw_T := tw_3 _ (List.mem_of_getElem? (i := 87) rfl) rfl
theorem co_X1_hasRow : Cond.code yX1_hasRow cX1_hasRow 3 (some .boolean) ∈ tw_T := tw_3 _ (List.mem_of_getElem? (i := 92) rfl) rfl
theorem im_X1_hasRow : Cond.instanceMethod yX1_hasRow ∈ tw_T := tw_3 _ (List.mem_of_getElem? (i := 90) rfl) rfl
theorem se_X1_hasRow : Cond.selects RX1 yX1_hasRow yX1_hasRow ∈ tw_T := tw_3 _ (List.mem_of_getElem? (i := 91) rfl) rfl
theorem co_X3_load : Cond.code yX3_load cX3_load 6 (some .int) ∈ tw_T := tw_3 _ (List.mem_of_getElem? (i := 97) rfl) rfl
theorem im_X3_load : Cond.instanceMethod yX3_load ∈ tw_T := tw_3 _ (List.mem_of_getElem? (i := 95) rfl) rfl
theorem se_X3_load : Cond.selects RX3 yX3_load yX3_load ∈ tw_T := tw_3 _ (List.mem_of_getElem? (i := 96) rfl) rfl
theorem co_X3_judge : Cond.code yX3_judge cX3_judge 4 (some .int) ∈ tw_T := tw_3 _ (List.mem_of_getElem? (i := 102) rfl) rfl
theorem im_X3_judge : Cond.instanceMethod yX3_judge ∈ tw_T := tw_3 _ (List.mem_of_getElem? (i := 100) rfl) rfl
theorem se_X3_judge : Cond.selects RX3 yX3_judge yX3_judge ∈ tw_T := tw_3 _ (List.mem_of_getElem? (i := 101) rfl) rfl
theorem co_X3_image : Cond.code yX3_image cX3_image 1 (some .int) ∈ tw_T := tw_3 _ (List.mem_of_getElem? (i := 106) rfl) rfl
theorem im_X3_image : Cond.instanceMethod yX3_image ∈ tw_T := tw_3 _ (List.mem_of_getElem? (i := 104) rfl) rfl
theorem se_X3_image : Cond.selects RX3 yX3_image yX3_image ∈ tw_T := tw_3 _ (List.mem_of_getElem? (i := 105) rfl) rfl
theorem co_X3_undo : Cond.code yX3_undo cX3_undo 1 (some .int) ∈ tw_T := tw_3 _ (List.mem_of_getElem? (i := 110) rfl) rfl
theorem im_X3_undo : Cond.instanceMethod yX3_undo ∈ tw_T := tw_3 _ (List.mem_of_getElem? (i := 108) rfl) rfl
theorem se_X3_undo : Cond.selects RX3 yX3_undo yX3_undo ∈ tw_T := tw_3 _ (List.mem_of_getElem? (i := 109) rfl) rfl
theorem co_X3_tear : Cond.code yX3_tear cX3_tear 2 (some .int) ∈ tw_T := tw_3 _ (List.mem_of_getElem? (i := 114) rfl) rfl
theorem im_X3_tear : Cond.instanceMethod yX3_tear ∈ tw_T := tw_3 _ (List.mem_of_getElem? (i := 112) rfl) rfl
theorem se_X3_tear : Cond.selects RX3 yX3_tear yX3_tear ∈ tw_T := tw_3 _ (List.mem_of_getElem? (i := 113) rfl) rfl
theorem co_X3_count : Cond.code yX3_count cX3_count 2 (some .int) ∈ tw_T := tw_3 _ (List.mem_of_getElem? (i := 118) rfl) rfl
theorem im_X3_count : Cond.instanceMethod yX3_count ∈ tw_T := tw_3 _ (List.mem_of_getElem? (i := 116) rfl) rfl
theorem se_X3_count : Cond.selects RX3 yX3_count yX3_count ∈ tw_T := tw_3 _ (List.mem_of_getElem? (i := 117) rfl) rfl
theorem co_X0_spotsInUse : Cond.code yX0_spotsInUse cX0_spotsInUse 3 (some .int) ∈ tw_T := tw_3 _ (List.mem_of_getElem? (i := 122) rfl) rfl
theorem im_X0_spotsInUse : Cond.instanceMethod yX0_spotsInUse ∈ tw_T := tw_3 _ (List.mem_of_getElem? (i := 120) rfl) rfl
theorem se_X0_spotsInUse : Cond.selects RX0 yX0_spotsInUse yX0_spotsInUse ∈ tw_T := tw_3 _ (List.mem_of_getElem? (i := 121) rfl) rfl
theorem co_X3_status : Cond.code yX3_status cX3_status 2 (some .int) ∈ tw_T := tw_3 _ (List.mem_of_getElem? (i := 126) rfl) rfl
theorem im_X3_status : Cond.instanceMethod yX3_status ∈ tw_T := tw_3 _ (List.mem_of_getElem? (i := 124) rfl) rfl
theorem se_X3_status : Cond.selects RX3 yX3_status yX3_status ∈ tw_T := tw_3 _ (List.mem_of_getElem? (i := 125) rfl) rfl
theorem co_X3_allFound : Cond.code yX3_allFound cX3_allFound 3 (some .int) ∈ tw_T := tw_3 _ (List.mem_of_getElem? (i := 130) rfl) rfl
theorem im_X3_allFound : Cond.instanceMethod yX3_allFound ∈ tw_T := tw_3 _ (List.mem_of_getElem? (i := 129) rfl) rfl
theorem se_X3_allFound : Cond.selects RX3 yX3_allFound yX3_allFound ∈ tw_T := List.mem_filter.mpr ⟨List.mem_append_left _ (List.mem_of_getElem? (i := 19) rfl), rfl⟩
theorem co_X4_init : Cond.code yX4_init cX4_init 2 none ∈ tw_T := tw_3 _ (List.mem_of_getElem? (i := 135) rfl) rfl
theorem im_X4_init : Cond.instanceMethod yX4_init ∈ tw_T := tw_3 _ (List.mem_of_getElem? (i := 134) rfl) rfl
theorem co_X4_beasts : Cond.code yX4_beasts cX4_beasts 3 (some .int) ∈ tw_T := tw_3 _ (List.mem_of_getElem? (i := 192) rfl) rfl
theorem im_X4_beasts : Cond.instanceMethod yX4_beasts ∈ tw_T := tw_3 _ (List.mem_of_getElem? (i := 190) rfl) rfl
theorem se_X4_beasts : Cond.selects RX4 yX4_beasts yX4_beasts ∈ tw_T := tw_3 _ (List.mem_of_getElem? (i := 191) rfl) rfl
theorem co_X4_isField : Cond.code yX4_isField cX4_isField 1 (some .boolean) ∈ tw_T := tw_3 _ (List.mem_of_getElem? (i := 195) rfl) rfl
theorem sm_X4_isField : Cond.static yX4_isField ∈ tw_T := tw_3 _ (List.mem_of_getElem? (i := 194) rfl) rfl
theorem co_X4_isIn : Cond.code yX4_isIn cX4_isIn 6 (some .boolean) ∈ tw_T := tw_3 _ (List.mem_of_getElem? (i := 199) rfl) rfl
theorem sm_X4_isIn : Cond.static yX4_isIn ∈ tw_T := tw_3 _ (List.mem_of_getElem? (i := 198) rfl) rfl
theorem co_X4_becomes : Cond.code yX4_becomes cX4_becomes 4 (some .int) ∈ tw_T := tw_3 _ (List.mem_of_getElem? (i := 203) rfl) rfl
theorem im_X4_becomes : Cond.instanceMethod yX4_becomes ∈ tw_T := tw_3 _ (List.mem_of_getElem? (i := 202) rfl) rfl
theorem se_X4_becomes : Cond.selects RX4 yX4_becomes yX4_becomes ∈ tw_T := List.mem_filter.mpr ⟨List.mem_append_left _ (List.mem_of_getElem? (i := 20) rfl), rfl⟩
theorem co_X4_finds : Cond.code yX4_finds cX4_finds 2 (some .int) ∈ tw_T := tw_3 _ (List.mem_of_getElem? (i := 208) rfl) rfl
theorem im_X4_finds : Cond.instanceMethod yX4_finds ∈ tw_T := tw_3 _ (List.mem_of_getElem? (i := 207) rfl) rfl
theorem se_X4_finds : Cond.selects RX4 yX4_finds yX4_finds ∈ tw_T := List.mem_filter.mpr ⟨List.mem_append_left _ (List.mem_of_getElem? (i := 21) rfl), rfl⟩
theorem co_X4_field : Cond.code yX4_field cX4_field 3 (some .int) ∈ tw_T := tw_3 _ (List.mem_of_getElem? (i := 212) rfl) rfl
theorem im_X4_field : Cond.instanceMethod yX4_field ∈ tw_T := tw_3 _ (List.mem_of_getElem? (i := 210) rfl) rfl
theorem se_X4_field : Cond.selects RX4 yX4_field yX4_field ∈ tw_T := tw_3 _ (List.mem_of_getElem? (i := 211) rfl) rfl
theorem co_X4_there : Cond.code yX4_there cX4_there 4 (some .int) ∈ tw_T := tw_3 _ (List.mem_of_getElem? (i := 216) rfl) rfl
theorem im_X4_there : Cond.instanceMethod yX4_there ∈ tw_T := tw_3 _ (List.mem_of_getElem? (i := 215) rfl) rfl
theorem se_X4_there : Cond.selects RX4 yX4_there yX4_there ∈ tw_T := List.mem_filter.mpr ⟨List.mem_append_left _ (List.mem_of_getElem? (i := 22) rfl), rfl⟩
theorem co_X4_its : Cond.code yX4_its cX4_its 3 (some .int) ∈ tw_T := tw_3 _ (List.mem_of_getElem? (i := 220) rfl) rfl
theorem im_X4_its : Cond.instanceMethod yX4_its ∈ tw_T := tw_3 _ (List.mem_of_getElem? (i := 219) rfl) rfl
theorem se_X4_its : Cond.selects RX4 yX4_its yX4_its ∈ tw_T := List.mem_filter.mpr ⟨List.mem_append_left _ (List.mem_of_getElem? (i := 23) rfl), rfl⟩
theorem co_X4_gate : Cond.code yX4_gate cX4_gate 3 (some .int) ∈ tw_T := tw_3 _ (List.mem_of_getElem? (i := 224) rfl) rfl
theorem im_X4_gate : Cond.instanceMethod yX4_gate ∈ tw_T := tw_3 _ (List.mem_of_getElem? (i := 222) rfl) rfl
theorem se_X4_gate : Cond.selects RX4 yX4_gate yX4_gate ∈ tw_T := tw_3 _ (List.mem_of_getElem? (i := 223) rfl) rfl
theorem co_X4_isGate : Cond.code yX4_isGate cX4_isGate 1 (some .boolean) ∈ tw_T := tw_3 _ (List.mem_of_getElem? (i := 227) rfl) rfl
theorem sm_X4_isGate : Cond.static yX4_isGate ∈ tw_T := tw_3 _ (List.mem_of_getElem? (i := 226) rfl) rfl
theorem co_X4_isStand : Cond.code yX4_isStand cX4_isStand 1 (some .boolean) ∈ tw_T := tw_3 _ (List.mem_of_getElem? (i := 230) rfl) rfl
theorem sm_X4_isStand : Cond.static yX4_isStand ∈ tw_T := tw_3 _ (List.mem_of_getElem? (i := 229) rfl) rfl
theorem co_X4_stands : Cond.code yX4_stands cX4_stands 2 (some .int) ∈ tw_T := tw_3 _ (List.mem_of_getElem? (i := 235) rfl) rfl
theorem im_X4_stands : Cond.instanceMethod yX4_stands ∈ tw_T := tw_3 _ (List.mem_of_getElem? (i := 233) rfl) rfl
theorem se_X4_stands : Cond.selects RX4 yX4_stands yX4_stands ∈ tw_T := tw_3 _ (List.mem_of_getElem? (i := 234) rfl) rfl
theorem co_X4_wind : Cond.code yX4_wind cX4_wind 2 (some .int) ∈ tw_T := tw_3 _ (List.mem_of_getElem? (i := 239) rfl) rfl
theorem im_X4_wind : Cond.instanceMethod yX4_wind ∈ tw_T := tw_3 _ (List.mem_of_getElem? (i := 237) rfl) rfl
theorem se_X4_wind : Cond.selects RX4 yX4_wind yX4_wind ∈ tw_T := tw_3 _ (List.mem_of_getElem? (i := 238) rfl) rfl
theorem co_X4_walker : Cond.code yX4_walker cX4_walker 3 (some .int) ∈ tw_T := tw_4 _ (List.mem_of_getElem? (i := 4) rfl) rfl
theorem im_X4_walker : Cond.instanceMethod yX4_walker ∈ tw_T := tw_4 _ (List.mem_of_getElem? (i := 2) rfl) rfl
theorem se_X4_walker : Cond.selects RX4 yX4_walker yX4_walker ∈ tw_T := tw_4 _ (List.mem_of_getElem? (i := 3) rfl) rfl
theorem co_X4_comes : Cond.code yX4_comes cX4_comes 3 none ∈ tw_T := tw_4 _ (List.mem_of_getElem? (i := 10) rfl) rfl
theorem im_X4_comes : Cond.instanceMethod yX4_comes ∈ tw_T := tw_4 _ (List.mem_of_getElem? (i := 9) rfl) rfl
theorem se_X4_comes : Cond.selects RX4 yX4_comes yX4_comes ∈ tw_T := List.mem_filter.mpr ⟨List.mem_append_left _ (List.mem_of_getElem? (i := 24) rfl), rfl⟩
theorem co_X4_at : Cond.code yX4_at cX4_at 2 (some .int) ∈ tw_T := tw_4 _ (List.mem_of_getElem? (i := 13) rfl) rfl
theorem sm_X4_at : Cond.static yX4_at ∈ tw_T := tw_4 _ (List.mem_of_getElem? (i := 12) rfl) rfl
theorem co_X4_of : Cond.code yX4_of cX4_of 3 (some .int) ∈ tw_T := tw_4 _ (List.mem_of_getElem? (i := 17) rfl) rfl
theorem im_X4_of : Cond.instanceMethod yX4_of ∈ tw_T := tw_4 _ (List.mem_of_getElem? (i := 15) rfl) rfl
theorem se_X4_of : Cond.selects RX4 yX4_of yX4_of ∈ tw_T := tw_4 _ (List.mem_of_getElem? (i := 16) rfl) rfl
theorem co_X4_isWalker : Cond.code yX4_isWalker cX4_isWalker 2 (some .boolean) ∈ tw_T := tw_4 _ (List.mem_of_getElem? (i := 21) rfl) rfl
theorem im_X4_isWalker : Cond.instanceMethod yX4_isWalker ∈ tw_T := tw_4 _ (List.mem_of_getElem? (i := 20) rfl) rfl
theorem se_X4_isWalker : Cond.selects RX4 yX4_isWalker yX4_isWalker ∈ tw_T := List.mem_filter.mpr ⟨List.mem_append_left _ (List.mem_of_getElem? (i := 25) rfl), rfl⟩
theorem co_X4_goesFar : Cond.code yX4_goesFar cX4_goesFar 3 (some .int) ∈ tw_T := tw_4 _ (List.mem_of_getElem? (i := 26) rfl) rfl
theorem im_X4_goesFar : Cond.instanceMethod yX4_goesFar ∈ tw_T := tw_4 _ (List.mem_of_getElem? (i := 25) rfl) rfl
theorem se_X4_goesFar : Cond.selects RX4 yX4_goesFar yX4_goesFar ∈ tw_T := List.mem_filter.mpr ⟨List.mem_append_left _ (List.mem_of_getElem? (i := 26) rfl), rfl⟩
theorem co_X4_change : Cond.code yX4_change cX4_change 5 (some .int) ∈ tw_T := tw_4 _ (List.mem_of_getElem? (i := 30) rfl) rfl
theorem im_X4_change : Cond.instanceMethod yX4_change ∈ tw_T := tw_4 _ (List.mem_of_getElem? (i := 28) rfl) rfl
theorem se_X4_change : Cond.selects RX4 yX4_change yX4_change ∈ tw_T := tw_4 _ (List.mem_of_getElem? (i := 29) rfl) rfl
theorem co_X4_greatestOf : Cond.code yX4_greatestOf cX4_greatestOf 1 (some .int) ∈ tw_T := tw_4 _ (List.mem_of_getElem? (i := 34) rfl) rfl
theorem sm_X4_greatestOf : Cond.static yX4_greatestOf ∈ tw_T := tw_4 _ (List.mem_of_getElem? (i := 33) rfl) rfl
theorem co_X4_leaves : Cond.code yX4_leaves cX4_leaves 4 (some .int) ∈ tw_T := tw_4 _ (List.mem_of_getElem? (i := 38) rfl) rfl
theorem im_X4_leaves : Cond.instanceMethod yX4_leaves ∈ tw_T := tw_4 _ (List.mem_of_getElem? (i := 36) rfl) rfl
theorem se_X4_leaves : Cond.selects RX4 yX4_leaves yX4_leaves ∈ tw_T := tw_4 _ (List.mem_of_getElem? (i := 37) rfl) rfl
theorem co_X4_leavesIt : Cond.code yX4_leavesIt cX4_leavesIt 6 (some .int) ∈ tw_T := tw_4 _ (List.mem_of_getElem? (i := 42) rfl) rfl
theorem im_X4_leavesIt : Cond.instanceMethod yX4_leavesIt ∈ tw_T := tw_4 _ (List.mem_of_getElem? (i := 41) rfl) rfl
theorem se_X4_leavesIt : Cond.selects RX4 yX4_leavesIt yX4_leavesIt ∈ tw_T := List.mem_filter.mpr ⟨List.mem_append_left _ (List.mem_of_getElem? (i := 27) rfl), rfl⟩
theorem co_X4_feels : Cond.code yX4_feels cX4_feels 6 (some .int) ∈ tw_T := tw_4 _ (List.mem_of_getElem? (i := 46) rfl) rfl
theorem im_X4_feels : Cond.instanceMethod yX4_feels ∈ tw_T := tw_4 _ (List.mem_of_getElem? (i := 45) rfl) rfl
theorem se_X4_feels : Cond.selects RX4 yX4_feels yX4_feels ∈ tw_T := List.mem_filter.mpr ⟨List.mem_append_left _ (List.mem_of_getElem? (i := 28) rfl), rfl⟩
theorem co_X4_least : Cond.code yX4_least cX4_least 2 (some .int) ∈ tw_T := tw_4 _ (List.mem_of_getElem? (i := 49) rfl) rfl
theorem sm_X4_least : Cond.static yX4_least ∈ tw_T := tw_4 _ (List.mem_of_getElem? (i := 48) rfl) rfl
theorem co_X4_go : Cond.code yX4_go cX4_go 2 (some .int) ∈ tw_T := tw_4 _ (List.mem_of_getElem? (i := 53) rfl) rfl
theorem im_X4_go : Cond.instanceMethod yX4_go ∈ tw_T := tw_4 _ (List.mem_of_getElem? (i := 51) rfl) rfl
theorem se_X4_go : Cond.selects RX4 yX4_go yX4_go ∈ tw_T := tw_4 _ (List.mem_of_getElem? (i := 52) rfl) rfl
theorem co_X4_goes : Cond.code yX4_goes cX4_goes 3 none ∈ tw_T := tw_4 _ (List.mem_of_getElem? (i := 60) rfl) rfl
theorem im_X4_goes : Cond.instanceMethod yX4_goes ∈ tw_T := tw_4 _ (List.mem_of_getElem? (i := 59) rfl) rfl
theorem se_X4_goes : Cond.selects RX4 yX4_goes yX4_goes ∈ tw_T := List.mem_filter.mpr ⟨List.mem_append_left _ (List.mem_of_getElem? (i := 29) rfl), rfl⟩
theorem co_X4_hourBut : Cond.code yX4_hourBut cX4_hourBut 5 none ∈ tw_T := tw_4 _ (List.mem_of_getElem? (i := 64) rfl) rfl
theorem im_X4_hourBut : Cond.instanceMethod yX4_hourBut ∈ tw_T := tw_4 _ (List.mem_of_getElem? (i := 63) rfl) rfl
theorem se_X4_hourBut : Cond.selects RX4 yX4_hourBut yX4_hourBut ∈ tw_T := List.mem_filter.mpr ⟨List.mem_append_left _ (List.mem_of_getElem? (i := 30) rfl), rfl⟩
theorem co_X4_walks : Cond.code yX4_walks cX4_walks 7 none ∈ tw_T := tw_4 _ (List.mem_of_getElem? (i := 68) rfl) rfl
theorem im_X4_walks : Cond.instanceMethod yX4_walks ∈ tw_T := tw_4 _ (List.mem_of_getElem? (i := 67) rfl) rfl
theorem se_X4_walks : Cond.selects RX4 yX4_walks yX4_walks ∈ tw_T := List.mem_filter.mpr ⟨List.mem_append_left _ (List.mem_of_getElem? (i := 31) rfl), rfl⟩
theorem co_X4_wander : Cond.code yX4_wander cX4_wander 4 none ∈ tw_T := tw_4 _ (List.mem_of_getElem? (i := 72) rfl) rfl
theorem im_X4_wander : Cond.instanceMethod yX4_wander ∈ tw_T := tw_4 _ (List.mem_of_getElem? (i := 71) rfl) rfl
theorem se_X4_wander : Cond.selects RX4 yX4_wander yX4_wander ∈ tw_T := List.mem_filter.mpr ⟨List.mem_append_left _ (List.mem_of_getElem? (i := 32) rfl), rfl⟩
theorem co_X4_allStand : Cond.code yX4_allStand cX4_allStand 3 (some .int) ∈ tw_T := tw_4 _ (List.mem_of_getElem? (i := 76) rfl) rfl
theorem im_X4_allStand : Cond.instanceMethod yX4_allStand ∈ tw_T := tw_4 _ (List.mem_of_getElem? (i := 75) rfl) rfl
theorem se_X4_allStand : Cond.selects RX4 yX4_allStand yX4_allStand ∈ tw_T := List.mem_filter.mpr ⟨List.mem_append_left _ (List.mem_of_getElem? (i := 33) rfl), rfl⟩
theorem co_X4_now : Cond.code yX4_now cX4_now 2 (some .int) ∈ tw_T := tw_4 _ (List.mem_of_getElem? (i := 80) rfl) rfl
theorem im_X4_now : Cond.instanceMethod yX4_now ∈ tw_T := tw_4 _ (List.mem_of_getElem? (i := 78) rfl) rfl
theorem se_X4_now : Cond.selects RX4 yX4_now yX4_now ∈ tw_T := tw_4 _ (List.mem_of_getElem? (i := 79) rfl) rfl
theorem co_X4_beastsAll : Cond.code yX4_beastsAll cX4_beastsAll 3 (some .int) ∈ tw_T := tw_4 _ (List.mem_of_getElem? (i := 84) rfl) rfl
theorem im_X4_beastsAll : Cond.instanceMethod yX4_beastsAll ∈ tw_T := tw_4 _ (List.mem_of_getElem? (i := 83) rfl) rfl
theorem se_X4_beastsAll : Cond.selects RX4 yX4_beastsAll yX4_beastsAll ∈ tw_T := List.mem_filter.mpr ⟨List.mem_append_left _ (List.mem_of_getElem? (i := 34) rfl), rfl⟩
theorem co_X4_notShut : Cond.code yX4_notShut cX4_notShut 3 (some .int) ∈ tw_T := tw_4 _ (List.mem_of_getElem? (i := 88) rfl) rfl
theorem im_X4_notShut : Cond.instanceMethod yX4_notShut ∈ tw_T := tw_4 _ (List.mem_of_getElem? (i := 87) rfl) rfl
theorem se_X4_notShut : Cond.selects RX4 yX4_notShut yX4_notShut ∈ tw_T := List.mem_filter.mpr ⟨List.mem_append_left _ (List.mem_of_getElem? (i := 35) rfl), rfl⟩
theorem co_X4_passedAll : Cond.code yX4_passedAll cX4_passedAll 3 (some .int) ∈ tw_T := tw_4 _ (List.mem_of_getElem? (i := 92) rfl) rfl
theorem im_X4_passedAll : Cond.instanceMethod yX4_passedAll ∈ tw_T := tw_4 _ (List.mem_of_getElem? (i := 91) rfl) rfl
theorem se_X4_passedAll : Cond.selects RX4 yX4_passedAll yX4_passedAll ∈ tw_T := List.mem_filter.mpr ⟨List.mem_append_left _ (List.mem_of_getElem? (i := 36) rfl), rfl⟩
theorem co_X4_fullest : Cond.code yX4_fullest cX4_fullest 3 (some .int) ∈ tw_T := tw_4 _ (List.mem_of_getElem? (i := 96) rfl) rfl
theorem im_X4_fullest : Cond.instanceMethod yX4_fullest ∈ tw_T := tw_4 _ (List.mem_of_getElem? (i := 95) rfl) rfl
theorem se_X4_fullest : Cond.selects RX4 yX4_fullest yX4_fullest ∈ tw_T := List.mem_filter.mpr ⟨List.mem_append_left _ (List.mem_of_getElem? (i := 37) rfl), rfl⟩
theorem co_X4_ahead : Cond.code yX4_ahead cX4_ahead 3 (some .int) ∈ tw_T := tw_4 _ (List.mem_of_getElem? (i := 100) rfl) rfl
theorem im_X4_ahead : Cond.instanceMethod yX4_ahead ∈ tw_T := tw_4 _ (List.mem_of_getElem? (i := 98) rfl) rfl
theorem se_X4_ahead : Cond.selects RX4 yX4_ahead yX4_ahead ∈ tw_T := tw_4 _ (List.mem_of_getElem? (i := 99) rfl) rfl
theorem co_X4_thenAt : Cond.code yX4_thenAt cX4_thenAt 4 (some .int) ∈ tw_T := tw_4 _ (List.mem_of_getElem? (i := 105) rfl) rfl
theorem im_X4_thenAt : Cond.instanceMethod yX4_thenAt ∈ tw_T := tw_4 _ (List.mem_of_getElem? (i := 104) rfl) rfl
theorem se_X4_thenAt : Cond.selects RX4 yX4_thenAt yX4_thenAt ∈ tw_T := List.mem_filter.mpr ⟨List.mem_append_left _ (List.mem_of_getElem? (i := 38) rfl), rfl⟩
theorem co_X4_copyRow : Cond.code yX4_copyRow cX4_copyRow 3 none ∈ tw_T := tw_4 _ (List.mem_of_getElem? (i := 108) rfl) rfl
theorem sm_X4_copyRow : Cond.static yX4_copyRow ∈ tw_T := tw_4 _ (List.mem_of_getElem? (i := 107) rfl) rfl
theorem co_X4_stand : Cond.code yX4_stand cX4_stand 3 (some .int) ∈ tw_T := tw_4 _ (List.mem_of_getElem? (i := 112) rfl) rfl
theorem im_X4_stand : Cond.instanceMethod yX4_stand ∈ tw_T := tw_4 _ (List.mem_of_getElem? (i := 110) rfl) rfl
theorem se_X4_stand : Cond.selects RX4 yX4_stand yX4_stand ∈ tw_T := tw_4 _ (List.mem_of_getElem? (i := 111) rfl) rfl
theorem co_X4_where : Cond.code yX4_where cX4_where 5 (some .int) ∈ tw_T := tw_4 _ (List.mem_of_getElem? (i := 116) rfl) rfl
theorem im_X4_where : Cond.instanceMethod yX4_where ∈ tw_T := tw_4 _ (List.mem_of_getElem? (i := 114) rfl) rfl
theorem se_X4_where : Cond.selects RX4 yX4_where yX4_where ∈ tw_T := tw_4 _ (List.mem_of_getElem? (i := 115) rfl) rfl
theorem co_X4_corn : Cond.code yX4_corn cX4_corn 4 (some .int) ∈ tw_T := tw_4 _ (List.mem_of_getElem? (i := 120) rfl) rfl
theorem im_X4_corn : Cond.instanceMethod yX4_corn ∈ tw_T := tw_4 _ (List.mem_of_getElem? (i := 118) rfl) rfl
theorem se_X4_corn : Cond.selects RX4 yX4_corn yX4_corn ∈ tw_T := tw_4 _ (List.mem_of_getElem? (i := 119) rfl) rfl
theorem co_X4_when : Cond.code yX4_when cX4_when 4 (some .int) ∈ tw_T := tw_4 _ (List.mem_of_getElem? (i := 125) rfl) rfl
theorem im_X4_when : Cond.instanceMethod yX4_when ∈ tw_T := tw_4 _ (List.mem_of_getElem? (i := 123) rfl) rfl
theorem se_X4_when : Cond.selects RX4 yX4_when yX4_when ∈ tw_T := tw_4 _ (List.mem_of_getElem? (i := 124) rfl) rfl
theorem co_X4_meet : Cond.code yX4_meet cX4_meet 4 (some .int) ∈ tw_T := tw_4 _ (List.mem_of_getElem? (i := 129) rfl) rfl
theorem im_X4_meet : Cond.instanceMethod yX4_meet ∈ tw_T := tw_4 _ (List.mem_of_getElem? (i := 127) rfl) rfl
theorem se_X4_meet : Cond.selects RX4 yX4_meet yX4_meet ∈ tw_T := tw_4 _ (List.mem_of_getElem? (i := 128) rfl) rfl
theorem co_X4_start : Cond.code yX4_start cX4_start 5 (some .int) ∈ tw_T := tw_4 _ (List.mem_of_getElem? (i := 133) rfl) rfl
theorem im_X4_start : Cond.instanceMethod yX4_start ∈ tw_T := tw_4 _ (List.mem_of_getElem? (i := 131) rfl) rfl
theorem se_X4_start : Cond.selects RX4 yX4_start yX4_start ∈ tw_T := tw_4 _ (List.mem_of_getElem? (i := 132) rfl) rfl
theorem co_X4_isAsked : Cond.code yX4_isAsked cX4_isAsked 5 (some .boolean) ∈ tw_T := tw_4 _ (List.mem_of_getElem? (i := 137) rfl) rfl
theorem im_X4_isAsked : Cond.instanceMethod yX4_isAsked ∈ tw_T := tw_4 _ (List.mem_of_getElem? (i := 136) rfl) rfl
theorem se_X4_isAsked : Cond.selects RX4 yX4_isAsked yX4_isAsked ∈ tw_T := List.mem_filter.mpr ⟨List.mem_append_left _ (List.mem_of_getElem? (i := 39) rfl), rfl⟩
theorem co_X4_withWhich : Cond.code yX4_withWhich cX4_withWhich 9 (some .int) ∈ tw_T := tw_4 _ (List.mem_of_getElem? (i := 142) rfl) rfl
theorem im_X4_withWhich : Cond.instanceMethod yX4_withWhich ∈ tw_T := tw_4 _ (List.mem_of_getElem? (i := 141) rfl) rfl
theorem se_X4_withWhich : Cond.selects RX4 yX4_withWhich yX4_withWhich ∈ tw_T := List.mem_filter.mpr ⟨List.mem_append_left _ (List.mem_of_getElem? (i := 40) rfl), rfl⟩
theorem co_X4_lowest : Cond.code yX4_lowest cX4_lowest 2 (some .int) ∈ tw_T := tw_4 _ (List.mem_of_getElem? (i := 145) rfl) rfl
theorem sm_X4_lowest : Cond.static yX4_lowest ∈ tw_T := tw_4 _ (List.mem_of_getElem? (i := 144) rfl) rfl
theorem co_X4_orNone : Cond.code yX4_orNone cX4_orNone 2 (some .int) ∈ tw_T := tw_4 _ (List.mem_of_getElem? (i := 149) rfl) rfl
theorem im_X4_orNone : Cond.instanceMethod yX4_orNone ∈ tw_T := tw_4 _ (List.mem_of_getElem? (i := 148) rfl) rfl
theorem se_X4_orNone : Cond.selects RX4 yX4_orNone yX4_orNone ∈ tw_T := List.mem_filter.mpr ⟨List.mem_append_left _ (List.mem_of_getElem? (i := 41) rfl), rfl⟩
theorem co_X4_kindsFor : Cond.code yX4_kindsFor cX4_kindsFor 5 (some .int) ∈ tw_T := tw_4 _ (List.mem_of_getElem? (i := 153) rfl) rfl
theorem im_X4_kindsFor : Cond.instanceMethod yX4_kindsFor ∈ tw_T := tw_4 _ (List.mem_of_getElem? (i := 151) rfl) rfl
theorem se_X4_kindsFor : Cond.selects RX4 yX4_kindsFor yX4_kindsFor ∈ tw_T := tw_4 _ (List.mem_of_getElem? (i := 152) rfl) rfl
theorem co_X4_moods : Cond.code yX4_moods cX4_moods 5 (some .int) ∈ tw_T := tw_4 _ (List.mem_of_getElem? (i := 157) rfl) rfl
theorem im_X4_moods : Cond.instanceMethod yX4_moods ∈ tw_T := tw_4 _ (List.mem_of_getElem? (i := 155) rfl) rfl
theorem se_X4_moods : Cond.selects RX4 yX4_moods yX4_moods ∈ tw_T := tw_4 _ (List.mem_of_getElem? (i := 156) rfl) rfl
theorem co_X4_windFor : Cond.code yX4_windFor cX4_windFor 7 (some .int) ∈ tw_T := tw_4 _ (List.mem_of_getElem? (i := 161) rfl) rfl
theorem im_X4_windFor : Cond.instanceMethod yX4_windFor ∈ tw_T := tw_4 _ (List.mem_of_getElem? (i := 159) rfl) rfl
theorem se_X4_windFor : Cond.selects RX4 yX4_windFor yX4_windFor ∈ tw_T := tw_4 _ (List.mem_of_getElem? (i := 160) rfl) rfl
theorem co_X4_home : Cond.code yX4_home cX4_home 7 (some .int) ∈ tw_T := tw_4 _ (List.mem_of_getElem? (i := 165) rfl) rfl
theorem im_X4_home : Cond.instanceMethod yX4_home ∈ tw_T := tw_4 _ (List.mem_of_getElem? (i := 163) rfl) rfl
theorem se_X4_home : Cond.selects RX4 yX4_home yX4_home ∈ tw_T := tw_4 _ (List.mem_of_getElem? (i := 164) rfl) rfl
theorem co_X4_many : Cond.code yX4_many cX4_many 3 (some .int) ∈ tw_T := tw_4 _ (List.mem_of_getElem? (i := 169) rfl) rfl
theorem sm_X4_many : Cond.static yX4_many ∈ tw_T := tw_4 _ (List.mem_of_getElem? (i := 168) rfl) rfl
theorem co_X4_shut : Cond.code yX4_shut cX4_shut 8 (some .int) ∈ tw_T := tw_4 _ (List.mem_of_getElem? (i := 173) rfl) rfl
theorem im_X4_shut : Cond.instanceMethod yX4_shut ∈ tw_T := tw_4 _ (List.mem_of_getElem? (i := 171) rfl) rfl
theorem se_X4_shut : Cond.selects RX4 yX4_shut yX4_shut ∈ tw_T := tw_4 _ (List.mem_of_getElem? (i := 172) rfl) rfl
theorem co_X4_who : Cond.code yX4_who cX4_who 4 (some .int) ∈ tw_T := tw_4 _ (List.mem_of_getElem? (i := 177) rfl) rfl
theorem im_X4_who : Cond.instanceMethod yX4_who ∈ tw_T := tw_4 _ (List.mem_of_getElem? (i := 175) rfl) rfl
theorem se_X4_who : Cond.selects RX4 yX4_who yX4_who ∈ tw_T := tw_4 _ (List.mem_of_getElem? (i := 176) rfl) rfl
theorem co_X4_wants : Cond.code yX4_wants cX4_wants 2 (some .int) ∈ tw_T := tw_4 _ (List.mem_of_getElem? (i := 181) rfl) rfl
theorem im_X4_wants : Cond.instanceMethod yX4_wants ∈ tw_T := tw_4 _ (List.mem_of_getElem? (i := 180) rfl) rfl
theorem se_X4_wants : Cond.selects RX4 yX4_wants yX4_wants ∈ tw_T := List.mem_filter.mpr ⟨List.mem_append_left _ (List.mem_of_getElem? (i := 42) rfl), rfl⟩
theorem co_X4_isSheet : Cond.code yX4_isSheet cX4_isSheet 1 (some .boolean) ∈ tw_T := tw_4 _ (List.mem_of_getElem? (i := 184) rfl) rfl
theorem sm_X4_isSheet : Cond.static yX4_isSheet ∈ tw_T := tw_4 _ (List.mem_of_getElem? (i := 183) rfl) rfl
theorem co_X4_allBut : Cond.code yX4_allBut cX4_allBut 2 (some .int) ∈ tw_T := tw_4 _ (List.mem_of_getElem? (i := 189) rfl) rfl
theorem im_X4_allBut : Cond.instanceMethod yX4_allBut ∈ tw_T := tw_4 _ (List.mem_of_getElem? (i := 188) rfl) rfl
theorem se_X4_allBut : Cond.selects RX4 yX4_allBut yX4_allBut ∈ tw_T := List.mem_filter.mpr ⟨List.mem_append_left _ (List.mem_of_getElem? (i := 43) rfl), rfl⟩
theorem co_X4_isTold : Cond.code yX4_isTold cX4_isTold 7 (some .boolean) ∈ tw_T := tw_4 _ (List.mem_of_getElem? (i := 193) rfl) rfl
theorem im_X4_isTold : Cond.instanceMethod yX4_isTold ∈ tw_T := tw_4 _ (List.mem_of_getElem? (i := 192) rfl) rfl
theorem se_X4_isTold : Cond.selects RX4 yX4_isTold yX4_isTold ∈ tw_T := List.mem_filter.mpr ⟨List.mem_append_left _ (List.mem_of_getElem? (i := 44) rfl), rfl⟩
theorem co_X4_fits : Cond.code yX4_fits cX4_fits 8 (some .int) ∈ tw_T := tw_4 _ (List.mem_of_getElem? (i := 197) rfl) rfl
theorem im_X4_fits : Cond.instanceMethod yX4_fits ∈ tw_T := tw_4 _ (List.mem_of_getElem? (i := 195) rfl) rfl
theorem se_X4_fits : Cond.selects RX4 yX4_fits yX4_fits ∈ tw_T := tw_4 _ (List.mem_of_getElem? (i := 196) rfl) rfl
theorem co_X4_kinds : Cond.code yX4_kinds cX4_kinds 7 (some .int) ∈ tw_T := tw_4 _ (List.mem_of_getElem? (i := 201) rfl) rfl
theorem im_X4_kinds : Cond.instanceMethod yX4_kinds ∈ tw_T := tw_4 _ (List.mem_of_getElem? (i := 199) rfl) rfl
theorem se_X4_kinds : Cond.selects RX4 yX4_kinds yX4_kinds ∈ tw_T := tw_4 _ (List.mem_of_getElem? (i := 200) rfl) rfl
theorem co_X4_isInMood : Cond.code yX4_isInMood cX4_isInMood 6 (some .boolean) ∈ tw_T := tw_4 _ (List.mem_of_getElem? (i := 205) rfl) rfl
theorem im_X4_isInMood : Cond.instanceMethod yX4_isInMood ∈ tw_T := tw_4 _ (List.mem_of_getElem? (i := 204) rfl) rfl
theorem se_X4_isInMood : Cond.selects RX4 yX4_isInMood yX4_isInMood ∈ tw_T := List.mem_filter.mpr ⟨List.mem_append_left _ (List.mem_of_getElem? (i := 45) rfl), rfl⟩
theorem co_X4_gales : Cond.code yX4_gales cX4_gales 3 (some .int) ∈ tw_T := tw_4 _ (List.mem_of_getElem? (i := 209) rfl) rfl
theorem im_X4_gales : Cond.instanceMethod yX4_gales ∈ tw_T := tw_4 _ (List.mem_of_getElem? (i := 207) rfl) rfl
theorem se_X4_gales : Cond.selects RX4 yX4_gales yX4_gales ∈ tw_T := tw_4 _ (List.mem_of_getElem? (i := 208) rfl) rfl
theorem co_X4_draw : Cond.code yX4_draw cX4_draw 1 (some .int) ∈ tw_T := tw_4 _ (List.mem_of_getElem? (i := 213) rfl) rfl
theorem im_X4_draw : Cond.instanceMethod yX4_draw ∈ tw_T := tw_4 _ (List.mem_of_getElem? (i := 212) rfl) rfl
theorem se_X4_draw : Cond.selects RX4 yX4_draw yX4_draw ∈ tw_T := List.mem_filter.mpr ⟨List.mem_append_left _ (List.mem_of_getElem? (i := 46) rfl), rfl⟩
theorem co_X4_odds : Cond.code yX4_odds cX4_odds 9 (some .long) ∈ tw_T := tw_4 _ (List.mem_of_getElem? (i := 218) rfl) rfl
theorem im_X4_odds : Cond.instanceMethod yX4_odds ∈ tw_T := tw_4 _ (List.mem_of_getElem? (i := 216) rfl) rfl
theorem se_X4_odds : Cond.selects RX4 yX4_odds yX4_odds ∈ tw_T := tw_4 _ (List.mem_of_getElem? (i := 217) rfl) rfl
theorem co_X4_seed : Cond.code yX4_seed cX4_seed 2 (some .int) ∈ tw_T := tw_4 _ (List.mem_of_getElem? (i := 224) rfl) rfl
theorem im_X4_seed : Cond.instanceMethod yX4_seed ∈ tw_T := tw_4 _ (List.mem_of_getElem? (i := 222) rfl) rfl
theorem se_X4_seed : Cond.selects RX4 yX4_seed yX4_seed ∈ tw_T := tw_4 _ (List.mem_of_getElem? (i := 223) rfl) rfl
theorem co_X4_feed : Cond.code yX4_feed cX4_feed 4 (some .int) ∈ tw_T := tw_4 _ (List.mem_of_getElem? (i := 228) rfl) rfl
theorem im_X4_feed : Cond.instanceMethod yX4_feed ∈ tw_T := tw_4 _ (List.mem_of_getElem? (i := 226) rfl) rfl
theorem se_X4_feed : Cond.selects RX4 yX4_feed yX4_feed ∈ tw_T := tw_4 _ (List.mem_of_getElem? (i := 227) rfl) rfl
theorem co_X4_wipe : Cond.code yX4_wipe cX4_wipe 2 (some .int) ∈ tw_T := tw_4 _ (List.mem_of_getElem? (i := 232) rfl) rfl
theorem im_X4_wipe : Cond.instanceMethod yX4_wipe ∈ tw_T := tw_4 _ (List.mem_of_getElem? (i := 230) rfl) rfl
theorem se_X4_wipe : Cond.selects RX4 yX4_wipe yX4_wipe ∈ tw_T := tw_4 _ (List.mem_of_getElem? (i := 231) rfl) rfl
theorem co_X4_text : Cond.code yX4_text cX4_text 3 (some .int) ∈ tw_T := tw_4 _ (List.mem_of_getElem? (i := 236) rfl) rfl
theorem im_X4_text : Cond.instanceMethod yX4_text ∈ tw_T := tw_4 _ (List.mem_of_getElem? (i := 234) rfl) rfl
theorem se_X4_text : Cond.selects RX4 yX4_text yX4_text ∈ tw_T := tw_4 _ (List.mem_of_getElem? (i := 235) rfl) rfl
theorem co_X4_nextToken : Cond.code yX4_nextToken cX4_nextToken 2 none ∈ tw_T := tw_5 _ (List.mem_of_getElem? (i := 0) rfl) rfl
theorem im_X4_nextToken : Cond.instanceMethod yX4_nextToken ∈ tw_T := tw_4 _ (List.mem_of_getElem? (i := 239) rfl) rfl
theorem se_X4_nextToken : Cond.selects RX4 yX4_nextToken yX4_nextToken ∈ tw_T := List.mem_filter.mpr ⟨List.mem_append_left _ (List.mem_of_getElem? (i := 47) rfl), rfl⟩
theorem co_X4_byteAt : Cond.code yX4_byteAt cX4_byteAt 2 (some .int) ∈ tw_T := tw_5 _ (List.mem_of_getElem? (i := 4) rfl) rfl
theorem im_X4_byteAt : Cond.instanceMethod yX4_byteAt ∈ tw_T := tw_5 _ (List.mem_of_getElem? (i := 3) rfl) rfl
theorem se_X4_byteAt : Cond.selects RX4 yX4_byteAt yX4_byteAt ∈ tw_T := List.mem_filter.mpr ⟨List.mem_append_left _ (List.mem_of_getElem? (i := 48) rfl), rfl⟩
theorem co_X4_isLetter : Cond.code yX4_isLetter cX4_isLetter 1 (some .boolean) ∈ tw_T := tw_5 _ (List.mem_of_getElem? (i := 7) rfl) rfl
theorem sm_X4_isLetter : Cond.static yX4_isLetter ∈ tw_T := tw_5 _ (List.mem_of_getElem? (i := 6) rfl) rfl
theorem co_X4_isDigit : Cond.code yX4_isDigit cX4_isDigit 1 (some .boolean) ∈ tw_T := tw_5 _ (List.mem_of_getElem? (i := 10) rfl) rfl
theorem sm_X4_isDigit : Cond.static yX4_isDigit ∈ tw_T := tw_5 _ (List.mem_of_getElem? (i := 9) rfl) rfl
theorem co_X4_itemHere : Cond.code yX4_itemHere cX4_itemHere 3 (some .boolean) ∈ tw_T := tw_5 _ (List.mem_of_getElem? (i := 14) rfl) rfl
theorem im_X4_itemHere : Cond.instanceMethod yX4_itemHere ∈ tw_T := tw_5 _ (List.mem_of_getElem? (i := 13) rfl) rfl
theorem se_X4_itemHere : Cond.selects RX4 yX4_itemHere yX4_itemHere ∈ tw_T := List.mem_filter.mpr ⟨List.mem_append_left _ (List.mem_of_getElem? (i := 49) rfl), rfl⟩
theorem co_X4_kindHere : Cond.code yX4_kindHere cX4_kindHere 1 (some .int) ∈ tw_T := tw_5 _ (List.mem_of_getElem? (i := 18) rfl) rfl
theorem im_X4_kindHere : Cond.instanceMethod yX4_kindHere ∈ tw_T := tw_5 _ (List.mem_of_getElem? (i := 17) rfl) rfl
theorem se_X4_kindHere : Cond.selects RX4 yX4_kindHere yX4_kindHere ∈ tw_T := List.mem_filter.mpr ⟨List.mem_append_left _ (List.mem_of_getElem? (i := 50) rfl), rfl⟩
theorem co_X4_isSix : Cond.code yX4_isSix cX4_isSix 7 (some .boolean) ∈ tw_T := tw_5 _ (List.mem_of_getElem? (i := 22) rfl) rfl
theorem im_X4_isSix : Cond.instanceMethod yX4_isSix ∈ tw_T := tw_5 _ (List.mem_of_getElem? (i := 21) rfl) rfl
theorem se_X4_isSix : Cond.selects RX4 yX4_isSix yX4_isSix ∈ tw_T := List.mem_filter.mpr ⟨List.mem_append_left _ (List.mem_of_getElem? (i := 51) rfl), rfl⟩
theorem co_X4_isWord : Cond.code yX4_isWord cX4_isWord 2 (some .boolean) ∈ tw_T := tw_5 _ (List.mem_of_getElem? (i := 26) rfl) rfl
theorem im_X4_isWord : Cond.instanceMethod yX4_isWord ∈ tw_T := tw_5 _ (List.mem_of_getElem? (i := 25) rfl) rfl
theorem se_X4_isWord : Cond.selects RX4 yX4_isWord yX4_isWord ∈ tw_T := List.mem_filter.mpr ⟨List.mem_append_left _ (List.mem_of_getElem? (i := 52) rfl), rfl⟩
theorem co_X4_has3 : Cond.code yX4_has3 cX4_has3 5 (some .boolean) ∈ tw_T := tw_5 _ (List.mem_of_getElem? (i := 30) rfl) rfl
theorem im_X4_has3 : Cond.instanceMethod yX4_has3 ∈ tw_T := tw_5 _ (List.mem_of_getElem? (i := 29) rfl) rfl
theorem se_X4_has3 : Cond.selects RX4 yX4_has3 yX4_has3 ∈ tw_T := List.mem_filter.mpr ⟨List.mem_append_left _ (List.mem_of_getElem? (i := 53) rfl), rfl⟩
theorem co_X4_isFive : Cond.code yX4_isFive cX4_isFive 6 (some .boolean) ∈ tw_T := tw_5 _ (List.mem_of_getElem? (i := 34) rfl) rfl
theorem im_X4_isFive : Cond.instanceMethod yX4_isFive ∈ tw_T := tw_5 _ (List.mem_of_getElem? (i := 33) rfl) rfl
theorem se_X4_isFive : Cond.selects RX4 yX4_isFive yX4_isFive ∈ tw_T := List.mem_filter.mpr ⟨List.mem_append_left _ (List.mem_of_getElem? (i := 54) rfl), rfl⟩
theorem co_X4_isFour : Cond.code yX4_isFour cX4_isFour 5 (some .boolean) ∈ tw_T := tw_5 _ (List.mem_of_getElem? (i := 38) rfl) rfl
theorem im_X4_isFour : Cond.instanceMethod yX4_isFour ∈ tw_T := tw_5 _ (List.mem_of_getElem? (i := 37) rfl) rfl
theorem se_X4_isFour : Cond.selects RX4 yX4_isFour yX4_isFour ∈ tw_T := List.mem_filter.mpr ⟨List.mem_append_left _ (List.mem_of_getElem? (i := 55) rfl), rfl⟩
theorem co_X4_walkerHere : Cond.code yX4_walkerHere cX4_walkerHere 3 (some .boolean) ∈ tw_T := tw_5 _ (List.mem_of_getElem? (i := 42) rfl) rfl
theorem im_X4_walkerHere : Cond.instanceMethod yX4_walkerHere ∈ tw_T := tw_5 _ (List.mem_of_getElem? (i := 41) rfl) rfl
theorem se_X4_walkerHere : Cond.selects RX4 yX4_walkerHere yX4_walkerHere ∈ tw_T := List.mem_filter.mpr ⟨List.mem_append_left _ (List.mem_of_getElem? (i := 56) rfl), rfl⟩
theorem co_X4_fails : Cond.code yX4_fails cX4_fails 1 (some .boolean) ∈ tw_T := tw_5 _ (List.mem_of_getElem? (i := 46) rfl) rfl
theorem im_X4_fails : Cond.instanceMethod yX4_fails ∈ tw_T := tw_5 _ (List.mem_of_getElem? (i := 45) rfl) rfl
theorem se_X4_fails : Cond.selects RX4 yX4_fails yX4_fails ∈ tw_T := List.mem_filter.mpr ⟨List.mem_append_left _ (List.mem_of_getElem? (i := 57) rfl), rfl⟩
theorem co_X4_isNumber : Cond.code yX4_isNumber cX4_isNumber 3 (some .boolean) ∈ tw_T := tw_5 _ (List.mem_of_getElem? (i := 50) rfl) rfl
theorem im_X4_isNumber : Cond.instanceMethod yX4_isNumber ∈ tw_T := tw_5 _ (List.mem_of_getElem? (i := 49) rfl) rfl
theorem se_X4_isNumber : Cond.selects RX4 yX4_isNumber yX4_isNumber ∈ tw_T := List.mem_filter.mpr ⟨List.mem_append_left _ (List.mem_of_getElem? (i := 58) rfl), rfl⟩
theorem co_X4_standHere : Cond.code yX4_standHere cX4_standHere 1 (some .int) ∈ tw_T := tw_5 _ (List.mem_of_getElem? (i := 54) rfl) rfl
theorem im_X4_standHere : Cond.instanceMethod yX4_standHere ∈ tw_T := tw_5 _ (List.mem_of_getElem? (i := 53) rfl) rfl
theorem se_X4_standHere : Cond.selects RX4 yX4_standHere yX4_standHere ∈ tw_T := List.mem_filter.mpr ⟨List.mem_append_left _ (List.mem_of_getElem? (i := 59) rfl), rfl⟩
theorem co_X4_gateHere : Cond.code yX4_gateHere cX4_gateHere 2 (some .boolean) ∈ tw_T := tw_5 _ (List.mem_of_getElem? (i := 58) rfl) rfl
theorem im_X4_gateHere : Cond.instanceMethod yX4_gateHere ∈ tw_T := tw_5 _ (List.mem_of_getElem? (i := 57) rfl) rfl
theorem se_X4_gateHere : Cond.selects RX4 yX4_gateHere yX4_gateHere ∈ tw_T := List.mem_filter.mpr ⟨List.mem_append_left _ (List.mem_of_getElem? (i := 60) rfl), rfl⟩
theorem co_X4_beastsHere : Cond.code yX4_beastsHere cX4_beastsHere 2 (some .boolean) ∈ tw_T := tw_5 _ (List.mem_of_getElem? (i := 62) rfl) rfl
theorem im_X4_beastsHere : Cond.instanceMethod yX4_beastsHere ∈ tw_T := tw_5 _ (List.mem_of_getElem? (i := 61) rfl) rfl
theorem se_X4_beastsHere : Cond.selects RX4 yX4_beastsHere yX4_beastsHere ∈ tw_T := List.mem_filter.mpr ⟨List.mem_append_left _ (List.mem_of_getElem? (i := 61) rfl), rfl⟩
theorem co_X4_windHere : Cond.code yX4_windHere cX4_windHere 1 (some .boolean) ∈ tw_T := tw_5 _ (List.mem_of_getElem? (i := 66) rfl) rfl
theorem im_X4_windHere : Cond.instanceMethod yX4_windHere ∈ tw_T := tw_5 _ (List.mem_of_getElem? (i := 65) rfl) rfl
theorem se_X4_windHere : Cond.selects RX4 yX4_windHere yX4_windHere ∈ tw_T := List.mem_filter.mpr ⟨List.mem_append_left _ (List.mem_of_getElem? (i := 62) rfl), rfl⟩
theorem co_X4_hold : Cond.code yX4_hold cX4_hold 3 (some .int) ∈ tw_T := tw_5 _ (List.mem_of_getElem? (i := 70) rfl) rfl
theorem im_X4_hold : Cond.instanceMethod yX4_hold ∈ tw_T := tw_5 _ (List.mem_of_getElem? (i := 68) rfl) rfl
theorem se_X4_hold : Cond.selects RX4 yX4_hold yX4_hold ∈ tw_T := tw_5 _ (List.mem_of_getElem? (i := 69) rfl) rfl
theorem co_X4_as : Cond.code yX4_as cX4_as 4 (some .int) ∈ tw_T := tw_5 _ (List.mem_of_getElem? (i := 74) rfl) rfl
theorem im_X4_as : Cond.instanceMethod yX4_as ∈ tw_T := tw_5 _ (List.mem_of_getElem? (i := 72) rfl) rfl
theorem se_X4_as : Cond.selects RX4 yX4_as yX4_as ∈ tw_T := tw_5 _ (List.mem_of_getElem? (i := 73) rfl) rfl
theorem co_X4_isUnder : Cond.code yX4_isUnder cX4_isUnder 2 (some .boolean) ∈ tw_T := tw_5 _ (List.mem_of_getElem? (i := 77) rfl) rfl
theorem sm_X4_isUnder : Cond.static yX4_isUnder ∈ tw_T := tw_5 _ (List.mem_of_getElem? (i := 76) rfl) rfl
theorem co_X4_sheet : Cond.code yX4_sheet cX4_sheet 5 (some .int) ∈ tw_T := tw_5 _ (List.mem_of_getElem? (i := 82) rfl) rfl
theorem im_X4_sheet : Cond.instanceMethod yX4_sheet ∈ tw_T := tw_5 _ (List.mem_of_getElem? (i := 80) rfl) rfl
theorem se_X4_sheet : Cond.selects RX4 yX4_sheet yX4_sheet ∈ tw_T := tw_5 _ (List.mem_of_getElem? (i := 81) rfl) rfl
theorem co_X4_write : Cond.code yX4_write cX4_write 4 (some .int) ∈ tw_T := tw_5 _ (List.mem_of_getElem? (i := 87) rfl) rfl
theorem im_X4_write : Cond.instanceMethod yX4_write ∈ tw_T := tw_5 _ (List.mem_of_getElem? (i := 85) rfl) rfl
theorem se_X4_write : Cond.selects RX4 yX4_write yX4_write ∈ tw_T := tw_5 _ (List.mem_of_getElem? (i := 86) rfl) rfl
theorem co_X4_copy : Cond.code yX4_copy cX4_copy 10 (some .int) ∈ tw_T := tw_5 _ (List.mem_of_getElem? (i := 91) rfl) rfl
theorem im_X4_copy : Cond.instanceMethod yX4_copy ∈ tw_T := tw_5 _ (List.mem_of_getElem? (i := 89) rfl) rfl
theorem se_X4_copy : Cond.selects RX4 yX4_copy yX4_copy ∈ tw_T := tw_5 _ (List.mem_of_getElem? (i := 90) rfl) rfl
theorem co_X4_load : Cond.code yX4_load cX4_load 3 (some .int) ∈ tw_T := tw_5 _ (List.mem_of_getElem? (i := 95) rfl) rfl
theorem im_X4_load : Cond.instanceMethod yX4_load ∈ tw_T := tw_5 _ (List.mem_of_getElem? (i := 93) rfl) rfl
theorem se_X4_load : Cond.selects RX4 yX4_load yX4_load ∈ tw_T := tw_5 _ (List.mem_of_getElem? (i := 94) rfl) rfl
theorem co_X4_judge : Cond.code yX4_judge cX4_judge 3 (some .int) ∈ tw_T := tw_5 _ (List.mem_of_getElem? (i := 99) rfl) rfl
theorem im_X4_judge : Cond.instanceMethod yX4_judge ∈ tw_T := tw_5 _ (List.mem_of_getElem? (i := 97) rfl) rfl
theorem se_X4_judge : Cond.selects RX4 yX4_judge yX4_judge ∈ tw_T := tw_5 _ (List.mem_of_getElem? (i := 98) rfl) rfl
theorem co_X4_image : Cond.code yX4_image cX4_image 1 (some .int) ∈ tw_T := tw_5 _ (List.mem_of_getElem? (i := 103) rfl) rfl
theorem im_X4_image : Cond.instanceMethod yX4_image ∈ tw_T := tw_5 _ (List.mem_of_getElem? (i := 101) rfl) rfl
theorem se_X4_image : Cond.selects RX4 yX4_image yX4_image ∈ tw_T := tw_5 _ (List.mem_of_getElem? (i := 102) rfl) rfl
theorem co_X4_undo : Cond.code yX4_undo cX4_undo 1 (some .int) ∈ tw_T := tw_5 _ (List.mem_of_getElem? (i := 107) rfl) rfl
theorem im_X4_undo : Cond.instanceMethod yX4_undo ∈ tw_T := tw_5 _ (List.mem_of_getElem? (i := 105) rfl) rfl
theorem se_X4_undo : Cond.selects RX4 yX4_undo yX4_undo ∈ tw_T := tw_5 _ (List.mem_of_getElem? (i := 106) rfl) rfl
theorem co_X4_tear : Cond.code yX4_tear cX4_tear 2 (some .int) ∈ tw_T := tw_5 _ (List.mem_of_getElem? (i := 111) rfl) rfl
theorem im_X4_tear : Cond.instanceMethod yX4_tear ∈ tw_T := tw_5 _ (List.mem_of_getElem? (i := 109) rfl) rfl
theorem se_X4_tear : Cond.selects RX4 yX4_tear yX4_tear ∈ tw_T := tw_5 _ (List.mem_of_getElem? (i := 110) rfl) rfl
theorem co_X4_count : Cond.code yX4_count cX4_count 4 (some .int) ∈ tw_T := tw_5 _ (List.mem_of_getElem? (i := 115) rfl) rfl
theorem im_X4_count : Cond.instanceMethod yX4_count ∈ tw_T := tw_5 _ (List.mem_of_getElem? (i := 113) rfl) rfl
theorem se_X4_count : Cond.selects RX4 yX4_count yX4_count ∈ tw_T := tw_5 _ (List.mem_of_getElem? (i := 114) rfl) rfl
theorem co_X4_status : Cond.code yX4_status cX4_status 2 (some .int) ∈ tw_T := tw_5 _ (List.mem_of_getElem? (i := 119) rfl) rfl
theorem im_X4_status : Cond.instanceMethod yX4_status ∈ tw_T := tw_5 _ (List.mem_of_getElem? (i := 117) rfl) rfl
theorem se_X4_status : Cond.selects RX4 yX4_status yX4_status ∈ tw_T := tw_5 _ (List.mem_of_getElem? (i := 118) rfl) rfl
theorem ws_X0 : ∀ w ∈ u_ws RX0 TX0 8, w ∈ tw_T := by decide +kernel
theorem ws_X1 : ∀ w ∈ u_ws RX1 TX1 3, w ∈ tw_T := by decide +kernel
theorem ws_X2 : ∀ w ∈ u_ws RX2 TX2 7, w ∈ tw_T := by decide +kernel
theorem ws_X3 : ∀ w ∈ u_ws RX3 TX3 7, w ∈ tw_T := by decide +kernel
theorem ws_X4 : ∀ w ∈ u_ws RX4 TX4 17, w ∈ tw_T := by decide +kernel
