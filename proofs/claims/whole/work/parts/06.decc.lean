theorem dX4_init_0 : decode cX4_init 0 = .ok (.aload_n 0, 1) := by decide +kernel
theorem dX4_init_1 : decode cX4_init 1 = .ok (.invokespecial 1, 3) := by decide +kernel
theorem dX4_init_4 : decode cX4_init 4 = .ok (.aload_n 0, 1) := by decide +kernel
theorem dX4_init_5 : decode cX4_init 5 = .ok (.bipush 71, 2) := by decide +kernel
theorem dX4_init_7 : decode cX4_init 7 = .ok (.newarray .int, 2) := by decide +kernel
theorem dX4_init_9 : decode cX4_init 9 = .ok (.putfield 7, 3) := by decide +kernel
theorem dX4_init_12 : decode cX4_init 12 = .ok (.aload_n 0, 1) := by decide +kernel
theorem dX4_init_13 : decode cX4_init 13 = .ok (.bipush 71, 2) := by decide +kernel
theorem dX4_init_15 : decode cX4_init 15 = .ok (.newarray .int, 2) := by decide +kernel
theorem dX4_init_17 : decode cX4_init 17 = .ok (.putfield 13, 3) := by decide +kernel
theorem dX4_init_20 : decode cX4_init 20 = .ok (.aload_n 0, 1) := by decide +kernel
theorem dX4_init_21 : decode cX4_init 21 = .ok (.bipush 71, 2) := by decide +kernel
theorem dX4_init_23 : decode cX4_init 23 = .ok (.newarray .int, 2) := by decide +kernel
theorem dX4_init_25 : decode cX4_init 25 = .ok (.putfield 16, 3) := by decide +kernel
theorem dX4_init_28 : decode cX4_init 28 = .ok (.aload_n 0, 1) := by decide +kernel
theorem dX4_init_29 : decode cX4_init 29 = .ok (.bipush 71, 2) := by decide +kernel
theorem dX4_init_31 : decode cX4_init 31 = .ok (.newarray .int, 2) := by decide +kernel
theorem dX4_init_33 : decode cX4_init 33 = .ok (.putfield 19, 3) := by decide +kernel
theorem dX4_init_36 : decode cX4_init 36 = .ok (.aload_n 0, 1) := by decide +kernel
theorem dX4_init_37 : decode cX4_init 37 = .ok (.bipush 8, 2) := by decide +kernel
theorem dX4_init_39 : decode cX4_init 39 = .ok (.newarray .int, 2) := by decide +kernel
theorem dX4_init_41 : decode cX4_init 41 = .ok (.putfield 22, 3) := by decide +kernel
theorem dX4_init_44 : decode cX4_init 44 = .ok (.aload_n 0, 1) := by decide +kernel
theorem dX4_init_45 : decode cX4_init 45 = .ok (.bipush 120, 2) := by decide +kernel
theorem dX4_init_47 : decode cX4_init 47 = .ok (.newarray .int, 2) := by decide +kernel
theorem dX4_init_49 : decode cX4_init 49 = .ok (.putfield 25, 3) := by decide +kernel
theorem dX4_init_52 : decode cX4_init 52 = .ok (.aload_n 0, 1) := by decide +kernel
theorem dX4_init_53 : decode cX4_init 53 = .ok (.iconst 4, 1) := by decide +kernel
theorem dX4_init_54 : decode cX4_init 54 = .ok (.newarray .int, 2) := by decide +kernel
theorem dX4_init_56 : decode cX4_init 56 = .ok (.dup, 1) := by decide +kernel
theorem dX4_init_57 : decode cX4_init 57 = .ok (.iconst 0, 1) := by decide +kernel
theorem dX4_init_58 : decode cX4_init 58 = .ok (.iconst (-1), 1) := by decide +kernel
theorem dX4_init_59 : decode cX4_init 59 = .ok (.iastore, 1) := by decide +kernel
theorem dX4_init_60 : decode cX4_init 60 = .ok (.dup, 1) := by decide +kernel
theorem dX4_init_61 : decode cX4_init 61 = .ok (.iconst 1, 1) := by decide +kernel
theorem dX4_init_62 : decode cX4_init 62 = .ok (.iconst (-1), 1) := by decide +kernel
theorem dX4_init_63 : decode cX4_init 63 = .ok (.iastore, 1) := by decide +kernel
theorem dX4_init_64 : decode cX4_init 64 = .ok (.dup, 1) := by decide +kernel
theorem dX4_init_65 : decode cX4_init 65 = .ok (.iconst 2, 1) := by decide +kernel
theorem dX4_init_66 : decode cX4_init 66 = .ok (.iconst (-1), 1) := by decide +kernel
theorem dX4_init_67 : decode cX4_init 67 = .ok (.iastore, 1) := by decide +kernel
theorem dX4_init_68 : decode cX4_init 68 = .ok (.dup, 1) := by decide +kernel
theorem dX4_init_69 : decode cX4_init 69 = .ok (.iconst 3, 1) := by decide +kernel
theorem dX4_init_70 : decode cX4_init 70 = .ok (.iconst (-1), 1) := by decide +kernel
theorem dX4_init_71 : decode cX4_init 71 = .ok (.iastore, 1) := by decide +kernel
theorem dX4_init_72 : decode cX4_init 72 = .ok (.putfield 28, 3) := by decide +kernel
theorem dX4_init_75 : decode cX4_init 75 = .ok (.aload_n 0, 1) := by decide +kernel
theorem dX4_init_76 : decode cX4_init 76 = .ok (.iconst 4, 1) := by decide +kernel
theorem dX4_init_77 : decode cX4_init 77 = .ok (.newarray .int, 2) := by decide +kernel
theorem dX4_init_79 : decode cX4_init 79 = .ok (.putfield 31, 3) := by decide +kernel
theorem dX4_init_82 : decode cX4_init 82 = .ok (.aload_n 0, 1) := by decide +kernel
theorem dX4_init_83 : decode cX4_init 83 = .ok (.sipush 160, 3) := by decide +kernel
theorem dX4_init_86 : decode cX4_init 86 = .ok (.newarray .int, 2) := by decide +kernel
theorem dX4_init_88 : decode cX4_init 88 = .ok (.putfield 34, 3) := by decide +kernel
theorem dX4_init_91 : decode cX4_init 91 = .ok (.aload_n 0, 1) := by decide +kernel
theorem dX4_init_92 : decode cX4_init 92 = .ok (.bipush 8, 2) := by decide +kernel
theorem dX4_init_94 : decode cX4_init 94 = .ok (.newarray .int, 2) := by decide +kernel
theorem dX4_init_96 : decode cX4_init 96 = .ok (.putfield 37, 3) := by decide +kernel
theorem dX4_init_99 : decode cX4_init 99 = .ok (.aload_n 0, 1) := by decide +kernel
theorem dX4_init_100 : decode cX4_init 100 = .ok (.getfield 7, 3) := by decide +kernel
theorem dX4_init_103 : decode cX4_init 103 = .ok (.iconst 2, 1) := by decide +kernel
theorem dX4_init_104 : decode cX4_init 104 = .ok (.iconst 1, 1) := by decide +kernel
theorem dX4_init_105 : decode cX4_init 105 = .ok (.iastore, 1) := by decide +kernel
theorem dX4_init_106 : decode cX4_init 106 = .ok (.iconst 0, 1) := by decide +kernel
theorem dX4_init_107 : decode cX4_init 107 = .ok (.istore_n 1, 1) := by decide +kernel
theorem dX4_init_108 : decode cX4_init 108 = .ok (.iload_n 1, 1) := by decide +kernel
theorem dX4_init_109 : decode cX4_init 109 = .ok (.bipush 10, 2) := by decide +kernel
theorem dX4_init_111 : decode cX4_init 111 = .ok (.if_icmp .ge 19, 3) := by decide +kernel
theorem dX4_init_114 : decode cX4_init 114 = .ok (.aload_n 0, 1) := by decide +kernel
theorem dX4_init_115 : decode cX4_init 115 = .ok (.getfield 7, 3) := by decide +kernel
theorem dX4_init_118 : decode cX4_init 118 = .ok (.bipush 61, 2) := by decide +kernel
theorem dX4_init_120 : decode cX4_init 120 = .ok (.iload_n 1, 1) := by decide +kernel
theorem dX4_init_121 : decode cX4_init 121 = .ok (.iadd, 1) := by decide +kernel
theorem dX4_init_122 : decode cX4_init 122 = .ok (.iconst (-1), 1) := by decide +kernel
theorem dX4_init_123 : decode cX4_init 123 = .ok (.iastore, 1) := by decide +kernel
theorem dX4_init_124 : decode cX4_init 124 = .ok (.iinc 1 1, 3) := by decide +kernel
theorem dX4_init_127 : decode cX4_init 127 = .ok (.goto (-19), 3) := by decide +kernel
theorem dX4_init_130 : decode cX4_init 130 = .ok (.return_, 1) := by decide +kernel
theorem dX4_isIn_0 : decode cX4_isIn 0 = .ok (.lload_n 0, 1) := by decide +kernel
theorem dX4_isIn_1 : decode cX4_isIn 1 = .ok (.lload_n 2, 1) := by decide +kernel
theorem dX4_isIn_2 : decode cX4_isIn 2 = .ok (.lcmp, 1) := by decide +kernel
theorem dX4_isIn_3 : decode cX4_isIn 3 = .ok (.ifCond .lt 14, 3) := by decide +kernel
theorem dX4_isIn_6 : decode cX4_isIn 6 = .ok (.lload_n 0, 1) := by decide +kernel
theorem dX4_isIn_7 : decode cX4_isIn 7 = .ok (.lload 4, 2) := by decide +kernel
theorem dX4_isIn_9 : decode cX4_isIn 9 = .ok (.lcmp, 1) := by decide +kernel
theorem dX4_isIn_10 : decode cX4_isIn 10 = .ok (.ifCond .gt 7, 3) := by decide +kernel
theorem dX4_isIn_13 : decode cX4_isIn 13 = .ok (.iconst 1, 1) := by decide +kernel
theorem dX4_isIn_14 : decode cX4_isIn 14 = .ok (.goto 4, 3) := by decide +kernel
theorem dX4_isIn_17 : decode cX4_isIn 17 = .ok (.iconst 0, 1) := by decide +kernel
theorem dX4_isIn_18 : decode cX4_isIn 18 = .ok (.ireturn, 1) := by decide +kernel
theorem dX4_finds_0 : decode cX4_finds 0 = .ok (.aload_n 0, 1) := by decide +kernel
theorem dX4_finds_1 : decode cX4_finds 1 = .ok (.getfield 22, 3) := by decide +kernel
theorem dX4_finds_4 : decode cX4_finds 4 = .ok (.iconst 0, 1) := by decide +kernel
theorem dX4_finds_5 : decode cX4_finds 5 = .ok (.dup2, 1) := by decide +kernel
theorem dX4_finds_6 : decode cX4_finds 6 = .ok (.iaload, 1) := by decide +kernel
theorem dX4_finds_7 : decode cX4_finds 7 = .ok (.iconst 1, 1) := by decide +kernel
theorem dX4_finds_8 : decode cX4_finds 8 = .ok (.iadd, 1) := by decide +kernel
theorem dX4_finds_9 : decode cX4_finds 9 = .ok (.iastore, 1) := by decide +kernel
theorem dX4_finds_10 : decode cX4_finds 10 = .ok (.aload_n 0, 1) := by decide +kernel
theorem dX4_finds_11 : decode cX4_finds 11 = .ok (.getfield 22, 3) := by decide +kernel
theorem dX4_finds_14 : decode cX4_finds 14 = .ok (.ldc 40, 2) := by decide +kernel
theorem dX4_finds_16 : decode cX4_finds 16 = .ok (.iload_n 1, 1) := by decide +kernel
theorem dX4_finds_17 : decode cX4_finds 17 = .ok (.isub, 1) := by decide +kernel
theorem dX4_finds_18 : decode cX4_finds 18 = .ok (.iconst 1, 1) := by decide +kernel
theorem dX4_finds_19 : decode cX4_finds 19 = .ok (.iadd, 1) := by decide +kernel
theorem dX4_finds_20 : decode cX4_finds 20 = .ok (.dup2, 1) := by decide +kernel
theorem dX4_finds_21 : decode cX4_finds 21 = .ok (.iaload, 1) := by decide +kernel
theorem dX4_finds_22 : decode cX4_finds 22 = .ok (.iconst 1, 1) := by decide +kernel
theorem dX4_finds_23 : decode cX4_finds 23 = .ok (.iadd, 1) := by decide +kernel
theorem dX4_finds_24 : decode cX4_finds 24 = .ok (.iastore, 1) := by decide +kernel
theorem dX4_finds_25 : decode cX4_finds 25 = .ok (.iload_n 1, 1) := by decide +kernel
theorem dX4_finds_26 : decode cX4_finds 26 = .ok (.ireturn, 1) := by decide +kernel
theorem dX4_becomes_0 : decode cX4_becomes 0 = .ok (.aload_n 0, 1) := by decide +kernel
theorem dX4_becomes_1 : decode cX4_becomes 1 = .ok (.getfield 7, 3) := by decide +kernel
theorem dX4_becomes_4 : decode cX4_becomes 4 = .ok (.iload_n 1, 1) := by decide +kernel
theorem dX4_becomes_5 : decode cX4_becomes 5 = .ok (.iaload, 1) := by decide +kernel
theorem dX4_becomes_6 : decode cX4_becomes 6 = .ok (.istore_n 3, 1) := by decide +kernel
theorem dX4_becomes_7 : decode cX4_becomes 7 = .ok (.aload_n 0, 1) := by decide +kernel
theorem dX4_becomes_8 : decode cX4_becomes 8 = .ok (.getfield 7, 3) := by decide +kernel
theorem dX4_becomes_11 : decode cX4_becomes 11 = .ok (.iload_n 1, 1) := by decide +kernel
theorem dX4_becomes_12 : decode cX4_becomes 12 = .ok (.iload_n 2, 1) := by decide +kernel
theorem dX4_becomes_13 : decode cX4_becomes 13 = .ok (.iastore, 1) := by decide +kernel
theorem dX4_becomes_14 : decode cX4_becomes 14 = .ok (.iload_n 3, 1) := by decide +kernel
theorem dX4_becomes_15 : decode cX4_becomes 15 = .ok (.ireturn, 1) := by decide +kernel
theorem dX4_copyRow_0 : decode cX4_copyRow 0 = .ok (.iconst 0, 1) := by decide +kernel
theorem dX4_copyRow_1 : decode cX4_copyRow 1 = .ok (.istore_n 2, 1) := by decide +kernel
theorem dX4_copyRow_2 : decode cX4_copyRow 2 = .ok (.iload_n 2, 1) := by decide +kernel
theorem dX4_copyRow_3 : decode cX4_copyRow 3 = .ok (.bipush 71, 2) := by decide +kernel
theorem dX4_copyRow_5 : decode cX4_copyRow 5 = .ok (.if_icmp .ge 15, 3) := by decide +kernel
theorem dX4_copyRow_8 : decode cX4_copyRow 8 = .ok (.aload_n 1, 1) := by decide +kernel
theorem dX4_copyRow_9 : decode cX4_copyRow 9 = .ok (.iload_n 2, 1) := by decide +kernel
theorem dX4_copyRow_10 : decode cX4_copyRow 10 = .ok (.aload_n 0, 1) := by decide +kernel
theorem dX4_copyRow_11 : decode cX4_copyRow 11 = .ok (.iload_n 2, 1) := by decide +kernel
theorem dX4_copyRow_12 : decode cX4_copyRow 12 = .ok (.iaload, 1) := by decide +kernel
theorem dX4_copyRow_13 : decode cX4_copyRow 13 = .ok (.iastore, 1) := by decide +kernel
theorem dX4_copyRow_14 : decode cX4_copyRow 14 = .ok (.iinc 2 1, 3) := by decide +kernel
theorem dX4_copyRow_17 : decode cX4_copyRow 17 = .ok (.goto (-15), 3) := by decide +kernel
theorem dX4_copyRow_20 : decode cX4_copyRow 20 = .ok (.return_, 1) := by decide +kernel
theorem dX4_isField_0 : decode cX4_isField 0 = .ok (.iload_n 0, 1) := by decide +kernel
theorem dX4_isField_1 : decode cX4_isField 1 = .ok (.ifCond .lt 13, 3) := by decide +kernel
theorem dX4_isField_4 : decode cX4_isField 4 = .ok (.iload_n 0, 1) := by decide +kernel
theorem dX4_isField_5 : decode cX4_isField 5 = .ok (.bipush 9, 2) := by decide +kernel
theorem dX4_isField_7 : decode cX4_isField 7 = .ok (.if_icmp .ge 7, 3) := by decide +kernel
theorem dX4_isField_10 : decode cX4_isField 10 = .ok (.iconst 1, 1) := by decide +kernel
theorem dX4_isField_11 : decode cX4_isField 11 = .ok (.goto 4, 3) := by decide +kernel
theorem dX4_isField_14 : decode cX4_isField 14 = .ok (.iconst 0, 1) := by decide +kernel
theorem dX4_isField_15 : decode cX4_isField 15 = .ok (.ireturn, 1) := by decide +kernel
theorem dX4_isGate_0 : decode cX4_isGate 0 = .ok (.iload_n 0, 1) := by decide +kernel
theorem dX4_isGate_1 : decode cX4_isGate 1 = .ok (.ifCond .lt 13, 3) := by decide +kernel
theorem dX4_isGate_4 : decode cX4_isGate 4 = .ok (.iload_n 0, 1) := by decide +kernel
theorem dX4_isGate_5 : decode cX4_isGate 5 = .ok (.bipush 8, 2) := by decide +kernel
theorem dX4_isGate_7 : decode cX4_isGate 7 = .ok (.if_icmp .ge 7, 3) := by decide +kernel
theorem dX4_isGate_10 : decode cX4_isGate 10 = .ok (.iconst 1, 1) := by decide +kernel
theorem dX4_isGate_11 : decode cX4_isGate 11 = .ok (.goto 4, 3) := by decide +kernel
theorem dX4_isGate_14 : decode cX4_isGate 14 = .ok (.iconst 0, 1) := by decide +kernel
theorem dX4_isGate_15 : decode cX4_isGate 15 = .ok (.ireturn, 1) := by decide +kernel
theorem dX4_isStand_0 : decode cX4_isStand 0 = .ok (.iload_n 0, 1) := by decide +kernel
theorem dX4_isStand_1 : decode cX4_isStand 1 = .ok (.i2l, 1) := by decide +kernel
theorem dX4_isStand_2 : decode cX4_isStand 2 = .ok (.lconst 0, 1) := by decide +kernel
theorem dX4_isStand_3 : decode cX4_isStand 3 = .ok (.ldc2_w 41, 3) := by decide +kernel
theorem dX4_isStand_6 : decode cX4_isStand 6 = .ok (.invokestatic 43, 3) := by decide +kernel
theorem dX4_isStand_9 : decode cX4_isStand 9 = .ok (.ireturn, 1) := by decide +kernel
theorem dX4_isWalker_0 : decode cX4_isWalker 0 = .ok (.iload_n 1, 1) := by decide +kernel
theorem dX4_isWalker_1 : decode cX4_isWalker 1 = .ok (.ifCond .lt 17, 3) := by decide +kernel
theorem dX4_isWalker_4 : decode cX4_isWalker 4 = .ok (.iload_n 1, 1) := by decide +kernel
theorem dX4_isWalker_5 : decode cX4_isWalker 5 = .ok (.aload_n 0, 1) := by decide +kernel
theorem dX4_isWalker_6 : decode cX4_isWalker 6 = .ok (.getfield 7, 3) := by decide +kernel
theorem dX4_isWalker_9 : decode cX4_isWalker 9 = .ok (.iconst 0, 1) := by decide +kernel
theorem dX4_isWalker_10 : decode cX4_isWalker 10 = .ok (.iaload, 1) := by decide +kernel
theorem dX4_isWalker_11 : decode cX4_isWalker 11 = .ok (.if_icmp .ge 7, 3) := by decide +kernel
theorem dX4_isWalker_14 : decode cX4_isWalker 14 = .ok (.iconst 1, 1) := by decide +kernel
theorem dX4_isWalker_15 : decode cX4_isWalker 15 = .ok (.goto 4, 3) := by decide +kernel
theorem dX4_isWalker_18 : decode cX4_isWalker 18 = .ok (.iconst 0, 1) := by decide +kernel
theorem dX4_isWalker_19 : decode cX4_isWalker 19 = .ok (.ireturn, 1) := by decide +kernel
theorem dX4_at_0 : decode cX4_at 0 = .ok (.bipush 21, 2) := by decide +kernel
theorem dX4_at_2 : decode cX4_at 2 = .ok (.iconst 5, 1) := by decide +kernel
theorem dX4_at_3 : decode cX4_at 3 = .ok (.iload_n 0, 1) := by decide +kernel
theorem dX4_at_4 : decode cX4_at 4 = .ok (.imul, 1) := by decide +kernel
theorem dX4_at_5 : decode cX4_at 5 = .ok (.iadd, 1) := by decide +kernel
theorem dX4_at_6 : decode cX4_at 6 = .ok (.iload_n 1, 1) := by decide +kernel
theorem dX4_at_7 : decode cX4_at 7 = .ok (.iadd, 1) := by decide +kernel
theorem dX4_at_8 : decode cX4_at 8 = .ok (.ireturn, 1) := by decide +kernel
theorem dX4_its_0 : decode cX4_its 0 = .ok (.aload_n 0, 1) := by decide +kernel
theorem dX4_its_1 : decode cX4_its 1 = .ok (.getfield 7, 3) := by decide +kernel
theorem dX4_its_4 : decode cX4_its 4 = .ok (.bipush 21, 2) := by decide +kernel
theorem dX4_its_6 : decode cX4_its 6 = .ok (.iconst 5, 1) := by decide +kernel
theorem dX4_its_7 : decode cX4_its 7 = .ok (.iload_n 1, 1) := by decide +kernel
theorem dX4_its_8 : decode cX4_its 8 = .ok (.imul, 1) := by decide +kernel
theorem dX4_its_9 : decode cX4_its 9 = .ok (.iadd, 1) := by decide +kernel
theorem dX4_its_10 : decode cX4_its 10 = .ok (.iload_n 2, 1) := by decide +kernel
theorem dX4_its_11 : decode cX4_its 11 = .ok (.iadd, 1) := by decide +kernel
theorem dX4_its_12 : decode cX4_its 12 = .ok (.iaload, 1) := by decide +kernel
theorem dX4_its_13 : decode cX4_its 13 = .ok (.ireturn, 1) := by decide +kernel
theorem dX4_least_0 : decode cX4_least 0 = .ok (.iload_n 0, 1) := by decide +kernel
theorem dX4_least_1 : decode cX4_least 1 = .ok (.iload_n 1, 1) := by decide +kernel
theorem dX4_least_2 : decode cX4_least 2 = .ok (.if_icmp .ge 7, 3) := by decide +kernel
theorem dX4_least_5 : decode cX4_least 5 = .ok (.iload_n 0, 1) := by decide +kernel
theorem dX4_least_6 : decode cX4_least 6 = .ok (.goto 4, 3) := by decide +kernel
theorem dX4_least_9 : decode cX4_least 9 = .ok (.iload_n 1, 1) := by decide +kernel
theorem dX4_least_10 : decode cX4_least 10 = .ok (.ireturn, 1) := by decide +kernel
theorem dX4_orNone_0 : decode cX4_orNone 0 = .ok (.iload_n 1, 1) := by decide +kernel
theorem dX4_orNone_1 : decode cX4_orNone 1 = .ok (.ifCond .ge 12, 3) := by decide +kernel
theorem dX4_orNone_4 : decode cX4_orNone 4 = .ok (.aload_n 0, 1) := by decide +kernel
theorem dX4_orNone_5 : decode cX4_orNone 5 = .ok (.ldc 47, 2) := by decide +kernel
theorem dX4_orNone_7 : decode cX4_orNone 7 = .ok (.invokevirtual 48, 3) := by decide +kernel
theorem dX4_orNone_10 : decode cX4_orNone 10 = .ok (.goto 4, 3) := by decide +kernel
theorem dX4_orNone_13 : decode cX4_orNone 13 = .ok (.iload_n 1, 1) := by decide +kernel
theorem dX4_orNone_14 : decode cX4_orNone 14 = .ok (.ireturn, 1) := by decide +kernel
theorem dX4_many_0 : decode cX4_many 0 = .ok (.iconst 0, 1) := by decide +kernel
theorem dX4_many_1 : decode cX4_many 1 = .ok (.istore_n 1, 1) := by decide +kernel
theorem dX4_many_2 : decode cX4_many 2 = .ok (.iload_n 0, 1) := by decide +kernel
theorem dX4_many_3 : decode cX4_many 3 = .ok (.istore_n 2, 1) := by decide +kernel
theorem dX4_many_4 : decode cX4_many 4 = .ok (.iload_n 2, 1) := by decide +kernel
theorem dX4_many_5 : decode cX4_many 5 = .ok (.ifCond .eq 15, 3) := by decide +kernel
theorem dX4_many_8 : decode cX4_many 8 = .ok (.iinc 1 1, 3) := by decide +kernel
theorem dX4_many_11 : decode cX4_many 11 = .ok (.iload_n 2, 1) := by decide +kernel
theorem dX4_many_12 : decode cX4_many 12 = .ok (.iload_n 2, 1) := by decide +kernel
theorem dX4_many_13 : decode cX4_many 13 = .ok (.iconst 1, 1) := by decide +kernel
theorem dX4_many_14 : decode cX4_many 14 = .ok (.isub, 1) := by decide +kernel
theorem dX4_many_15 : decode cX4_many 15 = .ok (.iand, 1) := by decide +kernel
theorem dX4_many_16 : decode cX4_many 16 = .ok (.istore_n 2, 1) := by decide +kernel
theorem dX4_many_17 : decode cX4_many 17 = .ok (.goto (-13), 3) := by decide +kernel
theorem dX4_many_20 : decode cX4_many 20 = .ok (.iload_n 1, 1) := by decide +kernel
theorem dX4_many_21 : decode cX4_many 21 = .ok (.ireturn, 1) := by decide +kernel
theorem dX4_beasts_0 : decode cX4_beasts 0 = .ok (.iload_n 1, 1) := by decide +kernel
theorem dX4_beasts_1 : decode cX4_beasts 1 = .ok (.invokestatic 52, 3) := by decide +kernel
theorem dX4_beasts_4 : decode cX4_beasts 4 = .ok (.ifCond .eq 26, 3) := by decide +kernel
theorem dX4_beasts_7 : decode cX4_beasts 7 = .ok (.iload_n 2, 1) := by decide +kernel
theorem dX4_beasts_8 : decode cX4_beasts 8 = .ok (.i2l, 1) := by decide +kernel
theorem dX4_beasts_9 : decode cX4_beasts 9 = .ok (.lconst 0, 1) := by decide +kernel
theorem dX4_beasts_10 : decode cX4_beasts 10 = .ok (.ldc2_w 56, 3) := by decide +kernel
theorem dX4_beasts_13 : decode cX4_beasts 13 = .ok (.invokestatic 43, 3) := by decide +kernel
theorem dX4_beasts_16 : decode cX4_beasts 16 = .ok (.ifCond .eq 14, 3) := by decide +kernel
theorem dX4_beasts_19 : decode cX4_beasts 19 = .ok (.aload_n 0, 1) := by decide +kernel
theorem dX4_beasts_20 : decode cX4_beasts 20 = .ok (.iconst 4, 1) := by decide +kernel
theorem dX4_beasts_21 : decode cX4_beasts 21 = .ok (.iload_n 1, 1) := by decide +kernel
theorem dX4_beasts_22 : decode cX4_beasts 22 = .ok (.iadd, 1) := by decide +kernel
theorem dX4_beasts_23 : decode cX4_beasts 23 = .ok (.iload_n 2, 1) := by decide +kernel
theorem dX4_beasts_24 : decode cX4_beasts 24 = .ok (.invokevirtual 58, 3) := by decide +kernel
theorem dX4_beasts_27 : decode cX4_beasts 27 = .ok (.goto 9, 3) := by decide +kernel
theorem dX4_beasts_30 : decode cX4_beasts 30 = .ok (.aload_n 0, 1) := by decide +kernel
theorem dX4_beasts_31 : decode cX4_beasts 31 = .ok (.ldc 40, 2) := by decide +kernel
theorem dX4_beasts_33 : decode cX4_beasts 33 = .ok (.invokevirtual 48, 3) := by decide +kernel
theorem dX4_beasts_36 : decode cX4_beasts 36 = .ok (.ireturn, 1) := by decide +kernel
theorem dX4_there_0 : decode cX4_there 0 = .ok (.iconst 0, 1) := by decide +kernel
theorem dX4_there_1 : decode cX4_there 1 = .ok (.istore_n 2, 1) := by decide +kernel
theorem dX4_there_2 : decode cX4_there 2 = .ok (.iconst 0, 1) := by decide +kernel
theorem dX4_there_3 : decode cX4_there 3 = .ok (.istore_n 3, 1) := by decide +kernel
theorem dX4_there_4 : decode cX4_there 4 = .ok (.iload_n 3, 1) := by decide +kernel
theorem dX4_there_5 : decode cX4_there 5 = .ok (.aload_n 0, 1) := by decide +kernel
theorem dX4_there_6 : decode cX4_there 6 = .ok (.getfield 7, 3) := by decide +kernel
theorem dX4_there_9 : decode cX4_there 9 = .ok (.iconst 0, 1) := by decide +kernel
theorem dX4_there_10 : decode cX4_there 10 = .ok (.iaload, 1) := by decide +kernel
theorem dX4_there_11 : decode cX4_there 11 = .ok (.if_icmp .ge 29, 3) := by decide +kernel
theorem dX4_there_14 : decode cX4_there 14 = .ok (.iload_n 2, 1) := by decide +kernel
theorem dX4_there_15 : decode cX4_there 15 = .ok (.aload_n 0, 1) := by decide +kernel
theorem dX4_there_16 : decode cX4_there 16 = .ok (.iload_n 3, 1) := by decide +kernel
theorem dX4_there_17 : decode cX4_there 17 = .ok (.iconst 1, 1) := by decide +kernel
theorem dX4_there_18 : decode cX4_there 18 = .ok (.invokevirtual 62, 3) := by decide +kernel
theorem dX4_there_21 : decode cX4_there 21 = .ok (.iload_n 1, 1) := by decide +kernel
theorem dX4_there_22 : decode cX4_there 22 = .ok (.if_icmp .ne 9, 3) := by decide +kernel
theorem dX4_there_25 : decode cX4_there 25 = .ok (.iconst 1, 1) := by decide +kernel
theorem dX4_there_26 : decode cX4_there 26 = .ok (.iload_n 3, 1) := by decide +kernel
theorem dX4_there_27 : decode cX4_there 27 = .ok (.ishl, 1) := by decide +kernel
theorem dX4_there_28 : decode cX4_there 28 = .ok (.goto 4, 3) := by decide +kernel
theorem dX4_there_31 : decode cX4_there 31 = .ok (.iconst 0, 1) := by decide +kernel
theorem dX4_there_32 : decode cX4_there 32 = .ok (.ior, 1) := by decide +kernel
theorem dX4_there_33 : decode cX4_there 33 = .ok (.istore_n 2, 1) := by decide +kernel
theorem dX4_there_34 : decode cX4_there 34 = .ok (.iinc 3 1, 3) := by decide +kernel
theorem dX4_there_37 : decode cX4_there 37 = .ok (.goto (-33), 3) := by decide +kernel
theorem dX4_there_40 : decode cX4_there 40 = .ok (.iload_n 2, 1) := by decide +kernel
theorem dX4_there_41 : decode cX4_there 41 = .ok (.ireturn, 1) := by decide +kernel
theorem dX4_field_0 : decode cX4_field 0 = .ok (.iload_n 1, 1) := by decide +kernel
theorem dX4_field_1 : decode cX4_field 1 = .ok (.invokestatic 52, 3) := by decide +kernel
theorem dX4_field_4 : decode cX4_field 4 = .ok (.ifCond .eq 13, 3) := by decide +kernel
theorem dX4_field_7 : decode cX4_field 7 = .ok (.iload_n 2, 1) := by decide +kernel
theorem dX4_field_8 : decode cX4_field 8 = .ok (.i2l, 1) := by decide +kernel
theorem dX4_field_9 : decode cX4_field 9 = .ok (.lconst 0, 1) := by decide +kernel
theorem dX4_field_10 : decode cX4_field 10 = .ok (.lconst 1, 1) := by decide +kernel
theorem dX4_field_11 : decode cX4_field 11 = .ok (.invokestatic 43, 3) := by decide +kernel
theorem dX4_field_14 : decode cX4_field 14 = .ok (.ifCond .ne 10, 3) := by decide +kernel
theorem dX4_field_17 : decode cX4_field 17 = .ok (.aload_n 0, 1) := by decide +kernel
theorem dX4_field_18 : decode cX4_field 18 = .ok (.ldc 40, 2) := by decide +kernel
theorem dX4_field_20 : decode cX4_field 20 = .ok (.invokevirtual 48, 3) := by decide +kernel
theorem dX4_field_23 : decode cX4_field 23 = .ok (.ireturn, 1) := by decide +kernel
theorem dX4_field_24 : decode cX4_field 24 = .ok (.iload_n 2, 1) := by decide +kernel
theorem dX4_field_25 : decode cX4_field 25 = .ok (.ifCond .ne 14, 3) := by decide +kernel
theorem dX4_field_28 : decode cX4_field 28 = .ok (.aload_n 0, 1) := by decide +kernel
theorem dX4_field_29 : decode cX4_field 29 = .ok (.getfield 7, 3) := by decide +kernel
theorem dX4_field_32 : decode cX4_field 32 = .ok (.iconst 4, 1) := by decide +kernel
theorem dX4_field_33 : decode cX4_field 33 = .ok (.iload_n 1, 1) := by decide +kernel
theorem dX4_field_34 : decode cX4_field 34 = .ok (.iadd, 1) := by decide +kernel
theorem dX4_field_35 : decode cX4_field 35 = .ok (.iaload, 1) := by decide +kernel
theorem dX4_field_36 : decode cX4_field 36 = .ok (.goto 8, 3) := by decide +kernel
theorem dX4_field_39 : decode cX4_field 39 = .ok (.aload_n 0, 1) := by decide +kernel
theorem dX4_field_40 : decode cX4_field 40 = .ok (.iload_n 1, 1) := by decide +kernel
theorem dX4_field_41 : decode cX4_field 41 = .ok (.invokevirtual 65, 3) := by decide +kernel
theorem dX4_field_44 : decode cX4_field 44 = .ok (.ireturn, 1) := by decide +kernel
theorem dX4_gate_0 : decode cX4_gate 0 = .ok (.iload_n 1, 1) := by decide +kernel
theorem dX4_gate_1 : decode cX4_gate 1 = .ok (.invokestatic 68, 3) := by decide +kernel
theorem dX4_gate_4 : decode cX4_gate 4 = .ok (.ifCond .eq 22, 3) := by decide +kernel
theorem dX4_gate_7 : decode cX4_gate 7 = .ok (.iload_n 2, 1) := by decide +kernel
theorem dX4_gate_8 : decode cX4_gate 8 = .ok (.invokestatic 71, 3) := by decide +kernel
theorem dX4_gate_11 : decode cX4_gate 11 = .ok (.ifCond .eq 15, 3) := by decide +kernel
theorem dX4_gate_14 : decode cX4_gate 14 = .ok (.aload_n 0, 1) := by decide +kernel
theorem dX4_gate_15 : decode cX4_gate 15 = .ok (.bipush 13, 2) := by decide +kernel
theorem dX4_gate_17 : decode cX4_gate 17 = .ok (.iload_n 1, 1) := by decide +kernel
theorem dX4_gate_18 : decode cX4_gate 18 = .ok (.iadd, 1) := by decide +kernel
theorem dX4_gate_19 : decode cX4_gate 19 = .ok (.iload_n 2, 1) := by decide +kernel
theorem dX4_gate_20 : decode cX4_gate 20 = .ok (.invokevirtual 58, 3) := by decide +kernel
theorem dX4_gate_23 : decode cX4_gate 23 = .ok (.goto 9, 3) := by decide +kernel
theorem dX4_gate_26 : decode cX4_gate 26 = .ok (.aload_n 0, 1) := by decide +kernel
theorem dX4_gate_27 : decode cX4_gate 27 = .ok (.ldc 40, 2) := by decide +kernel
theorem dX4_gate_29 : decode cX4_gate 29 = .ok (.invokevirtual 48, 3) := by decide +kernel
theorem dX4_gate_32 : decode cX4_gate 32 = .ok (.ireturn, 1) := by decide +kernel
theorem dX4_stands_0 : decode cX4_stands 0 = .ok (.iload_n 1, 1) := by decide +kernel
theorem dX4_stands_1 : decode cX4_stands 1 = .ok (.invokestatic 68, 3) := by decide +kernel
theorem dX4_stands_4 : decode cX4_stands 4 = .ok (.ifCond .eq 15, 3) := by decide +kernel
theorem dX4_stands_7 : decode cX4_stands 7 = .ok (.aload_n 0, 1) := by decide +kernel
theorem dX4_stands_8 : decode cX4_stands 8 = .ok (.getfield 7, 3) := by decide +kernel
theorem dX4_stands_11 : decode cX4_stands 11 = .ok (.bipush 13, 2) := by decide +kernel
theorem dX4_stands_13 : decode cX4_stands 13 = .ok (.iload_n 1, 1) := by decide +kernel
theorem dX4_stands_14 : decode cX4_stands 14 = .ok (.iadd, 1) := by decide +kernel
theorem dX4_stands_15 : decode cX4_stands 15 = .ok (.iaload, 1) := by decide +kernel
theorem dX4_stands_16 : decode cX4_stands 16 = .ok (.goto 9, 3) := by decide +kernel
theorem dX4_stands_19 : decode cX4_stands 19 = .ok (.aload_n 0, 1) := by decide +kernel
theorem dX4_stands_20 : decode cX4_stands 20 = .ok (.ldc 40, 2) := by decide +kernel
theorem dX4_stands_22 : decode cX4_stands 22 = .ok (.invokevirtual 48, 3) := by decide +kernel
theorem dX4_stands_25 : decode cX4_stands 25 = .ok (.ireturn, 1) := by decide +kernel
theorem dX4_wind_0 : decode cX4_wind 0 = .ok (.iload_n 1, 1) := by decide +kernel
theorem dX4_wind_1 : decode cX4_wind 1 = .ok (.i2l, 1) := by decide +kernel
theorem dX4_wind_2 : decode cX4_wind 2 = .ok (.lconst 0, 1) := by decide +kernel
theorem dX4_wind_3 : decode cX4_wind 3 = .ok (.ldc2_w 74, 3) := by decide +kernel
theorem dX4_wind_6 : decode cX4_wind 6 = .ok (.invokestatic 43, 3) := by decide +kernel
theorem dX4_wind_9 : decode cX4_wind 9 = .ok (.ifCond .eq 12, 3) := by decide +kernel
theorem dX4_wind_12 : decode cX4_wind 12 = .ok (.aload_n 0, 1) := by decide +kernel
theorem dX4_wind_13 : decode cX4_wind 13 = .ok (.iconst 3, 1) := by decide +kernel
theorem dX4_wind_14 : decode cX4_wind 14 = .ok (.iload_n 1, 1) := by decide +kernel
theorem dX4_wind_15 : decode cX4_wind 15 = .ok (.invokevirtual 58, 3) := by decide +kernel
theorem dX4_wind_18 : decode cX4_wind 18 = .ok (.goto 9, 3) := by decide +kernel
theorem dX4_wind_21 : decode cX4_wind 21 = .ok (.aload_n 0, 1) := by decide +kernel
theorem dX4_wind_22 : decode cX4_wind 22 = .ok (.ldc 40, 2) := by decide +kernel
theorem dX4_wind_24 : decode cX4_wind 24 = .ok (.invokevirtual 48, 3) := by decide +kernel
theorem dX4_wind_27 : decode cX4_wind 27 = .ok (.ireturn, 1) := by decide +kernel
theorem dX4_comes_0 : decode cX4_comes 0 = .ok (.aload_n 0, 1) := by decide +kernel
theorem dX4_comes_1 : decode cX4_comes 1 = .ok (.getfield 7, 3) := by decide +kernel
theorem dX4_comes_4 : decode cX4_comes 4 = .ok (.aload_n 0, 1) := by decide +kernel
theorem dX4_comes_5 : decode cX4_comes 5 = .ok (.getfield 7, 3) := by decide +kernel
theorem dX4_comes_8 : decode cX4_comes 8 = .ok (.iconst 0, 1) := by decide +kernel
theorem dX4_comes_9 : decode cX4_comes 9 = .ok (.iaload, 1) := by decide +kernel
theorem dX4_comes_10 : decode cX4_comes 10 = .ok (.iconst 0, 1) := by decide +kernel
theorem dX4_comes_11 : decode cX4_comes 11 = .ok (.invokestatic 76, 3) := by decide +kernel
theorem dX4_comes_14 : decode cX4_comes 14 = .ok (.iload_n 1, 1) := by decide +kernel
theorem dX4_comes_15 : decode cX4_comes 15 = .ok (.iastore, 1) := by decide +kernel
theorem dX4_comes_16 : decode cX4_comes 16 = .ok (.aload_n 0, 1) := by decide +kernel
theorem dX4_comes_17 : decode cX4_comes 17 = .ok (.getfield 7, 3) := by decide +kernel
theorem dX4_comes_20 : decode cX4_comes 20 = .ok (.aload_n 0, 1) := by decide +kernel
theorem dX4_comes_21 : decode cX4_comes 21 = .ok (.getfield 7, 3) := by decide +kernel
theorem dX4_comes_24 : decode cX4_comes 24 = .ok (.iconst 0, 1) := by decide +kernel
theorem dX4_comes_25 : decode cX4_comes 25 = .ok (.iaload, 1) := by decide +kernel
theorem dX4_comes_26 : decode cX4_comes 26 = .ok (.iconst 1, 1) := by decide +kernel
theorem dX4_comes_27 : decode cX4_comes 27 = .ok (.invokestatic 76, 3) := by decide +kernel
theorem dX4_comes_30 : decode cX4_comes 30 = .ok (.iload_n 2, 1) := by decide +kernel
theorem dX4_comes_31 : decode cX4_comes 31 = .ok (.iastore, 1) := by decide +kernel
theorem dX4_comes_32 : decode cX4_comes 32 = .ok (.aload_n 0, 1) := by decide +kernel
theorem dX4_comes_33 : decode cX4_comes 33 = .ok (.getfield 7, 3) := by decide +kernel
theorem dX4_comes_36 : decode cX4_comes 36 = .ok (.aload_n 0, 1) := by decide +kernel
theorem dX4_comes_37 : decode cX4_comes 37 = .ok (.getfield 7, 3) := by decide +kernel
theorem dX4_comes_40 : decode cX4_comes 40 = .ok (.iconst 0, 1) := by decide +kernel
theorem dX4_comes_41 : decode cX4_comes 41 = .ok (.iaload, 1) := by decide +kernel
theorem dX4_comes_42 : decode cX4_comes 42 = .ok (.iconst 2, 1) := by decide +kernel
theorem dX4_comes_43 : decode cX4_comes 43 = .ok (.invokestatic 76, 3) := by decide +kernel
theorem dX4_comes_46 : decode cX4_comes 46 = .ok (.iconst 0, 1) := by decide +kernel
theorem dX4_comes_47 : decode cX4_comes 47 = .ok (.iastore, 1) := by decide +kernel
theorem dX4_comes_48 : decode cX4_comes 48 = .ok (.aload_n 0, 1) := by decide +kernel
theorem dX4_comes_49 : decode cX4_comes 49 = .ok (.getfield 7, 3) := by decide +kernel
theorem dX4_comes_52 : decode cX4_comes 52 = .ok (.aload_n 0, 1) := by decide +kernel
theorem dX4_comes_53 : decode cX4_comes 53 = .ok (.getfield 7, 3) := by decide +kernel
theorem dX4_comes_56 : decode cX4_comes 56 = .ok (.iconst 0, 1) := by decide +kernel
theorem dX4_comes_57 : decode cX4_comes 57 = .ok (.iaload, 1) := by decide +kernel
theorem dX4_comes_58 : decode cX4_comes 58 = .ok (.iconst 3, 1) := by decide +kernel
theorem dX4_comes_59 : decode cX4_comes 59 = .ok (.invokestatic 76, 3) := by decide +kernel
theorem dX4_comes_62 : decode cX4_comes 62 = .ok (.iconst 3, 1) := by decide +kernel
theorem dX4_comes_63 : decode cX4_comes 63 = .ok (.iastore, 1) := by decide +kernel
theorem dX4_comes_64 : decode cX4_comes 64 = .ok (.aload_n 0, 1) := by decide +kernel
theorem dX4_comes_65 : decode cX4_comes 65 = .ok (.getfield 7, 3) := by decide +kernel
theorem dX4_comes_68 : decode cX4_comes 68 = .ok (.aload_n 0, 1) := by decide +kernel
theorem dX4_comes_69 : decode cX4_comes 69 = .ok (.getfield 7, 3) := by decide +kernel
theorem dX4_comes_72 : decode cX4_comes 72 = .ok (.iconst 0, 1) := by decide +kernel
theorem dX4_comes_73 : decode cX4_comes 73 = .ok (.iaload, 1) := by decide +kernel
theorem dX4_comes_74 : decode cX4_comes 74 = .ok (.iconst 4, 1) := by decide +kernel
theorem dX4_comes_75 : decode cX4_comes 75 = .ok (.invokestatic 76, 3) := by decide +kernel
theorem dX4_comes_78 : decode cX4_comes 78 = .ok (.iconst 0, 1) := by decide +kernel
theorem dX4_comes_79 : decode cX4_comes 79 = .ok (.iastore, 1) := by decide +kernel
theorem dX4_comes_80 : decode cX4_comes 80 = .ok (.aload_n 0, 1) := by decide +kernel
theorem dX4_comes_81 : decode cX4_comes 81 = .ok (.getfield 7, 3) := by decide +kernel
theorem dX4_comes_84 : decode cX4_comes 84 = .ok (.iconst 0, 1) := by decide +kernel
theorem dX4_comes_85 : decode cX4_comes 85 = .ok (.dup2, 1) := by decide +kernel
theorem dX4_comes_86 : decode cX4_comes 86 = .ok (.iaload, 1) := by decide +kernel
theorem dX4_comes_87 : decode cX4_comes 87 = .ok (.iconst 1, 1) := by decide +kernel
theorem dX4_comes_88 : decode cX4_comes 88 = .ok (.iadd, 1) := by decide +kernel
theorem dX4_comes_89 : decode cX4_comes 89 = .ok (.iastore, 1) := by decide +kernel
theorem dX4_comes_90 : decode cX4_comes 90 = .ok (.return_, 1) := by decide +kernel
theorem dX4_walker_0 : decode cX4_walker 0 = .ok (.iload_n 1, 1) := by decide +kernel
theorem dX4_walker_1 : decode cX4_walker 1 = .ok (.i2l, 1) := by decide +kernel
theorem dX4_walker_2 : decode cX4_walker 2 = .ok (.lconst 0, 1) := by decide +kernel
theorem dX4_walker_3 : decode cX4_walker 3 = .ok (.ldc2_w 79, 3) := by decide +kernel
theorem dX4_walker_6 : decode cX4_walker 6 = .ok (.invokestatic 43, 3) := by decide +kernel
theorem dX4_walker_9 : decode cX4_walker 9 = .ok (.ifCond .eq 10, 3) := by decide +kernel
theorem dX4_walker_12 : decode cX4_walker 12 = .ok (.iload_n 2, 1) := by decide +kernel
theorem dX4_walker_13 : decode cX4_walker 13 = .ok (.invokestatic 52, 3) := by decide +kernel
theorem dX4_walker_16 : decode cX4_walker 16 = .ok (.ifCond .ne 10, 3) := by decide +kernel
theorem dX4_walker_19 : decode cX4_walker 19 = .ok (.aload_n 0, 1) := by decide +kernel
theorem dX4_walker_20 : decode cX4_walker 20 = .ok (.ldc 40, 2) := by decide +kernel
theorem dX4_walker_22 : decode cX4_walker 22 = .ok (.invokevirtual 48, 3) := by decide +kernel
theorem dX4_walker_25 : decode cX4_walker 25 = .ok (.ireturn, 1) := by decide +kernel
theorem dX4_walker_26 : decode cX4_walker 26 = .ok (.aload_n 0, 1) := by decide +kernel
theorem dX4_walker_27 : decode cX4_walker 27 = .ok (.getfield 7, 3) := by decide +kernel
theorem dX4_walker_30 : decode cX4_walker 30 = .ok (.iconst 0, 1) := by decide +kernel
theorem dX4_walker_31 : decode cX4_walker 31 = .ok (.iaload, 1) := by decide +kernel
theorem dX4_walker_32 : decode cX4_walker 32 = .ok (.bipush 8, 2) := by decide +kernel
theorem dX4_walker_34 : decode cX4_walker 34 = .ok (.if_icmp .ne 10, 3) := by decide +kernel
theorem dX4_walker_37 : decode cX4_walker 37 = .ok (.aload_n 0, 1) := by decide +kernel
theorem dX4_walker_38 : decode cX4_walker 38 = .ok (.ldc 81, 2) := by decide +kernel
theorem dX4_walker_40 : decode cX4_walker 40 = .ok (.invokevirtual 48, 3) := by decide +kernel
theorem dX4_walker_43 : decode cX4_walker 43 = .ok (.ireturn, 1) := by decide +kernel
theorem dX4_walker_44 : decode cX4_walker 44 = .ok (.aload_n 0, 1) := by decide +kernel
theorem dX4_walker_45 : decode cX4_walker 45 = .ok (.iload_n 1, 1) := by decide +kernel
theorem dX4_walker_46 : decode cX4_walker 46 = .ok (.iload_n 2, 1) := by decide +kernel
theorem dX4_walker_47 : decode cX4_walker 47 = .ok (.invokevirtual 82, 3) := by decide +kernel
theorem dX4_walker_50 : decode cX4_walker 50 = .ok (.aload_n 0, 1) := by decide +kernel
theorem dX4_walker_51 : decode cX4_walker 51 = .ok (.getfield 7, 3) := by decide +kernel
theorem dX4_walker_54 : decode cX4_walker 54 = .ok (.iconst 0, 1) := by decide +kernel
theorem dX4_walker_55 : decode cX4_walker 55 = .ok (.iaload, 1) := by decide +kernel
theorem dX4_walker_56 : decode cX4_walker 56 = .ok (.iconst 1, 1) := by decide +kernel
theorem dX4_walker_57 : decode cX4_walker 57 = .ok (.isub, 1) := by decide +kernel
theorem dX4_walker_58 : decode cX4_walker 58 = .ok (.ireturn, 1) := by decide +kernel
theorem dX4_leavesIt_0 : decode cX4_leavesIt 0 = .ok (.aload_n 0, 1) := by decide +kernel
theorem dX4_leavesIt_1 : decode cX4_leavesIt 1 = .ok (.getfield 7, 3) := by decide +kernel
theorem dX4_leavesIt_4 : decode cX4_leavesIt 4 = .ok (.iconst 3, 1) := by decide +kernel
theorem dX4_leavesIt_5 : decode cX4_leavesIt 5 = .ok (.iaload, 1) := by decide +kernel
theorem dX4_leavesIt_6 : decode cX4_leavesIt 6 = .ok (.iconst 5, 1) := by decide +kernel
theorem dX4_leavesIt_7 : decode cX4_leavesIt 7 = .ok (.if_icmp .lt 7, 3) := by decide +kernel
theorem dX4_leavesIt_10 : decode cX4_leavesIt 10 = .ok (.iconst 0, 1) := by decide +kernel
theorem dX4_leavesIt_11 : decode cX4_leavesIt 11 = .ok (.goto 4, 3) := by decide +kernel
theorem dX4_leavesIt_14 : decode cX4_leavesIt 14 = .ok (.iload_n 2, 1) := by decide +kernel
theorem dX4_leavesIt_15 : decode cX4_leavesIt 15 = .ok (.istore_n 3, 1) := by decide +kernel
theorem dX4_leavesIt_16 : decode cX4_leavesIt 16 = .ok (.iload_n 3, 1) := by decide +kernel
theorem dX4_leavesIt_17 : decode cX4_leavesIt 17 = .ok (.iconst 1, 1) := by decide +kernel
theorem dX4_leavesIt_18 : decode cX4_leavesIt 18 = .ok (.if_icmp .ne 7, 3) := by decide +kernel
theorem dX4_leavesIt_21 : decode cX4_leavesIt 21 = .ok (.iconst 2, 1) := by decide +kernel
theorem dX4_leavesIt_22 : decode cX4_leavesIt 22 = .ok (.goto 4, 3) := by decide +kernel
theorem dX4_leavesIt_25 : decode cX4_leavesIt 25 = .ok (.iload_n 3, 1) := by decide +kernel
theorem dX4_leavesIt_26 : decode cX4_leavesIt 26 = .ok (.istore 4, 2) := by decide +kernel
theorem dX4_leavesIt_28 : decode cX4_leavesIt 28 = .ok (.iload 4, 2) := by decide +kernel
theorem dX4_leavesIt_30 : decode cX4_leavesIt 30 = .ok (.aload_n 0, 1) := by decide +kernel
theorem dX4_leavesIt_31 : decode cX4_leavesIt 31 = .ok (.iload_n 1, 1) := by decide +kernel
theorem dX4_leavesIt_32 : decode cX4_leavesIt 32 = .ok (.iconst 3, 1) := by decide +kernel
theorem dX4_leavesIt_33 : decode cX4_leavesIt 33 = .ok (.invokevirtual 62, 3) := by decide +kernel
theorem dX4_leavesIt_36 : decode cX4_leavesIt 36 = .ok (.iadd, 1) := by decide +kernel
theorem dX4_leavesIt_37 : decode cX4_leavesIt 37 = .ok (.iconst 4, 1) := by decide +kernel
theorem dX4_leavesIt_38 : decode cX4_leavesIt 38 = .ok (.irem, 1) := by decide +kernel
theorem dX4_leavesIt_39 : decode cX4_leavesIt 39 = .ok (.istore 5, 2) := by decide +kernel
theorem dX4_leavesIt_41 : decode cX4_leavesIt 41 = .ok (.aload_n 0, 1) := by decide +kernel
theorem dX4_leavesIt_42 : decode cX4_leavesIt 42 = .ok (.iload_n 1, 1) := by decide +kernel
theorem dX4_leavesIt_43 : decode cX4_leavesIt 43 = .ok (.iconst 0, 1) := by decide +kernel
theorem dX4_leavesIt_44 : decode cX4_leavesIt 44 = .ok (.invokevirtual 62, 3) := by decide +kernel
theorem dX4_leavesIt_47 : decode cX4_leavesIt 47 = .ok (.tableswitch 62 1 6 #[37, 39, 42, 45, 50, 52], 37) := by decide +kernel
theorem dX4_leavesIt_84 : decode cX4_leavesIt 84 = .ok (.iconst 3, 1) := by decide +kernel
theorem dX4_leavesIt_85 : decode cX4_leavesIt 85 = .ok (.ireturn, 1) := by decide +kernel
theorem dX4_leavesIt_86 : decode cX4_leavesIt 86 = .ok (.iload 4, 2) := by decide +kernel
theorem dX4_leavesIt_88 : decode cX4_leavesIt 88 = .ok (.ireturn, 1) := by decide +kernel
theorem dX4_leavesIt_89 : decode cX4_leavesIt 89 = .ok (.iload 5, 2) := by decide +kernel
theorem dX4_leavesIt_91 : decode cX4_leavesIt 91 = .ok (.ireturn, 1) := by decide +kernel
theorem dX4_leavesIt_92 : decode cX4_leavesIt 92 = .ok (.iconst 3, 1) := by decide +kernel
theorem dX4_leavesIt_93 : decode cX4_leavesIt 93 = .ok (.iload 5, 2) := by decide +kernel
theorem dX4_leavesIt_95 : decode cX4_leavesIt 95 = .ok (.isub, 1) := by decide +kernel
theorem dX4_leavesIt_96 : decode cX4_leavesIt 96 = .ok (.ireturn, 1) := by decide +kernel
theorem dX4_leavesIt_97 : decode cX4_leavesIt 97 = .ok (.iconst 0, 1) := by decide +kernel
theorem dX4_leavesIt_98 : decode cX4_leavesIt 98 = .ok (.ireturn, 1) := by decide +kernel
theorem dX4_leavesIt_99 : decode cX4_leavesIt 99 = .ok (.iload_n 2, 1) := by decide +kernel
theorem dX4_leavesIt_100 : decode cX4_leavesIt 100 = .ok (.ifCond .ne 7, 3) := by decide +kernel
theorem dX4_leavesIt_103 : decode cX4_leavesIt 103 = .ok (.iconst 1, 1) := by decide +kernel
theorem dX4_leavesIt_104 : decode cX4_leavesIt 104 = .ok (.goto 4, 3) := by decide +kernel
theorem dX4_leavesIt_107 : decode cX4_leavesIt 107 = .ok (.iconst 3, 1) := by decide +kernel
theorem dX4_leavesIt_108 : decode cX4_leavesIt 108 = .ok (.ireturn, 1) := by decide +kernel
theorem dX4_leavesIt_109 : decode cX4_leavesIt 109 = .ok (.iload_n 3, 1) := by decide +kernel
theorem dX4_leavesIt_110 : decode cX4_leavesIt 110 = .ok (.ireturn, 1) := by decide +kernel
theorem dX4_feels_0 : decode cX4_feels 0 = .ok (.aload_n 0, 1) := by decide +kernel
theorem dX4_feels_1 : decode cX4_feels 1 = .ok (.iload_n 1, 1) := by decide +kernel
theorem dX4_feels_2 : decode cX4_feels 2 = .ok (.iconst 3, 1) := by decide +kernel
theorem dX4_feels_3 : decode cX4_feels 3 = .ok (.invokevirtual 62, 3) := by decide +kernel
theorem dX4_feels_6 : decode cX4_feels 6 = .ok (.istore_n 3, 1) := by decide +kernel
theorem dX4_feels_7 : decode cX4_feels 7 = .ok (.bipush 9, 2) := by decide +kernel
theorem dX4_feels_9 : decode cX4_feels 9 = .ok (.iload_n 3, 1) := by decide +kernel
theorem dX4_feels_10 : decode cX4_feels 10 = .ok (.iload_n 2, 1) := by decide +kernel
theorem dX4_feels_11 : decode cX4_feels 11 = .ok (.iadd, 1) := by decide +kernel
theorem dX4_feels_12 : decode cX4_feels 12 = .ok (.invokestatic 86, 3) := by decide +kernel
theorem dX4_feels_15 : decode cX4_feels 15 = .ok (.istore 4, 2) := by decide +kernel
theorem dX4_feels_17 : decode cX4_feels 17 = .ok (.bipush 9, 2) := by decide +kernel
theorem dX4_feels_19 : decode cX4_feels 19 = .ok (.iload 4, 2) := by decide +kernel
theorem dX4_feels_21 : decode cX4_feels 21 = .ok (.iconst 1, 1) := by decide +kernel
theorem dX4_feels_22 : decode cX4_feels 22 = .ok (.iadd, 1) := by decide +kernel
theorem dX4_feels_23 : decode cX4_feels 23 = .ok (.invokestatic 86, 3) := by decide +kernel
theorem dX4_feels_26 : decode cX4_feels 26 = .ok (.istore 5, 2) := by decide +kernel
theorem dX4_feels_28 : decode cX4_feels 28 = .ok (.aload_n 0, 1) := by decide +kernel
theorem dX4_feels_29 : decode cX4_feels 29 = .ok (.iload_n 1, 1) := by decide +kernel
theorem dX4_feels_30 : decode cX4_feels 30 = .ok (.iconst 0, 1) := by decide +kernel
theorem dX4_feels_31 : decode cX4_feels 31 = .ok (.invokevirtual 62, 3) := by decide +kernel
theorem dX4_feels_34 : decode cX4_feels 34 = .ok (.tableswitch 69 1 6 #[38, 41, 44, 47, 52, 64], 38) := by decide +kernel
theorem dX4_feels_72 : decode cX4_feels 72 = .ok (.bipush 9, 2) := by decide +kernel
theorem dX4_feels_74 : decode cX4_feels 74 = .ok (.ireturn, 1) := by decide +kernel
theorem dX4_feels_75 : decode cX4_feels 75 = .ok (.iload 4, 2) := by decide +kernel
theorem dX4_feels_77 : decode cX4_feels 77 = .ok (.ireturn, 1) := by decide +kernel
theorem dX4_feels_78 : decode cX4_feels 78 = .ok (.iload 5, 2) := by decide +kernel
theorem dX4_feels_80 : decode cX4_feels 80 = .ok (.ireturn, 1) := by decide +kernel
theorem dX4_feels_81 : decode cX4_feels 81 = .ok (.iload 5, 2) := by decide +kernel
theorem dX4_feels_83 : decode cX4_feels 83 = .ok (.iconst 2, 1) := by decide +kernel
theorem dX4_feels_84 : decode cX4_feels 84 = .ok (.idiv, 1) := by decide +kernel
theorem dX4_feels_85 : decode cX4_feels 85 = .ok (.ireturn, 1) := by decide +kernel
theorem dX4_feels_86 : decode cX4_feels 86 = .ok (.iload_n 3, 1) := by decide +kernel
theorem dX4_feels_87 : decode cX4_feels 87 = .ok (.ifCond .ne 7, 3) := by decide +kernel
theorem dX4_feels_90 : decode cX4_feels 90 = .ok (.iconst 0, 1) := by decide +kernel
theorem dX4_feels_91 : decode cX4_feels 91 = .ok (.goto 6, 3) := by decide +kernel
theorem dX4_feels_94 : decode cX4_feels 94 = .ok (.iload_n 3, 1) := by decide +kernel
theorem dX4_feels_95 : decode cX4_feels 95 = .ok (.iconst 1, 1) := by decide +kernel
theorem dX4_feels_96 : decode cX4_feels 96 = .ok (.isub, 1) := by decide +kernel
theorem dX4_feels_97 : decode cX4_feels 97 = .ok (.ireturn, 1) := by decide +kernel
theorem dX4_feels_98 : decode cX4_feels 98 = .ok (.bipush 9, 2) := by decide +kernel
theorem dX4_feels_100 : decode cX4_feels 100 = .ok (.iload_n 2, 1) := by decide +kernel
theorem dX4_feels_101 : decode cX4_feels 101 = .ok (.isub, 1) := by decide +kernel
theorem dX4_feels_102 : decode cX4_feels 102 = .ok (.ireturn, 1) := by decide +kernel
theorem dX4_feels_103 : decode cX4_feels 103 = .ok (.iload_n 3, 1) := by decide +kernel
theorem dX4_feels_104 : decode cX4_feels 104 = .ok (.ireturn, 1) := by decide +kernel
theorem dX4_goesFar_0 : decode cX4_goesFar 0 = .ok (.aload_n 0, 1) := by decide +kernel
theorem dX4_goesFar_1 : decode cX4_goesFar 1 = .ok (.iload_n 1, 1) := by decide +kernel
theorem dX4_goesFar_2 : decode cX4_goesFar 2 = .ok (.iconst 3, 1) := by decide +kernel
theorem dX4_goesFar_3 : decode cX4_goesFar 3 = .ok (.invokevirtual 62, 3) := by decide +kernel
theorem dX4_goesFar_6 : decode cX4_goesFar 6 = .ok (.iconst 5, 1) := by decide +kernel
theorem dX4_goesFar_7 : decode cX4_goesFar 7 = .ok (.if_icmp .lt 7, 3) := by decide +kernel
theorem dX4_goesFar_10 : decode cX4_goesFar 10 = .ok (.iconst 3, 1) := by decide +kernel
theorem dX4_goesFar_11 : decode cX4_goesFar 11 = .ok (.goto 4, 3) := by decide +kernel
theorem dX4_goesFar_14 : decode cX4_goesFar 14 = .ok (.iconst 1, 1) := by decide +kernel
theorem dX4_goesFar_15 : decode cX4_goesFar 15 = .ok (.istore_n 2, 1) := by decide +kernel
theorem dX4_goesFar_16 : decode cX4_goesFar 16 = .ok (.aload_n 0, 1) := by decide +kernel
theorem dX4_goesFar_17 : decode cX4_goesFar 17 = .ok (.iload_n 1, 1) := by decide +kernel
theorem dX4_goesFar_18 : decode cX4_goesFar 18 = .ok (.iconst 0, 1) := by decide +kernel
theorem dX4_goesFar_19 : decode cX4_goesFar 19 = .ok (.invokevirtual 62, 3) := by decide +kernel
theorem dX4_goesFar_22 : decode cX4_goesFar 22 = .ok (.tableswitch 46 1 6 #[38, 40, 42, 42, 46, 38], 38) := by decide +kernel
theorem dX4_goesFar_60 : decode cX4_goesFar 60 = .ok (.iconst 2, 1) := by decide +kernel
theorem dX4_goesFar_61 : decode cX4_goesFar 61 = .ok (.ireturn, 1) := by decide +kernel
theorem dX4_goesFar_62 : decode cX4_goesFar 62 = .ok (.iload_n 2, 1) := by decide +kernel
theorem dX4_goesFar_63 : decode cX4_goesFar 63 = .ok (.ireturn, 1) := by decide +kernel
theorem dX4_goesFar_64 : decode cX4_goesFar 64 = .ok (.iload_n 2, 1) := by decide +kernel
theorem dX4_goesFar_65 : decode cX4_goesFar 65 = .ok (.iconst 1, 1) := by decide +kernel
theorem dX4_goesFar_66 : decode cX4_goesFar 66 = .ok (.isub, 1) := by decide +kernel
theorem dX4_goesFar_67 : decode cX4_goesFar 67 = .ok (.ireturn, 1) := by decide +kernel
theorem dX4_goesFar_68 : decode cX4_goesFar 68 = .ok (.iconst 1, 1) := by decide +kernel
theorem dX4_goesFar_69 : decode cX4_goesFar 69 = .ok (.ireturn, 1) := by decide +kernel
theorem dX4_of_0 : decode cX4_of 0 = .ok (.aload_n 0, 1) := by decide +kernel
theorem dX4_of_1 : decode cX4_of 1 = .ok (.iload_n 1, 1) := by decide +kernel
theorem dX4_of_2 : decode cX4_of 2 = .ok (.invokevirtual 89, 3) := by decide +kernel
theorem dX4_of_5 : decode cX4_of 5 = .ok (.ifCond .eq 15, 3) := by decide +kernel
theorem dX4_of_8 : decode cX4_of 8 = .ok (.iload_n 2, 1) := by decide +kernel
theorem dX4_of_9 : decode cX4_of 9 = .ok (.i2l, 1) := by decide +kernel
theorem dX4_of_10 : decode cX4_of 10 = .ok (.lconst 0, 1) := by decide +kernel
theorem dX4_of_11 : decode cX4_of 11 = .ok (.ldc2_w 92, 3) := by decide +kernel
theorem dX4_of_14 : decode cX4_of 14 = .ok (.invokestatic 43, 3) := by decide +kernel
theorem dX4_of_17 : decode cX4_of 17 = .ok (.ifCond .ne 10, 3) := by decide +kernel
theorem dX4_of_20 : decode cX4_of 20 = .ok (.aload_n 0, 1) := by decide +kernel
theorem dX4_of_21 : decode cX4_of 21 = .ok (.ldc 40, 2) := by decide +kernel
theorem dX4_of_23 : decode cX4_of 23 = .ok (.invokevirtual 48, 3) := by decide +kernel
theorem dX4_of_26 : decode cX4_of 26 = .ok (.ireturn, 1) := by decide +kernel
theorem dX4_of_27 : decode cX4_of 27 = .ok (.iload_n 2, 1) := by decide +kernel
theorem dX4_of_28 : decode cX4_of 28 = .ok (.iconst 5, 1) := by decide +kernel
theorem dX4_of_29 : decode cX4_of 29 = .ok (.if_icmp .ge 12, 3) := by decide +kernel
theorem dX4_of_32 : decode cX4_of 32 = .ok (.aload_n 0, 1) := by decide +kernel
theorem dX4_of_33 : decode cX4_of 33 = .ok (.iload_n 1, 1) := by decide +kernel
theorem dX4_of_34 : decode cX4_of 34 = .ok (.iload_n 2, 1) := by decide +kernel
theorem dX4_of_35 : decode cX4_of 35 = .ok (.invokevirtual 62, 3) := by decide +kernel
theorem dX4_of_38 : decode cX4_of 38 = .ok (.goto 8, 3) := by decide +kernel
theorem dX4_of_41 : decode cX4_of 41 = .ok (.aload_n 0, 1) := by decide +kernel
theorem dX4_of_42 : decode cX4_of 42 = .ok (.iload_n 1, 1) := by decide +kernel
theorem dX4_of_43 : decode cX4_of 43 = .ok (.invokevirtual 94, 3) := by decide +kernel
theorem dX4_of_46 : decode cX4_of 46 = .ok (.ireturn, 1) := by decide +kernel
theorem dX4_greatestOf_0 : decode cX4_greatestOf 0 = .ok (.iload_n 0, 1) := by decide +kernel
theorem dX4_greatestOf_1 : decode cX4_greatestOf 1 = .ok (.ifCond .ne 8, 3) := by decide +kernel
theorem dX4_greatestOf_4 : decode cX4_greatestOf 4 = .ok (.bipush 6, 2) := by decide +kernel
theorem dX4_greatestOf_6 : decode cX4_greatestOf 6 = .ok (.goto 35, 3) := by decide +kernel
theorem dX4_greatestOf_9 : decode cX4_greatestOf 9 = .ok (.iload_n 0, 1) := by decide +kernel
theorem dX4_greatestOf_10 : decode cX4_greatestOf 10 = .ok (.iconst 1, 1) := by decide +kernel
theorem dX4_greatestOf_11 : decode cX4_greatestOf 11 = .ok (.if_icmp .ne 8, 3) := by decide +kernel
theorem dX4_greatestOf_14 : decode cX4_greatestOf 14 = .ok (.bipush 8, 2) := by decide +kernel
theorem dX4_greatestOf_16 : decode cX4_greatestOf 16 = .ok (.goto 25, 3) := by decide +kernel
theorem dX4_greatestOf_19 : decode cX4_greatestOf 19 = .ok (.iload_n 0, 1) := by decide +kernel
theorem dX4_greatestOf_20 : decode cX4_greatestOf 20 = .ok (.iconst 2, 1) := by decide +kernel
theorem dX4_greatestOf_21 : decode cX4_greatestOf 21 = .ok (.if_icmp .ne 7, 3) := by decide +kernel
theorem dX4_greatestOf_24 : decode cX4_greatestOf 24 = .ok (.iconst 1, 1) := by decide +kernel
theorem dX4_greatestOf_25 : decode cX4_greatestOf 25 = .ok (.goto 16, 3) := by decide +kernel
theorem dX4_greatestOf_28 : decode cX4_greatestOf 28 = .ok (.iload_n 0, 1) := by decide +kernel
theorem dX4_greatestOf_29 : decode cX4_greatestOf 29 = .ok (.iconst 3, 1) := by decide +kernel
theorem dX4_greatestOf_30 : decode cX4_greatestOf 30 = .ok (.if_icmp .ne 8, 3) := by decide +kernel
theorem dX4_greatestOf_33 : decode cX4_greatestOf 33 = .ok (.bipush 9, 2) := by decide +kernel
theorem dX4_greatestOf_35 : decode cX4_greatestOf 35 = .ok (.goto 6, 3) := by decide +kernel
theorem dX4_greatestOf_38 : decode cX4_greatestOf 38 = .ok (.sipush 9999, 3) := by decide +kernel
theorem dX4_greatestOf_41 : decode cX4_greatestOf 41 = .ok (.ireturn, 1) := by decide +kernel
theorem dX4_change_0 : decode cX4_change 0 = .ok (.aload_n 0, 1) := by decide +kernel
theorem dX4_change_1 : decode cX4_change 1 = .ok (.iload_n 1, 1) := by decide +kernel
theorem dX4_change_2 : decode cX4_change 2 = .ok (.invokevirtual 89, 3) := by decide +kernel
theorem dX4_change_5 : decode cX4_change 5 = .ok (.ifCond .eq 33, 3) := by decide +kernel
theorem dX4_change_8 : decode cX4_change 8 = .ok (.iload_n 2, 1) := by decide +kernel
theorem dX4_change_9 : decode cX4_change 9 = .ok (.i2l, 1) := by decide +kernel
theorem dX4_change_10 : decode cX4_change 10 = .ok (.lconst 0, 1) := by decide +kernel
theorem dX4_change_11 : decode cX4_change 11 = .ok (.ldc2_w 97, 3) := by decide +kernel
theorem dX4_change_14 : decode cX4_change 14 = .ok (.invokestatic 43, 3) := by decide +kernel
theorem dX4_change_17 : decode cX4_change 17 = .ok (.ifCond .eq 21, 3) := by decide +kernel
theorem dX4_change_20 : decode cX4_change 20 = .ok (.iload_n 3, 1) := by decide +kernel
theorem dX4_change_21 : decode cX4_change 21 = .ok (.i2l, 1) := by decide +kernel
theorem dX4_change_22 : decode cX4_change 22 = .ok (.lconst 0, 1) := by decide +kernel
theorem dX4_change_23 : decode cX4_change 23 = .ok (.iload_n 2, 1) := by decide +kernel
theorem dX4_change_24 : decode cX4_change 24 = .ok (.invokestatic 99, 3) := by decide +kernel
theorem dX4_change_27 : decode cX4_change 27 = .ok (.i2l, 1) := by decide +kernel
theorem dX4_change_28 : decode cX4_change 28 = .ok (.invokestatic 43, 3) := by decide +kernel
theorem dX4_change_31 : decode cX4_change 31 = .ok (.ifCond .eq 7, 3) := by decide +kernel
theorem dX4_change_34 : decode cX4_change 34 = .ok (.iconst 1, 1) := by decide +kernel
theorem dX4_change_35 : decode cX4_change 35 = .ok (.goto 4, 3) := by decide +kernel
theorem dX4_change_38 : decode cX4_change 38 = .ok (.iconst 0, 1) := by decide +kernel
theorem dX4_change_39 : decode cX4_change 39 = .ok (.istore 4, 2) := by decide +kernel
theorem dX4_change_41 : decode cX4_change 41 = .ok (.iload 4, 2) := by decide +kernel
theorem dX4_change_43 : decode cX4_change 43 = .ok (.ifCond .eq 16, 3) := by decide +kernel
theorem dX4_change_46 : decode cX4_change 46 = .ok (.aload_n 0, 1) := by decide +kernel
theorem dX4_change_47 : decode cX4_change 47 = .ok (.iload_n 1, 1) := by decide +kernel
theorem dX4_change_48 : decode cX4_change 48 = .ok (.iload_n 2, 1) := by decide +kernel
theorem dX4_change_49 : decode cX4_change 49 = .ok (.invokestatic 76, 3) := by decide +kernel
theorem dX4_change_52 : decode cX4_change 52 = .ok (.iload_n 3, 1) := by decide +kernel
theorem dX4_change_53 : decode cX4_change 53 = .ok (.invokevirtual 58, 3) := by decide +kernel
theorem dX4_change_56 : decode cX4_change 56 = .ok (.goto 9, 3) := by decide +kernel
theorem dX4_change_59 : decode cX4_change 59 = .ok (.aload_n 0, 1) := by decide +kernel
theorem dX4_change_60 : decode cX4_change 60 = .ok (.ldc 40, 2) := by decide +kernel
theorem dX4_change_62 : decode cX4_change 62 = .ok (.invokevirtual 48, 3) := by decide +kernel
theorem dX4_change_65 : decode cX4_change 65 = .ok (.ireturn, 1) := by decide +kernel
theorem dX4_leaves_0 : decode cX4_leaves 0 = .ok (.aload_n 0, 1) := by decide +kernel
theorem dX4_leaves_1 : decode cX4_leaves 1 = .ok (.iload_n 1, 1) := by decide +kernel
theorem dX4_leaves_2 : decode cX4_leaves 2 = .ok (.invokevirtual 89, 3) := by decide +kernel
theorem dX4_leaves_5 : decode cX4_leaves 5 = .ok (.ifCond .eq 20, 3) := by decide +kernel
theorem dX4_leaves_8 : decode cX4_leaves 8 = .ok (.iload_n 2, 1) := by decide +kernel
theorem dX4_leaves_9 : decode cX4_leaves 9 = .ok (.invokestatic 71, 3) := by decide +kernel
theorem dX4_leaves_12 : decode cX4_leaves 12 = .ok (.ifCond .eq 13, 3) := by decide +kernel
theorem dX4_leaves_15 : decode cX4_leaves 15 = .ok (.iload_n 3, 1) := by decide +kernel
theorem dX4_leaves_16 : decode cX4_leaves 16 = .ok (.i2l, 1) := by decide +kernel
theorem dX4_leaves_17 : decode cX4_leaves 17 = .ok (.lconst 0, 1) := by decide +kernel
theorem dX4_leaves_18 : decode cX4_leaves 18 = .ok (.lconst 1, 1) := by decide +kernel
theorem dX4_leaves_19 : decode cX4_leaves 19 = .ok (.invokestatic 43, 3) := by decide +kernel
theorem dX4_leaves_22 : decode cX4_leaves 22 = .ok (.ifCond .ne 10, 3) := by decide +kernel
theorem dX4_leaves_25 : decode cX4_leaves 25 = .ok (.aload_n 0, 1) := by decide +kernel
theorem dX4_leaves_26 : decode cX4_leaves 26 = .ok (.ldc 40, 2) := by decide +kernel
theorem dX4_leaves_28 : decode cX4_leaves 28 = .ok (.invokevirtual 48, 3) := by decide +kernel
theorem dX4_leaves_31 : decode cX4_leaves 31 = .ok (.ireturn, 1) := by decide +kernel
theorem dX4_leaves_32 : decode cX4_leaves 32 = .ok (.iload_n 3, 1) := by decide +kernel
theorem dX4_leaves_33 : decode cX4_leaves 33 = .ok (.ifCond .ne 12, 3) := by decide +kernel
theorem dX4_leaves_36 : decode cX4_leaves 36 = .ok (.aload_n 0, 1) := by decide +kernel
theorem dX4_leaves_37 : decode cX4_leaves 37 = .ok (.iload_n 1, 1) := by decide +kernel
theorem dX4_leaves_38 : decode cX4_leaves 38 = .ok (.iload_n 2, 1) := by decide +kernel
theorem dX4_leaves_39 : decode cX4_leaves 39 = .ok (.invokevirtual 102, 3) := by decide +kernel
theorem dX4_leaves_42 : decode cX4_leaves 42 = .ok (.goto 9, 3) := by decide +kernel
theorem dX4_leaves_45 : decode cX4_leaves 45 = .ok (.aload_n 0, 1) := by decide +kernel
theorem dX4_leaves_46 : decode cX4_leaves 46 = .ok (.iload_n 1, 1) := by decide +kernel
theorem dX4_leaves_47 : decode cX4_leaves 47 = .ok (.iload_n 2, 1) := by decide +kernel
theorem dX4_leaves_48 : decode cX4_leaves 48 = .ok (.invokevirtual 105, 3) := by decide +kernel
theorem dX4_leaves_51 : decode cX4_leaves 51 = .ok (.ireturn, 1) := by decide +kernel
theorem dX4_walks_0 : decode cX4_walks 0 = .ok (.aload_n 0, 1) := by decide +kernel
theorem dX4_walks_1 : decode cX4_walks 1 = .ok (.iload_n 1, 1) := by decide +kernel
theorem dX4_walks_2 : decode cX4_walks 2 = .ok (.iconst 1, 1) := by decide +kernel
theorem dX4_walks_3 : decode cX4_walks 3 = .ok (.invokevirtual 62, 3) := by decide +kernel
theorem dX4_walks_6 : decode cX4_walks 6 = .ok (.istore_n 2, 1) := by decide +kernel
theorem dX4_walks_7 : decode cX4_walks 7 = .ok (.aload_n 0, 1) := by decide +kernel
theorem dX4_walks_8 : decode cX4_walks 8 = .ok (.iload_n 1, 1) := by decide +kernel
theorem dX4_walks_9 : decode cX4_walks 9 = .ok (.iconst 2, 1) := by decide +kernel
theorem dX4_walks_10 : decode cX4_walks 10 = .ok (.invokevirtual 62, 3) := by decide +kernel
theorem dX4_walks_13 : decode cX4_walks 13 = .ok (.istore_n 3, 1) := by decide +kernel
theorem dX4_walks_14 : decode cX4_walks 14 = .ok (.iload_n 3, 1) := by decide +kernel
theorem dX4_walks_15 : decode cX4_walks 15 = .ok (.ifCond .ne 7, 3) := by decide +kernel
theorem dX4_walks_18 : decode cX4_walks 18 = .ok (.iload_n 2, 1) := by decide +kernel
theorem dX4_walks_19 : decode cX4_walks 19 = .ok (.goto 6, 3) := by decide +kernel
theorem dX4_walks_22 : decode cX4_walks 22 = .ok (.iload_n 2, 1) := by decide +kernel
theorem dX4_walks_23 : decode cX4_walks 23 = .ok (.iconst 1, 1) := by decide +kernel
theorem dX4_walks_24 : decode cX4_walks 24 = .ok (.isub, 1) := by decide +kernel
theorem dX4_walks_25 : decode cX4_walks 25 = .ok (.istore 4, 2) := by decide +kernel
theorem dX4_walks_27 : decode cX4_walks 27 = .ok (.iload 4, 2) := by decide +kernel
theorem dX4_walks_29 : decode cX4_walks 29 = .ok (.invokestatic 68, 3) := by decide +kernel
theorem dX4_walks_32 : decode cX4_walks 32 = .ok (.ifCond .ne 17, 3) := by decide +kernel
theorem dX4_walks_35 : decode cX4_walks 35 = .ok (.aload_n 0, 1) := by decide +kernel
theorem dX4_walks_36 : decode cX4_walks 36 = .ok (.getfield 7, 3) := by decide +kernel
theorem dX4_walks_39 : decode cX4_walks 39 = .ok (.iload_n 1, 1) := by decide +kernel
theorem dX4_walks_40 : decode cX4_walks 40 = .ok (.iconst 2, 1) := by decide +kernel
theorem dX4_walks_41 : decode cX4_walks 41 = .ok (.invokestatic 76, 3) := by decide +kernel
theorem dX4_walks_44 : decode cX4_walks 44 = .ok (.iconst 1, 1) := by decide +kernel
theorem dX4_walks_45 : decode cX4_walks 45 = .ok (.iload_n 3, 1) := by decide +kernel
theorem dX4_walks_46 : decode cX4_walks 46 = .ok (.isub, 1) := by decide +kernel
theorem dX4_walks_47 : decode cX4_walks 47 = .ok (.iastore, 1) := by decide +kernel
theorem dX4_walks_48 : decode cX4_walks 48 = .ok (.return_, 1) := by decide +kernel
theorem dX4_walks_49 : decode cX4_walks 49 = .ok (.aload_n 0, 1) := by decide +kernel
theorem dX4_walks_50 : decode cX4_walks 50 = .ok (.getfield 7, 3) := by decide +kernel
theorem dX4_walks_53 : decode cX4_walks 53 = .ok (.bipush 13, 2) := by decide +kernel
theorem dX4_walks_55 : decode cX4_walks 55 = .ok (.iload 4, 2) := by decide +kernel
theorem dX4_walks_57 : decode cX4_walks 57 = .ok (.iadd, 1) := by decide +kernel
theorem dX4_walks_58 : decode cX4_walks 58 = .ok (.iaload, 1) := by decide +kernel
theorem dX4_walks_59 : decode cX4_walks 59 = .ok (.istore 5, 2) := by decide +kernel
theorem dX4_walks_61 : decode cX4_walks 61 = .ok (.aload_n 0, 1) := by decide +kernel
theorem dX4_walks_62 : decode cX4_walks 62 = .ok (.iload_n 1, 1) := by decide +kernel
theorem dX4_walks_63 : decode cX4_walks 63 = .ok (.iload 5, 2) := by decide +kernel
theorem dX4_walks_65 : decode cX4_walks 65 = .ok (.invokevirtual 105, 3) := by decide +kernel
theorem dX4_walks_68 : decode cX4_walks 68 = .ok (.istore 6, 2) := by decide +kernel
theorem dX4_walks_70 : decode cX4_walks 70 = .ok (.aload_n 0, 1) := by decide +kernel
theorem dX4_walks_71 : decode cX4_walks 71 = .ok (.getfield 7, 3) := by decide +kernel
theorem dX4_walks_74 : decode cX4_walks 74 = .ok (.bipush 13, 2) := by decide +kernel
theorem dX4_walks_76 : decode cX4_walks 76 = .ok (.iload 4, 2) := by decide +kernel
theorem dX4_walks_78 : decode cX4_walks 78 = .ok (.iadd, 1) := by decide +kernel
theorem dX4_walks_79 : decode cX4_walks 79 = .ok (.aload_n 0, 1) := by decide +kernel
theorem dX4_walks_80 : decode cX4_walks 80 = .ok (.iload_n 1, 1) := by decide +kernel
theorem dX4_walks_81 : decode cX4_walks 81 = .ok (.iload 5, 2) := by decide +kernel
theorem dX4_walks_83 : decode cX4_walks 83 = .ok (.invokevirtual 102, 3) := by decide +kernel
theorem dX4_walks_86 : decode cX4_walks 86 = .ok (.iastore, 1) := by decide +kernel
theorem dX4_walks_87 : decode cX4_walks 87 = .ok (.aload_n 0, 1) := by decide +kernel
theorem dX4_walks_88 : decode cX4_walks 88 = .ok (.getfield 7, 3) := by decide +kernel
theorem dX4_walks_91 : decode cX4_walks 91 = .ok (.iload_n 1, 1) := by decide +kernel
theorem dX4_walks_92 : decode cX4_walks 92 = .ok (.iconst 3, 1) := by decide +kernel
theorem dX4_walks_93 : decode cX4_walks 93 = .ok (.invokestatic 76, 3) := by decide +kernel
theorem dX4_walks_96 : decode cX4_walks 96 = .ok (.iload 6, 2) := by decide +kernel
theorem dX4_walks_98 : decode cX4_walks 98 = .ok (.iastore, 1) := by decide +kernel
theorem dX4_walks_99 : decode cX4_walks 99 = .ok (.aload_n 0, 1) := by decide +kernel
theorem dX4_walks_100 : decode cX4_walks 100 = .ok (.getfield 7, 3) := by decide +kernel
theorem dX4_walks_103 : decode cX4_walks 103 = .ok (.iload_n 1, 1) := by decide +kernel
theorem dX4_walks_104 : decode cX4_walks 104 = .ok (.iconst 1, 1) := by decide +kernel
theorem dX4_walks_105 : decode cX4_walks 105 = .ok (.invokestatic 76, 3) := by decide +kernel
theorem dX4_walks_108 : decode cX4_walks 108 = .ok (.iload_n 3, 1) := by decide +kernel
theorem dX4_walks_109 : decode cX4_walks 109 = .ok (.ifCond .ne 9, 3) := by decide +kernel
theorem dX4_walks_112 : decode cX4_walks 112 = .ok (.iload_n 2, 1) := by decide +kernel
theorem dX4_walks_113 : decode cX4_walks 113 = .ok (.iconst 1, 1) := by decide +kernel
theorem dX4_walks_114 : decode cX4_walks 114 = .ok (.iadd, 1) := by decide +kernel
theorem dX4_walks_115 : decode cX4_walks 115 = .ok (.goto 6, 3) := by decide +kernel
theorem dX4_walks_118 : decode cX4_walks 118 = .ok (.iload_n 2, 1) := by decide +kernel
theorem dX4_walks_119 : decode cX4_walks 119 = .ok (.iconst 1, 1) := by decide +kernel
theorem dX4_walks_120 : decode cX4_walks 120 = .ok (.isub, 1) := by decide +kernel
theorem dX4_walks_121 : decode cX4_walks 121 = .ok (.iastore, 1) := by decide +kernel
theorem dX4_walks_122 : decode cX4_walks 122 = .ok (.aload_n 0, 1) := by decide +kernel
theorem dX4_walks_123 : decode cX4_walks 123 = .ok (.getfield 7, 3) := by decide +kernel
theorem dX4_walks_126 : decode cX4_walks 126 = .ok (.iload_n 1, 1) := by decide +kernel
theorem dX4_walks_127 : decode cX4_walks 127 = .ok (.iconst 4, 1) := by decide +kernel
theorem dX4_walks_128 : decode cX4_walks 128 = .ok (.invokestatic 76, 3) := by decide +kernel
theorem dX4_walks_131 : decode cX4_walks 131 = .ok (.sipush 9999, 3) := by decide +kernel
theorem dX4_walks_134 : decode cX4_walks 134 = .ok (.aload_n 0, 1) := by decide +kernel
theorem dX4_walks_135 : decode cX4_walks 135 = .ok (.iload_n 1, 1) := by decide +kernel
theorem dX4_walks_136 : decode cX4_walks 136 = .ok (.iconst 4, 1) := by decide +kernel
theorem dX4_walks_137 : decode cX4_walks 137 = .ok (.invokevirtual 62, 3) := by decide +kernel
theorem dX4_walks_140 : decode cX4_walks 140 = .ok (.iconst 1, 1) := by decide +kernel
theorem dX4_walks_141 : decode cX4_walks 141 = .ok (.iadd, 1) := by decide +kernel
theorem dX4_walks_142 : decode cX4_walks 142 = .ok (.invokestatic 86, 3) := by decide +kernel
theorem dX4_walks_145 : decode cX4_walks 145 = .ok (.iastore, 1) := by decide +kernel
theorem dX4_walks_146 : decode cX4_walks 146 = .ok (.return_, 1) := by decide +kernel
theorem dX4_wander_0 : decode cX4_wander 0 = .ok (.iconst 0, 1) := by decide +kernel
theorem dX4_wander_1 : decode cX4_wander 1 = .ok (.istore_n 1, 1) := by decide +kernel
theorem dX4_wander_2 : decode cX4_wander 2 = .ok (.iload_n 1, 1) := by decide +kernel
theorem dX4_wander_3 : decode cX4_wander 3 = .ok (.bipush 8, 2) := by decide +kernel
theorem dX4_wander_5 : decode cX4_wander 5 = .ok (.if_icmp .ge 66, 3) := by decide +kernel
theorem dX4_wander_8 : decode cX4_wander 8 = .ok (.aload_n 0, 1) := by decide +kernel
theorem dX4_wander_9 : decode cX4_wander 9 = .ok (.getfield 7, 3) := by decide +kernel
theorem dX4_wander_12 : decode cX4_wander 12 = .ok (.iconst 4, 1) := by decide +kernel
theorem dX4_wander_13 : decode cX4_wander 13 = .ok (.iload_n 1, 1) := by decide +kernel
theorem dX4_wander_14 : decode cX4_wander 14 = .ok (.iadd, 1) := by decide +kernel
theorem dX4_wander_15 : decode cX4_wander 15 = .ok (.iaload, 1) := by decide +kernel
theorem dX4_wander_16 : decode cX4_wander 16 = .ok (.aload_n 0, 1) := by decide +kernel
theorem dX4_wander_17 : decode cX4_wander 17 = .ok (.getfield 7, 3) := by decide +kernel
theorem dX4_wander_20 : decode cX4_wander 20 = .ok (.iconst 4, 1) := by decide +kernel
theorem dX4_wander_21 : decode cX4_wander 21 = .ok (.iload_n 1, 1) := by decide +kernel
theorem dX4_wander_22 : decode cX4_wander 22 = .ok (.iadd, 1) := by decide +kernel
theorem dX4_wander_23 : decode cX4_wander 23 = .ok (.iconst 1, 1) := by decide +kernel
theorem dX4_wander_24 : decode cX4_wander 24 = .ok (.iadd, 1) := by decide +kernel
theorem dX4_wander_25 : decode cX4_wander 25 = .ok (.iaload, 1) := by decide +kernel
theorem dX4_wander_26 : decode cX4_wander 26 = .ok (.isub, 1) := by decide +kernel
theorem dX4_wander_27 : decode cX4_wander 27 = .ok (.istore_n 2, 1) := by decide +kernel
theorem dX4_wander_28 : decode cX4_wander 28 = .ok (.aload_n 0, 1) := by decide +kernel
theorem dX4_wander_29 : decode cX4_wander 29 = .ok (.getfield 7, 3) := by decide +kernel
theorem dX4_wander_32 : decode cX4_wander 32 = .ok (.bipush 13, 2) := by decide +kernel
theorem dX4_wander_34 : decode cX4_wander 34 = .ok (.iload_n 1, 1) := by decide +kernel
theorem dX4_wander_35 : decode cX4_wander 35 = .ok (.iadd, 1) := by decide +kernel
theorem dX4_wander_36 : decode cX4_wander 36 = .ok (.iaload, 1) := by decide +kernel
theorem dX4_wander_37 : decode cX4_wander 37 = .ok (.istore_n 3, 1) := by decide +kernel
theorem dX4_wander_38 : decode cX4_wander 38 = .ok (.aload_n 0, 1) := by decide +kernel
theorem dX4_wander_39 : decode cX4_wander 39 = .ok (.getfield 37, 3) := by decide +kernel
theorem dX4_wander_42 : decode cX4_wander 42 = .ok (.iload_n 1, 1) := by decide +kernel
theorem dX4_wander_43 : decode cX4_wander 43 = .ok (.iload_n 3, 1) := by decide +kernel
theorem dX4_wander_44 : decode cX4_wander 44 = .ok (.ifCond .ne 7, 3) := by decide +kernel
theorem dX4_wander_47 : decode cX4_wander 47 = .ok (.iconst 0, 1) := by decide +kernel
theorem dX4_wander_48 : decode cX4_wander 48 = .ok (.goto 16, 3) := by decide +kernel
theorem dX4_wander_51 : decode cX4_wander 51 = .ok (.iload_n 2, 1) := by decide +kernel
theorem dX4_wander_52 : decode cX4_wander 52 = .ok (.iload_n 3, 1) := by decide +kernel
theorem dX4_wander_53 : decode cX4_wander 53 = .ok (.iconst 1, 1) := by decide +kernel
theorem dX4_wander_54 : decode cX4_wander 54 = .ok (.if_icmp .ne 8, 3) := by decide +kernel
theorem dX4_wander_57 : decode cX4_wander 57 = .ok (.bipush 16, 2) := by decide +kernel
theorem dX4_wander_59 : decode cX4_wander 59 = .ok (.goto 4, 3) := by decide +kernel
theorem dX4_wander_62 : decode cX4_wander 62 = .ok (.iconst 4, 1) := by decide +kernel
theorem dX4_wander_63 : decode cX4_wander 63 = .ok (.idiv, 1) := by decide +kernel
theorem dX4_wander_64 : decode cX4_wander 64 = .ok (.iastore, 1) := by decide +kernel
theorem dX4_wander_65 : decode cX4_wander 65 = .ok (.iinc 1 1, 3) := by decide +kernel
theorem dX4_wander_68 : decode cX4_wander 68 = .ok (.goto (-66), 3) := by decide +kernel
theorem dX4_wander_71 : decode cX4_wander 71 = .ok (.iconst 0, 1) := by decide +kernel
theorem dX4_wander_72 : decode cX4_wander 72 = .ok (.istore_n 1, 1) := by decide +kernel
theorem dX4_wander_73 : decode cX4_wander 73 = .ok (.iload_n 1, 1) := by decide +kernel
theorem dX4_wander_74 : decode cX4_wander 74 = .ok (.bipush 8, 2) := by decide +kernel
theorem dX4_wander_76 : decode cX4_wander 76 = .ok (.if_icmp .ge 45, 3) := by decide +kernel
theorem dX4_wander_79 : decode cX4_wander 79 = .ok (.aload_n 0, 1) := by decide +kernel
theorem dX4_wander_80 : decode cX4_wander 80 = .ok (.getfield 7, 3) := by decide +kernel
theorem dX4_wander_83 : decode cX4_wander 83 = .ok (.iconst 4, 1) := by decide +kernel
theorem dX4_wander_84 : decode cX4_wander 84 = .ok (.iload_n 1, 1) := by decide +kernel
theorem dX4_wander_85 : decode cX4_wander 85 = .ok (.iadd, 1) := by decide +kernel
theorem dX4_wander_86 : decode cX4_wander 86 = .ok (.dup2, 1) := by decide +kernel
theorem dX4_wander_87 : decode cX4_wander 87 = .ok (.iaload, 1) := by decide +kernel
theorem dX4_wander_88 : decode cX4_wander 88 = .ok (.aload_n 0, 1) := by decide +kernel
theorem dX4_wander_89 : decode cX4_wander 89 = .ok (.getfield 37, 3) := by decide +kernel
theorem dX4_wander_92 : decode cX4_wander 92 = .ok (.iload_n 1, 1) := by decide +kernel
theorem dX4_wander_93 : decode cX4_wander 93 = .ok (.iaload, 1) := by decide +kernel
theorem dX4_wander_94 : decode cX4_wander 94 = .ok (.isub, 1) := by decide +kernel
theorem dX4_wander_95 : decode cX4_wander 95 = .ok (.iastore, 1) := by decide +kernel
theorem dX4_wander_96 : decode cX4_wander 96 = .ok (.aload_n 0, 1) := by decide +kernel
theorem dX4_wander_97 : decode cX4_wander 97 = .ok (.getfield 7, 3) := by decide +kernel
theorem dX4_wander_100 : decode cX4_wander 100 = .ok (.iconst 4, 1) := by decide +kernel
theorem dX4_wander_101 : decode cX4_wander 101 = .ok (.iload_n 1, 1) := by decide +kernel
theorem dX4_wander_102 : decode cX4_wander 102 = .ok (.iadd, 1) := by decide +kernel
theorem dX4_wander_103 : decode cX4_wander 103 = .ok (.iconst 1, 1) := by decide +kernel
theorem dX4_wander_104 : decode cX4_wander 104 = .ok (.iadd, 1) := by decide +kernel
theorem dX4_wander_105 : decode cX4_wander 105 = .ok (.dup2, 1) := by decide +kernel
theorem dX4_wander_106 : decode cX4_wander 106 = .ok (.iaload, 1) := by decide +kernel
theorem dX4_wander_107 : decode cX4_wander 107 = .ok (.aload_n 0, 1) := by decide +kernel
theorem dX4_wander_108 : decode cX4_wander 108 = .ok (.getfield 37, 3) := by decide +kernel
theorem dX4_wander_111 : decode cX4_wander 111 = .ok (.iload_n 1, 1) := by decide +kernel
theorem dX4_wander_112 : decode cX4_wander 112 = .ok (.iaload, 1) := by decide +kernel
theorem dX4_wander_113 : decode cX4_wander 113 = .ok (.iadd, 1) := by decide +kernel
theorem dX4_wander_114 : decode cX4_wander 114 = .ok (.iastore, 1) := by decide +kernel
theorem dX4_wander_115 : decode cX4_wander 115 = .ok (.iinc 1 1, 3) := by decide +kernel
theorem dX4_wander_118 : decode cX4_wander 118 = .ok (.goto (-45), 3) := by decide +kernel
theorem dX4_wander_121 : decode cX4_wander 121 = .ok (.return_, 1) := by decide +kernel
theorem dX4_hourBut_0 : decode cX4_hourBut 0 = .ok (.iconst 0, 1) := by decide +kernel
theorem dX4_hourBut_1 : decode cX4_hourBut 1 = .ok (.istore_n 2, 1) := by decide +kernel
theorem dX4_hourBut_2 : decode cX4_hourBut 2 = .ok (.iload_n 2, 1) := by decide +kernel
theorem dX4_hourBut_3 : decode cX4_hourBut 3 = .ok (.aload_n 0, 1) := by decide +kernel
theorem dX4_hourBut_4 : decode cX4_hourBut 4 = .ok (.getfield 7, 3) := by decide +kernel
theorem dX4_hourBut_7 : decode cX4_hourBut 7 = .ok (.iconst 0, 1) := by decide +kernel
theorem dX4_hourBut_8 : decode cX4_hourBut 8 = .ok (.iaload, 1) := by decide +kernel
theorem dX4_hourBut_9 : decode cX4_hourBut 9 = .ok (.if_icmp .ge 48, 3) := by decide +kernel
theorem dX4_hourBut_12 : decode cX4_hourBut 12 = .ok (.iload_n 1, 1) := by decide +kernel
theorem dX4_hourBut_13 : decode cX4_hourBut 13 = .ok (.iload_n 2, 1) := by decide +kernel
theorem dX4_hourBut_14 : decode cX4_hourBut 14 = .ok (.ishr, 1) := by decide +kernel
theorem dX4_hourBut_15 : decode cX4_hourBut 15 = .ok (.iconst 1, 1) := by decide +kernel
theorem dX4_hourBut_16 : decode cX4_hourBut 16 = .ok (.iand, 1) := by decide +kernel
theorem dX4_hourBut_17 : decode cX4_hourBut 17 = .ok (.iconst 1, 1) := by decide +kernel
theorem dX4_hourBut_18 : decode cX4_hourBut 18 = .ok (.if_icmp .ne 7, 3) := by decide +kernel
theorem dX4_hourBut_21 : decode cX4_hourBut 21 = .ok (.iconst 0, 1) := by decide +kernel
theorem dX4_hourBut_22 : decode cX4_hourBut 22 = .ok (.goto 8, 3) := by decide +kernel
theorem dX4_hourBut_25 : decode cX4_hourBut 25 = .ok (.aload_n 0, 1) := by decide +kernel
theorem dX4_hourBut_26 : decode cX4_hourBut 26 = .ok (.iload_n 2, 1) := by decide +kernel
theorem dX4_hourBut_27 : decode cX4_hourBut 27 = .ok (.invokevirtual 94, 3) := by decide +kernel
theorem dX4_hourBut_30 : decode cX4_hourBut 30 = .ok (.istore_n 3, 1) := by decide +kernel
theorem dX4_hourBut_31 : decode cX4_hourBut 31 = .ok (.iconst 0, 1) := by decide +kernel
theorem dX4_hourBut_32 : decode cX4_hourBut 32 = .ok (.istore 4, 2) := by decide +kernel
theorem dX4_hourBut_34 : decode cX4_hourBut 34 = .ok (.iload 4, 2) := by decide +kernel
theorem dX4_hourBut_36 : decode cX4_hourBut 36 = .ok (.iload_n 3, 1) := by decide +kernel
theorem dX4_hourBut_37 : decode cX4_hourBut 37 = .ok (.if_icmp .ge 14, 3) := by decide +kernel
theorem dX4_hourBut_40 : decode cX4_hourBut 40 = .ok (.aload_n 0, 1) := by decide +kernel
theorem dX4_hourBut_41 : decode cX4_hourBut 41 = .ok (.iload_n 2, 1) := by decide +kernel
theorem dX4_hourBut_42 : decode cX4_hourBut 42 = .ok (.invokevirtual 108, 3) := by decide +kernel
theorem dX4_hourBut_45 : decode cX4_hourBut 45 = .ok (.iinc 4 1, 3) := by decide +kernel
theorem dX4_hourBut_48 : decode cX4_hourBut 48 = .ok (.goto (-14), 3) := by decide +kernel
theorem dX4_hourBut_51 : decode cX4_hourBut 51 = .ok (.iinc 2 1, 3) := by decide +kernel
theorem dX4_hourBut_54 : decode cX4_hourBut 54 = .ok (.goto (-52), 3) := by decide +kernel
theorem dX4_hourBut_57 : decode cX4_hourBut 57 = .ok (.aload_n 0, 1) := by decide +kernel
theorem dX4_hourBut_58 : decode cX4_hourBut 58 = .ok (.invokevirtual 112, 3) := by decide +kernel
theorem dX4_hourBut_61 : decode cX4_hourBut 61 = .ok (.iconst 0, 1) := by decide +kernel
theorem dX4_hourBut_62 : decode cX4_hourBut 62 = .ok (.istore_n 2, 1) := by decide +kernel
theorem dX4_hourBut_63 : decode cX4_hourBut 63 = .ok (.iload_n 2, 1) := by decide +kernel
theorem dX4_hourBut_64 : decode cX4_hourBut 64 = .ok (.bipush 8, 2) := by decide +kernel
theorem dX4_hourBut_66 : decode cX4_hourBut 66 = .ok (.if_icmp .ge 65, 3) := by decide +kernel
theorem dX4_hourBut_69 : decode cX4_hourBut 69 = .ok (.aload_n 0, 1) := by decide +kernel
theorem dX4_hourBut_70 : decode cX4_hourBut 70 = .ok (.getfield 7, 3) := by decide +kernel
theorem dX4_hourBut_73 : decode cX4_hourBut 73 = .ok (.iconst 3, 1) := by decide +kernel
theorem dX4_hourBut_74 : decode cX4_hourBut 74 = .ok (.iaload, 1) := by decide +kernel
theorem dX4_hourBut_75 : decode cX4_hourBut 75 = .ok (.bipush 7, 2) := by decide +kernel
theorem dX4_hourBut_77 : decode cX4_hourBut 77 = .ok (.if_icmp .lt 20, 3) := by decide +kernel
theorem dX4_hourBut_80 : decode cX4_hourBut 80 = .ok (.aload_n 0, 1) := by decide +kernel
theorem dX4_hourBut_81 : decode cX4_hourBut 81 = .ok (.getfield 7, 3) := by decide +kernel
theorem dX4_hourBut_84 : decode cX4_hourBut 84 = .ok (.bipush 13, 2) := by decide +kernel
theorem dX4_hourBut_86 : decode cX4_hourBut 86 = .ok (.iload_n 2, 1) := by decide +kernel
theorem dX4_hourBut_87 : decode cX4_hourBut 87 = .ok (.iadd, 1) := by decide +kernel
theorem dX4_hourBut_88 : decode cX4_hourBut 88 = .ok (.iaload, 1) := by decide +kernel
theorem dX4_hourBut_89 : decode cX4_hourBut 89 = .ok (.iconst 3, 1) := by decide +kernel
theorem dX4_hourBut_90 : decode cX4_hourBut 90 = .ok (.if_icmp .eq 7, 3) := by decide +kernel
theorem dX4_hourBut_93 : decode cX4_hourBut 93 = .ok (.iconst 1, 1) := by decide +kernel
theorem dX4_hourBut_94 : decode cX4_hourBut 94 = .ok (.goto 4, 3) := by decide +kernel
theorem dX4_hourBut_97 : decode cX4_hourBut 97 = .ok (.iconst 0, 1) := by decide +kernel
theorem dX4_hourBut_98 : decode cX4_hourBut 98 = .ok (.istore_n 3, 1) := by decide +kernel
theorem dX4_hourBut_99 : decode cX4_hourBut 99 = .ok (.aload_n 0, 1) := by decide +kernel
theorem dX4_hourBut_100 : decode cX4_hourBut 100 = .ok (.getfield 7, 3) := by decide +kernel
theorem dX4_hourBut_103 : decode cX4_hourBut 103 = .ok (.bipush 13, 2) := by decide +kernel
theorem dX4_hourBut_105 : decode cX4_hourBut 105 = .ok (.iload_n 2, 1) := by decide +kernel
theorem dX4_hourBut_106 : decode cX4_hourBut 106 = .ok (.iadd, 1) := by decide +kernel
theorem dX4_hourBut_107 : decode cX4_hourBut 107 = .ok (.iload_n 3, 1) := by decide +kernel
theorem dX4_hourBut_108 : decode cX4_hourBut 108 = .ok (.ifCond .eq 7, 3) := by decide +kernel
theorem dX4_hourBut_111 : decode cX4_hourBut 111 = .ok (.iconst 0, 1) := by decide +kernel
theorem dX4_hourBut_112 : decode cX4_hourBut 112 = .ok (.goto 12, 3) := by decide +kernel
theorem dX4_hourBut_115 : decode cX4_hourBut 115 = .ok (.aload_n 0, 1) := by decide +kernel
theorem dX4_hourBut_116 : decode cX4_hourBut 116 = .ok (.getfield 7, 3) := by decide +kernel
theorem dX4_hourBut_119 : decode cX4_hourBut 119 = .ok (.bipush 13, 2) := by decide +kernel
theorem dX4_hourBut_121 : decode cX4_hourBut 121 = .ok (.iload_n 2, 1) := by decide +kernel
theorem dX4_hourBut_122 : decode cX4_hourBut 122 = .ok (.iadd, 1) := by decide +kernel
theorem dX4_hourBut_123 : decode cX4_hourBut 123 = .ok (.iaload, 1) := by decide +kernel
theorem dX4_hourBut_124 : decode cX4_hourBut 124 = .ok (.iastore, 1) := by decide +kernel
theorem dX4_hourBut_125 : decode cX4_hourBut 125 = .ok (.iinc 2 1, 3) := by decide +kernel
theorem dX4_hourBut_128 : decode cX4_hourBut 128 = .ok (.goto (-65), 3) := by decide +kernel
theorem dX4_hourBut_131 : decode cX4_hourBut 131 = .ok (.aload_n 0, 1) := by decide +kernel
theorem dX4_hourBut_132 : decode cX4_hourBut 132 = .ok (.getfield 7, 3) := by decide +kernel
theorem dX4_hourBut_135 : decode cX4_hourBut 135 = .ok (.iconst 1, 1) := by decide +kernel
theorem dX4_hourBut_136 : decode cX4_hourBut 136 = .ok (.dup2, 1) := by decide +kernel
theorem dX4_hourBut_137 : decode cX4_hourBut 137 = .ok (.iaload, 1) := by decide +kernel
theorem dX4_hourBut_138 : decode cX4_hourBut 138 = .ok (.iconst 1, 1) := by decide +kernel
theorem dX4_hourBut_139 : decode cX4_hourBut 139 = .ok (.iadd, 1) := by decide +kernel
theorem dX4_hourBut_140 : decode cX4_hourBut 140 = .ok (.iastore, 1) := by decide +kernel
theorem dX4_hourBut_141 : decode cX4_hourBut 141 = .ok (.return_, 1) := by decide +kernel
theorem dX4_goes_0 : decode cX4_goes 0 = .ok (.iconst 0, 1) := by decide +kernel
theorem dX4_goes_1 : decode cX4_goes 1 = .ok (.istore_n 2, 1) := by decide +kernel
theorem dX4_goes_2 : decode cX4_goes 2 = .ok (.iload_n 2, 1) := by decide +kernel
theorem dX4_goes_3 : decode cX4_goes 3 = .ok (.iload_n 1, 1) := by decide +kernel
theorem dX4_goes_4 : decode cX4_goes 4 = .ok (.if_icmp .ge 14, 3) := by decide +kernel
theorem dX4_goes_7 : decode cX4_goes 7 = .ok (.aload_n 0, 1) := by decide +kernel
theorem dX4_goes_8 : decode cX4_goes 8 = .ok (.iconst 0, 1) := by decide +kernel
theorem dX4_goes_9 : decode cX4_goes 9 = .ok (.invokevirtual 115, 3) := by decide +kernel
theorem dX4_goes_12 : decode cX4_goes 12 = .ok (.iinc 2 1, 3) := by decide +kernel
theorem dX4_goes_15 : decode cX4_goes 15 = .ok (.goto (-13), 3) := by decide +kernel
theorem dX4_goes_18 : decode cX4_goes 18 = .ok (.return_, 1) := by decide +kernel
theorem dX4_allStand_0 : decode cX4_allStand 0 = .ok (.iconst 0, 1) := by decide +kernel
theorem dX4_allStand_1 : decode cX4_allStand 1 = .ok (.istore_n 1, 1) := by decide +kernel
theorem dX4_allStand_2 : decode cX4_allStand 2 = .ok (.bipush 7, 2) := by decide +kernel
theorem dX4_allStand_4 : decode cX4_allStand 4 = .ok (.istore_n 2, 1) := by decide +kernel
theorem dX4_allStand_5 : decode cX4_allStand 5 = .ok (.iload_n 2, 1) := by decide +kernel
theorem dX4_allStand_6 : decode cX4_allStand 6 = .ok (.ifCond .lt 23, 3) := by decide +kernel
theorem dX4_allStand_9 : decode cX4_allStand 9 = .ok (.iconst 4, 1) := by decide +kernel
theorem dX4_allStand_10 : decode cX4_allStand 10 = .ok (.iload_n 1, 1) := by decide +kernel
theorem dX4_allStand_11 : decode cX4_allStand 11 = .ok (.imul, 1) := by decide +kernel
theorem dX4_allStand_12 : decode cX4_allStand 12 = .ok (.aload_n 0, 1) := by decide +kernel
theorem dX4_allStand_13 : decode cX4_allStand 13 = .ok (.getfield 7, 3) := by decide +kernel
theorem dX4_allStand_16 : decode cX4_allStand 16 = .ok (.bipush 13, 2) := by decide +kernel
theorem dX4_allStand_18 : decode cX4_allStand 18 = .ok (.iload_n 2, 1) := by decide +kernel
theorem dX4_allStand_19 : decode cX4_allStand 19 = .ok (.iadd, 1) := by decide +kernel
theorem dX4_allStand_20 : decode cX4_allStand 20 = .ok (.iaload, 1) := by decide +kernel
theorem dX4_allStand_21 : decode cX4_allStand 21 = .ok (.iadd, 1) := by decide +kernel
theorem dX4_allStand_22 : decode cX4_allStand 22 = .ok (.istore_n 1, 1) := by decide +kernel
theorem dX4_allStand_23 : decode cX4_allStand 23 = .ok (.iinc 2 (-1), 3) := by decide +kernel
theorem dX4_allStand_26 : decode cX4_allStand 26 = .ok (.goto (-21), 3) := by decide +kernel
theorem dX4_allStand_29 : decode cX4_allStand 29 = .ok (.iload_n 1, 1) := by decide +kernel
theorem dX4_allStand_30 : decode cX4_allStand 30 = .ok (.ireturn, 1) := by decide +kernel
theorem dX4_go_0 : decode cX4_go 0 = .ok (.iload_n 1, 1) := by decide +kernel
theorem dX4_go_1 : decode cX4_go 1 = .ok (.i2l, 1) := by decide +kernel
theorem dX4_go_2 : decode cX4_go 2 = .ok (.lconst 1, 1) := by decide +kernel
theorem dX4_go_3 : decode cX4_go 3 = .ok (.ldc2_w 118, 3) := by decide +kernel
theorem dX4_go_6 : decode cX4_go 6 = .ok (.invokestatic 43, 3) := by decide +kernel
theorem dX4_go_9 : decode cX4_go 9 = .ok (.ifCond .ne 10, 3) := by decide +kernel
theorem dX4_go_12 : decode cX4_go 12 = .ok (.aload_n 0, 1) := by decide +kernel
theorem dX4_go_13 : decode cX4_go 13 = .ok (.ldc 40, 2) := by decide +kernel
theorem dX4_go_15 : decode cX4_go 15 = .ok (.invokevirtual 48, 3) := by decide +kernel
theorem dX4_go_18 : decode cX4_go 18 = .ok (.ireturn, 1) := by decide +kernel
theorem dX4_go_19 : decode cX4_go 19 = .ok (.aload_n 0, 1) := by decide +kernel
theorem dX4_go_20 : decode cX4_go 20 = .ok (.getfield 7, 3) := by decide +kernel
theorem dX4_go_23 : decode cX4_go 23 = .ok (.iconst 1, 1) := by decide +kernel
theorem dX4_go_24 : decode cX4_go 24 = .ok (.iaload, 1) := by decide +kernel
theorem dX4_go_25 : decode cX4_go 25 = .ok (.iload_n 1, 1) := by decide +kernel
theorem dX4_go_26 : decode cX4_go 26 = .ok (.iadd, 1) := by decide +kernel
theorem dX4_go_27 : decode cX4_go 27 = .ok (.ldc 120, 2) := by decide +kernel
theorem dX4_go_29 : decode cX4_go 29 = .ok (.if_icmp .le 10, 3) := by decide +kernel
theorem dX4_go_32 : decode cX4_go 32 = .ok (.aload_n 0, 1) := by decide +kernel
theorem dX4_go_33 : decode cX4_go 33 = .ok (.ldc 121, 2) := by decide +kernel
theorem dX4_go_35 : decode cX4_go 35 = .ok (.invokevirtual 48, 3) := by decide +kernel
theorem dX4_go_38 : decode cX4_go 38 = .ok (.ireturn, 1) := by decide +kernel
theorem dX4_go_39 : decode cX4_go 39 = .ok (.aload_n 0, 1) := by decide +kernel
theorem dX4_go_40 : decode cX4_go 40 = .ok (.iload_n 1, 1) := by decide +kernel
theorem dX4_go_41 : decode cX4_go 41 = .ok (.invokevirtual 122, 3) := by decide +kernel
theorem dX4_go_44 : decode cX4_go 44 = .ok (.aload_n 0, 1) := by decide +kernel
theorem dX4_go_45 : decode cX4_go 45 = .ok (.invokevirtual 125, 3) := by decide +kernel
theorem dX4_go_48 : decode cX4_go 48 = .ok (.ireturn, 1) := by decide +kernel
theorem dX4_beastsAll_0 : decode cX4_beastsAll 0 = .ok (.iconst 0, 1) := by decide +kernel
theorem dX4_beastsAll_1 : decode cX4_beastsAll 1 = .ok (.istore_n 1, 1) := by decide +kernel
theorem dX4_beastsAll_2 : decode cX4_beastsAll 2 = .ok (.iconst 0, 1) := by decide +kernel
theorem dX4_beastsAll_3 : decode cX4_beastsAll 3 = .ok (.istore_n 2, 1) := by decide +kernel
theorem dX4_beastsAll_4 : decode cX4_beastsAll 4 = .ok (.iload_n 2, 1) := by decide +kernel
theorem dX4_beastsAll_5 : decode cX4_beastsAll 5 = .ok (.bipush 9, 2) := by decide +kernel
theorem dX4_beastsAll_7 : decode cX4_beastsAll 7 = .ok (.if_icmp .ge 20, 3) := by decide +kernel
theorem dX4_beastsAll_10 : decode cX4_beastsAll 10 = .ok (.iload_n 1, 1) := by decide +kernel
theorem dX4_beastsAll_11 : decode cX4_beastsAll 11 = .ok (.aload_n 0, 1) := by decide +kernel
theorem dX4_beastsAll_12 : decode cX4_beastsAll 12 = .ok (.getfield 7, 3) := by decide +kernel
theorem dX4_beastsAll_15 : decode cX4_beastsAll 15 = .ok (.iconst 4, 1) := by decide +kernel
theorem dX4_beastsAll_16 : decode cX4_beastsAll 16 = .ok (.iload_n 2, 1) := by decide +kernel
theorem dX4_beastsAll_17 : decode cX4_beastsAll 17 = .ok (.iadd, 1) := by decide +kernel
theorem dX4_beastsAll_18 : decode cX4_beastsAll 18 = .ok (.iaload, 1) := by decide +kernel
theorem dX4_beastsAll_19 : decode cX4_beastsAll 19 = .ok (.iadd, 1) := by decide +kernel
theorem dX4_beastsAll_20 : decode cX4_beastsAll 20 = .ok (.istore_n 1, 1) := by decide +kernel
theorem dX4_beastsAll_21 : decode cX4_beastsAll 21 = .ok (.iinc 2 1, 3) := by decide +kernel
theorem dX4_beastsAll_24 : decode cX4_beastsAll 24 = .ok (.goto (-20), 3) := by decide +kernel
theorem dX4_beastsAll_27 : decode cX4_beastsAll 27 = .ok (.iload_n 1, 1) := by decide +kernel
theorem dX4_beastsAll_28 : decode cX4_beastsAll 28 = .ok (.ireturn, 1) := by decide +kernel
theorem dX4_notShut_0 : decode cX4_notShut 0 = .ok (.iconst 0, 1) := by decide +kernel
theorem dX4_notShut_1 : decode cX4_notShut 1 = .ok (.istore_n 1, 1) := by decide +kernel
theorem dX4_notShut_2 : decode cX4_notShut 2 = .ok (.iconst 0, 1) := by decide +kernel
theorem dX4_notShut_3 : decode cX4_notShut 3 = .ok (.istore_n 2, 1) := by decide +kernel
theorem dX4_notShut_4 : decode cX4_notShut 4 = .ok (.iload_n 2, 1) := by decide +kernel
theorem dX4_notShut_5 : decode cX4_notShut 5 = .ok (.bipush 8, 2) := by decide +kernel
theorem dX4_notShut_7 : decode cX4_notShut 7 = .ok (.if_icmp .ge 31, 3) := by decide +kernel
theorem dX4_notShut_10 : decode cX4_notShut 10 = .ok (.iload_n 1, 1) := by decide +kernel
theorem dX4_notShut_11 : decode cX4_notShut 11 = .ok (.aload_n 0, 1) := by decide +kernel
theorem dX4_notShut_12 : decode cX4_notShut 12 = .ok (.getfield 7, 3) := by decide +kernel
theorem dX4_notShut_15 : decode cX4_notShut 15 = .ok (.bipush 13, 2) := by decide +kernel
theorem dX4_notShut_17 : decode cX4_notShut 17 = .ok (.iload_n 2, 1) := by decide +kernel
theorem dX4_notShut_18 : decode cX4_notShut 18 = .ok (.iadd, 1) := by decide +kernel
theorem dX4_notShut_19 : decode cX4_notShut 19 = .ok (.iaload, 1) := by decide +kernel
theorem dX4_notShut_20 : decode cX4_notShut 20 = .ok (.ifCond .ne 7, 3) := by decide +kernel
theorem dX4_notShut_23 : decode cX4_notShut 23 = .ok (.iconst 0, 1) := by decide +kernel
theorem dX4_notShut_24 : decode cX4_notShut 24 = .ok (.goto 6, 3) := by decide +kernel
theorem dX4_notShut_27 : decode cX4_notShut 27 = .ok (.iconst 1, 1) := by decide +kernel
theorem dX4_notShut_28 : decode cX4_notShut 28 = .ok (.iload_n 2, 1) := by decide +kernel
theorem dX4_notShut_29 : decode cX4_notShut 29 = .ok (.ishl, 1) := by decide +kernel
theorem dX4_notShut_30 : decode cX4_notShut 30 = .ok (.ior, 1) := by decide +kernel
theorem dX4_notShut_31 : decode cX4_notShut 31 = .ok (.istore_n 1, 1) := by decide +kernel
theorem dX4_notShut_32 : decode cX4_notShut 32 = .ok (.iinc 2 1, 3) := by decide +kernel
theorem dX4_notShut_35 : decode cX4_notShut 35 = .ok (.goto (-31), 3) := by decide +kernel
theorem dX4_notShut_38 : decode cX4_notShut 38 = .ok (.iload_n 1, 1) := by decide +kernel
theorem dX4_notShut_39 : decode cX4_notShut 39 = .ok (.ireturn, 1) := by decide +kernel
theorem dX4_passedAll_0 : decode cX4_passedAll 0 = .ok (.iconst 0, 1) := by decide +kernel
theorem dX4_passedAll_1 : decode cX4_passedAll 1 = .ok (.istore_n 1, 1) := by decide +kernel
theorem dX4_passedAll_2 : decode cX4_passedAll 2 = .ok (.iconst 0, 1) := by decide +kernel
theorem dX4_passedAll_3 : decode cX4_passedAll 3 = .ok (.istore_n 2, 1) := by decide +kernel
theorem dX4_passedAll_4 : decode cX4_passedAll 4 = .ok (.iload_n 2, 1) := by decide +kernel
theorem dX4_passedAll_5 : decode cX4_passedAll 5 = .ok (.aload_n 0, 1) := by decide +kernel
theorem dX4_passedAll_6 : decode cX4_passedAll 6 = .ok (.getfield 7, 3) := by decide +kernel
theorem dX4_passedAll_9 : decode cX4_passedAll 9 = .ok (.iconst 0, 1) := by decide +kernel
theorem dX4_passedAll_10 : decode cX4_passedAll 10 = .ok (.iaload, 1) := by decide +kernel
theorem dX4_passedAll_11 : decode cX4_passedAll 11 = .ok (.if_icmp .ge 18, 3) := by decide +kernel
theorem dX4_passedAll_14 : decode cX4_passedAll 14 = .ok (.iload_n 1, 1) := by decide +kernel
theorem dX4_passedAll_15 : decode cX4_passedAll 15 = .ok (.aload_n 0, 1) := by decide +kernel
theorem dX4_passedAll_16 : decode cX4_passedAll 16 = .ok (.iload_n 2, 1) := by decide +kernel
theorem dX4_passedAll_17 : decode cX4_passedAll 17 = .ok (.iconst 4, 1) := by decide +kernel
theorem dX4_passedAll_18 : decode cX4_passedAll 18 = .ok (.invokevirtual 62, 3) := by decide +kernel
theorem dX4_passedAll_21 : decode cX4_passedAll 21 = .ok (.iadd, 1) := by decide +kernel
theorem dX4_passedAll_22 : decode cX4_passedAll 22 = .ok (.istore_n 1, 1) := by decide +kernel
theorem dX4_passedAll_23 : decode cX4_passedAll 23 = .ok (.iinc 2 1, 3) := by decide +kernel
theorem dX4_passedAll_26 : decode cX4_passedAll 26 = .ok (.goto (-22), 3) := by decide +kernel
theorem dX4_passedAll_29 : decode cX4_passedAll 29 = .ok (.iload_n 1, 1) := by decide +kernel
theorem dX4_passedAll_30 : decode cX4_passedAll 30 = .ok (.ireturn, 1) := by decide +kernel
theorem dX4_fullest_0 : decode cX4_fullest 0 = .ok (.iconst 0, 1) := by decide +kernel
theorem dX4_fullest_1 : decode cX4_fullest 1 = .ok (.istore_n 1, 1) := by decide +kernel
theorem dX4_fullest_2 : decode cX4_fullest 2 = .ok (.iconst 1, 1) := by decide +kernel
theorem dX4_fullest_3 : decode cX4_fullest 3 = .ok (.istore_n 2, 1) := by decide +kernel
theorem dX4_fullest_4 : decode cX4_fullest 4 = .ok (.iload_n 2, 1) := by decide +kernel
theorem dX4_fullest_5 : decode cX4_fullest 5 = .ok (.bipush 9, 2) := by decide +kernel
theorem dX4_fullest_7 : decode cX4_fullest 7 = .ok (.if_icmp .ge 34, 3) := by decide +kernel
theorem dX4_fullest_10 : decode cX4_fullest 10 = .ok (.aload_n 0, 1) := by decide +kernel
theorem dX4_fullest_11 : decode cX4_fullest 11 = .ok (.getfield 7, 3) := by decide +kernel
theorem dX4_fullest_14 : decode cX4_fullest 14 = .ok (.iconst 4, 1) := by decide +kernel
theorem dX4_fullest_15 : decode cX4_fullest 15 = .ok (.iload_n 2, 1) := by decide +kernel
theorem dX4_fullest_16 : decode cX4_fullest 16 = .ok (.iadd, 1) := by decide +kernel
theorem dX4_fullest_17 : decode cX4_fullest 17 = .ok (.iaload, 1) := by decide +kernel
theorem dX4_fullest_18 : decode cX4_fullest 18 = .ok (.aload_n 0, 1) := by decide +kernel
theorem dX4_fullest_19 : decode cX4_fullest 19 = .ok (.getfield 7, 3) := by decide +kernel
theorem dX4_fullest_22 : decode cX4_fullest 22 = .ok (.iconst 4, 1) := by decide +kernel
theorem dX4_fullest_23 : decode cX4_fullest 23 = .ok (.iload_n 1, 1) := by decide +kernel
theorem dX4_fullest_24 : decode cX4_fullest 24 = .ok (.iadd, 1) := by decide +kernel
theorem dX4_fullest_25 : decode cX4_fullest 25 = .ok (.iaload, 1) := by decide +kernel
theorem dX4_fullest_26 : decode cX4_fullest 26 = .ok (.if_icmp .le 7, 3) := by decide +kernel
theorem dX4_fullest_29 : decode cX4_fullest 29 = .ok (.iload_n 2, 1) := by decide +kernel
theorem dX4_fullest_30 : decode cX4_fullest 30 = .ok (.goto 4, 3) := by decide +kernel
theorem dX4_fullest_33 : decode cX4_fullest 33 = .ok (.iload_n 1, 1) := by decide +kernel
theorem dX4_fullest_34 : decode cX4_fullest 34 = .ok (.istore_n 1, 1) := by decide +kernel
theorem dX4_fullest_35 : decode cX4_fullest 35 = .ok (.iinc 2 1, 3) := by decide +kernel
theorem dX4_fullest_38 : decode cX4_fullest 38 = .ok (.goto (-34), 3) := by decide +kernel
theorem dX4_fullest_41 : decode cX4_fullest 41 = .ok (.iload_n 1, 1) := by decide +kernel
theorem dX4_fullest_42 : decode cX4_fullest 42 = .ok (.ireturn, 1) := by decide +kernel
theorem dX4_now_0 : decode cX4_now 0 = .ok (.iload_n 1, 1) := by decide +kernel
theorem dX4_now_1 : decode cX4_now 1 = .ok (.tableswitch 71 0 5 #[39, 46, 51, 56, 61, 66], 39) := by decide +kernel
theorem dX4_now_40 : decode cX4_now 40 = .ok (.aload_n 0, 1) := by decide +kernel
theorem dX4_now_41 : decode cX4_now 41 = .ok (.getfield 7, 3) := by decide +kernel
theorem dX4_now_44 : decode cX4_now 44 = .ok (.iconst 1, 1) := by decide +kernel
theorem dX4_now_45 : decode cX4_now 45 = .ok (.iaload, 1) := by decide +kernel
theorem dX4_now_46 : decode cX4_now 46 = .ok (.ireturn, 1) := by decide +kernel
theorem dX4_now_47 : decode cX4_now 47 = .ok (.aload_n 0, 1) := by decide +kernel
theorem dX4_now_48 : decode cX4_now 48 = .ok (.invokevirtual 129, 3) := by decide +kernel
theorem dX4_now_51 : decode cX4_now 51 = .ok (.ireturn, 1) := by decide +kernel
theorem dX4_now_52 : decode cX4_now 52 = .ok (.aload_n 0, 1) := by decide +kernel
theorem dX4_now_53 : decode cX4_now 53 = .ok (.invokevirtual 132, 3) := by decide +kernel
theorem dX4_now_56 : decode cX4_now 56 = .ok (.ireturn, 1) := by decide +kernel
theorem dX4_now_57 : decode cX4_now 57 = .ok (.aload_n 0, 1) := by decide +kernel
theorem dX4_now_58 : decode cX4_now 58 = .ok (.invokevirtual 125, 3) := by decide +kernel
theorem dX4_now_61 : decode cX4_now 61 = .ok (.ireturn, 1) := by decide +kernel
theorem dX4_now_62 : decode cX4_now 62 = .ok (.aload_n 0, 1) := by decide +kernel
theorem dX4_now_63 : decode cX4_now 63 = .ok (.invokevirtual 135, 3) := by decide +kernel
theorem dX4_now_66 : decode cX4_now 66 = .ok (.ireturn, 1) := by decide +kernel
theorem dX4_now_67 : decode cX4_now 67 = .ok (.aload_n 0, 1) := by decide +kernel
theorem dX4_now_68 : decode cX4_now 68 = .ok (.invokevirtual 138, 3) := by decide +kernel
theorem dX4_now_71 : decode cX4_now 71 = .ok (.ireturn, 1) := by decide +kernel
theorem dX4_now_72 : decode cX4_now 72 = .ok (.aload_n 0, 1) := by decide +kernel
theorem dX4_now_73 : decode cX4_now 73 = .ok (.ldc 40, 2) := by decide +kernel
theorem dX4_now_75 : decode cX4_now 75 = .ok (.invokevirtual 48, 3) := by decide +kernel
theorem dX4_now_78 : decode cX4_now 78 = .ok (.ireturn, 1) := by decide +kernel
theorem dX4_thenAt_0 : decode cX4_thenAt 0 = .ok (.aload_n 0, 1) := by decide +kernel
theorem dX4_thenAt_1 : decode cX4_thenAt 1 = .ok (.getfield 7, 3) := by decide +kernel
theorem dX4_thenAt_4 : decode cX4_thenAt 4 = .ok (.aload_n 0, 1) := by decide +kernel
theorem dX4_thenAt_5 : decode cX4_thenAt 5 = .ok (.getfield 19, 3) := by decide +kernel
theorem dX4_thenAt_8 : decode cX4_thenAt 8 = .ok (.invokestatic 141, 3) := by decide +kernel
theorem dX4_thenAt_11 : decode cX4_thenAt 11 = .ok (.aload_n 0, 1) := by decide +kernel
theorem dX4_thenAt_12 : decode cX4_thenAt 12 = .ok (.iload_n 2, 1) := by decide +kernel
theorem dX4_thenAt_13 : decode cX4_thenAt 13 = .ok (.invokevirtual 122, 3) := by decide +kernel
theorem dX4_thenAt_16 : decode cX4_thenAt 16 = .ok (.aload_n 0, 1) := by decide +kernel
theorem dX4_thenAt_17 : decode cX4_thenAt 17 = .ok (.getfield 7, 3) := by decide +kernel
theorem dX4_thenAt_20 : decode cX4_thenAt 20 = .ok (.iload_n 1, 1) := by decide +kernel
theorem dX4_thenAt_21 : decode cX4_thenAt 21 = .ok (.iaload, 1) := by decide +kernel
theorem dX4_thenAt_22 : decode cX4_thenAt 22 = .ok (.istore_n 3, 1) := by decide +kernel
theorem dX4_thenAt_23 : decode cX4_thenAt 23 = .ok (.aload_n 0, 1) := by decide +kernel
theorem dX4_thenAt_24 : decode cX4_thenAt 24 = .ok (.getfield 19, 3) := by decide +kernel
theorem dX4_thenAt_27 : decode cX4_thenAt 27 = .ok (.aload_n 0, 1) := by decide +kernel
theorem dX4_thenAt_28 : decode cX4_thenAt 28 = .ok (.getfield 7, 3) := by decide +kernel
theorem dX4_thenAt_31 : decode cX4_thenAt 31 = .ok (.invokestatic 141, 3) := by decide +kernel
theorem dX4_thenAt_34 : decode cX4_thenAt 34 = .ok (.iload_n 3, 1) := by decide +kernel
theorem dX4_thenAt_35 : decode cX4_thenAt 35 = .ok (.ireturn, 1) := by decide +kernel
theorem dX4_ahead_0 : decode cX4_ahead 0 = .ok (.iload_n 1, 1) := by decide +kernel
theorem dX4_ahead_1 : decode cX4_ahead 1 = .ok (.invokestatic 52, 3) := by decide +kernel
theorem dX4_ahead_4 : decode cX4_ahead 4 = .ok (.ifCond .eq 26, 3) := by decide +kernel
theorem dX4_ahead_7 : decode cX4_ahead 7 = .ok (.iload_n 2, 1) := by decide +kernel
theorem dX4_ahead_8 : decode cX4_ahead 8 = .ok (.i2l, 1) := by decide +kernel
theorem dX4_ahead_9 : decode cX4_ahead 9 = .ok (.lconst 0, 1) := by decide +kernel
theorem dX4_ahead_10 : decode cX4_ahead 10 = .ok (.ldc2_w 145, 3) := by decide +kernel
theorem dX4_ahead_13 : decode cX4_ahead 13 = .ok (.invokestatic 43, 3) := by decide +kernel
theorem dX4_ahead_16 : decode cX4_ahead 16 = .ok (.ifCond .eq 14, 3) := by decide +kernel
theorem dX4_ahead_19 : decode cX4_ahead 19 = .ok (.aload_n 0, 1) := by decide +kernel
theorem dX4_ahead_20 : decode cX4_ahead 20 = .ok (.iconst 4, 1) := by decide +kernel
theorem dX4_ahead_21 : decode cX4_ahead 21 = .ok (.iload_n 1, 1) := by decide +kernel
theorem dX4_ahead_22 : decode cX4_ahead 22 = .ok (.iadd, 1) := by decide +kernel
theorem dX4_ahead_23 : decode cX4_ahead 23 = .ok (.iload_n 2, 1) := by decide +kernel
theorem dX4_ahead_24 : decode cX4_ahead 24 = .ok (.invokevirtual 147, 3) := by decide +kernel
theorem dX4_ahead_27 : decode cX4_ahead 27 = .ok (.goto 9, 3) := by decide +kernel
theorem dX4_ahead_30 : decode cX4_ahead 30 = .ok (.aload_n 0, 1) := by decide +kernel
theorem dX4_ahead_31 : decode cX4_ahead 31 = .ok (.ldc 40, 2) := by decide +kernel
theorem dX4_ahead_33 : decode cX4_ahead 33 = .ok (.invokevirtual 48, 3) := by decide +kernel
theorem dX4_ahead_36 : decode cX4_ahead 36 = .ok (.ireturn, 1) := by decide +kernel
theorem dX4_stand_0 : decode cX4_stand 0 = .ok (.iload_n 1, 1) := by decide +kernel
theorem dX4_stand_1 : decode cX4_stand 1 = .ok (.invokestatic 68, 3) := by decide +kernel
theorem dX4_stand_4 : decode cX4_stand 4 = .ok (.ifCond .eq 27, 3) := by decide +kernel
theorem dX4_stand_7 : decode cX4_stand 7 = .ok (.iload_n 2, 1) := by decide +kernel
theorem dX4_stand_8 : decode cX4_stand 8 = .ok (.i2l, 1) := by decide +kernel
theorem dX4_stand_9 : decode cX4_stand 9 = .ok (.lconst 0, 1) := by decide +kernel
theorem dX4_stand_10 : decode cX4_stand 10 = .ok (.ldc2_w 145, 3) := by decide +kernel
theorem dX4_stand_13 : decode cX4_stand 13 = .ok (.invokestatic 43, 3) := by decide +kernel
theorem dX4_stand_16 : decode cX4_stand 16 = .ok (.ifCond .eq 15, 3) := by decide +kernel
theorem dX4_stand_19 : decode cX4_stand 19 = .ok (.aload_n 0, 1) := by decide +kernel
theorem dX4_stand_20 : decode cX4_stand 20 = .ok (.bipush 13, 2) := by decide +kernel
theorem dX4_stand_22 : decode cX4_stand 22 = .ok (.iload_n 1, 1) := by decide +kernel
theorem dX4_stand_23 : decode cX4_stand 23 = .ok (.iadd, 1) := by decide +kernel
theorem dX4_stand_24 : decode cX4_stand 24 = .ok (.iload_n 2, 1) := by decide +kernel
theorem dX4_stand_25 : decode cX4_stand 25 = .ok (.invokevirtual 147, 3) := by decide +kernel
theorem dX4_stand_28 : decode cX4_stand 28 = .ok (.goto 9, 3) := by decide +kernel
theorem dX4_stand_31 : decode cX4_stand 31 = .ok (.aload_n 0, 1) := by decide +kernel
theorem dX4_stand_32 : decode cX4_stand 32 = .ok (.ldc 40, 2) := by decide +kernel
theorem dX4_stand_34 : decode cX4_stand 34 = .ok (.invokevirtual 48, 3) := by decide +kernel
theorem dX4_stand_37 : decode cX4_stand 37 = .ok (.ireturn, 1) := by decide +kernel
theorem dX4_where_0 : decode cX4_where 0 = .ok (.aload_n 0, 1) := by decide +kernel
theorem dX4_where_1 : decode cX4_where 1 = .ok (.iload_n 1, 1) := by decide +kernel
theorem dX4_where_2 : decode cX4_where 2 = .ok (.invokevirtual 89, 3) := by decide +kernel
theorem dX4_where_5 : decode cX4_where 5 = .ok (.ifCond .eq 29, 3) := by decide +kernel
theorem dX4_where_8 : decode cX4_where 8 = .ok (.iload_n 2, 1) := by decide +kernel
theorem dX4_where_9 : decode cX4_where 9 = .ok (.iconst 1, 1) := by decide +kernel
theorem dX4_where_10 : decode cX4_where 10 = .ok (.if_icmp .eq 8, 3) := by decide +kernel
theorem dX4_where_13 : decode cX4_where 13 = .ok (.iload_n 2, 1) := by decide +kernel
theorem dX4_where_14 : decode cX4_where 14 = .ok (.iconst 3, 1) := by decide +kernel
theorem dX4_where_15 : decode cX4_where 15 = .ok (.if_icmp .ne 19, 3) := by decide +kernel
theorem dX4_where_18 : decode cX4_where 18 = .ok (.iload_n 3, 1) := by decide +kernel
theorem dX4_where_19 : decode cX4_where 19 = .ok (.i2l, 1) := by decide +kernel
theorem dX4_where_20 : decode cX4_where 20 = .ok (.lconst 0, 1) := by decide +kernel
theorem dX4_where_21 : decode cX4_where 21 = .ok (.ldc2_w 145, 3) := by decide +kernel
theorem dX4_where_24 : decode cX4_where 24 = .ok (.invokestatic 43, 3) := by decide +kernel
theorem dX4_where_27 : decode cX4_where 27 = .ok (.ifCond .eq 7, 3) := by decide +kernel
theorem dX4_where_30 : decode cX4_where 30 = .ok (.iconst 1, 1) := by decide +kernel
theorem dX4_where_31 : decode cX4_where 31 = .ok (.goto 4, 3) := by decide +kernel
theorem dX4_where_34 : decode cX4_where 34 = .ok (.iconst 0, 1) := by decide +kernel
theorem dX4_where_35 : decode cX4_where 35 = .ok (.istore 4, 2) := by decide +kernel
theorem dX4_where_37 : decode cX4_where 37 = .ok (.iload 4, 2) := by decide +kernel
theorem dX4_where_39 : decode cX4_where 39 = .ok (.ifCond .eq 16, 3) := by decide +kernel
theorem dX4_where_42 : decode cX4_where 42 = .ok (.aload_n 0, 1) := by decide +kernel
theorem dX4_where_43 : decode cX4_where 43 = .ok (.iload_n 1, 1) := by decide +kernel
theorem dX4_where_44 : decode cX4_where 44 = .ok (.iload_n 2, 1) := by decide +kernel
theorem dX4_where_45 : decode cX4_where 45 = .ok (.invokestatic 76, 3) := by decide +kernel
theorem dX4_where_48 : decode cX4_where 48 = .ok (.iload_n 3, 1) := by decide +kernel
theorem dX4_where_49 : decode cX4_where 49 = .ok (.invokevirtual 147, 3) := by decide +kernel
theorem dX4_where_52 : decode cX4_where 52 = .ok (.goto 9, 3) := by decide +kernel
theorem dX4_where_55 : decode cX4_where 55 = .ok (.aload_n 0, 1) := by decide +kernel
theorem dX4_where_56 : decode cX4_where 56 = .ok (.ldc 40, 2) := by decide +kernel
theorem dX4_where_58 : decode cX4_where 58 = .ok (.invokevirtual 48, 3) := by decide +kernel
theorem dX4_where_61 : decode cX4_where 61 = .ok (.ireturn, 1) := by decide +kernel
theorem dX4_corn_0 : decode cX4_corn 0 = .ok (.iload_n 1, 1) := by decide +kernel
theorem dX4_corn_1 : decode cX4_corn 1 = .ok (.invokestatic 52, 3) := by decide +kernel
theorem dX4_corn_4 : decode cX4_corn 4 = .ok (.ifCond .eq 15, 3) := by decide +kernel
theorem dX4_corn_7 : decode cX4_corn 7 = .ok (.iload_n 2, 1) := by decide +kernel
theorem dX4_corn_8 : decode cX4_corn 8 = .ok (.i2l, 1) := by decide +kernel
theorem dX4_corn_9 : decode cX4_corn 9 = .ok (.lconst 0, 1) := by decide +kernel
theorem dX4_corn_10 : decode cX4_corn 10 = .ok (.ldc2_w 56, 3) := by decide +kernel
theorem dX4_corn_13 : decode cX4_corn 13 = .ok (.invokestatic 43, 3) := by decide +kernel
theorem dX4_corn_16 : decode cX4_corn 16 = .ok (.ifCond .ne 10, 3) := by decide +kernel
theorem dX4_corn_19 : decode cX4_corn 19 = .ok (.aload_n 0, 1) := by decide +kernel
theorem dX4_corn_20 : decode cX4_corn 20 = .ok (.ldc 40, 2) := by decide +kernel
theorem dX4_corn_22 : decode cX4_corn 22 = .ok (.invokevirtual 48, 3) := by decide +kernel
theorem dX4_corn_25 : decode cX4_corn 25 = .ok (.ireturn, 1) := by decide +kernel
theorem dX4_corn_26 : decode cX4_corn 26 = .ok (.aload_n 0, 1) := by decide +kernel
theorem dX4_corn_27 : decode cX4_corn 27 = .ok (.getfield 7, 3) := by decide +kernel
theorem dX4_corn_30 : decode cX4_corn 30 = .ok (.aload_n 0, 1) := by decide +kernel
theorem dX4_corn_31 : decode cX4_corn 31 = .ok (.getfield 19, 3) := by decide +kernel
theorem dX4_corn_34 : decode cX4_corn 34 = .ok (.invokestatic 141, 3) := by decide +kernel
theorem dX4_corn_37 : decode cX4_corn 37 = .ok (.iconst 0, 1) := by decide +kernel
theorem dX4_corn_38 : decode cX4_corn 38 = .ok (.istore_n 3, 1) := by decide +kernel
theorem dX4_corn_39 : decode cX4_corn 39 = .ok (.iload_n 3, 1) := by decide +kernel
theorem dX4_corn_40 : decode cX4_corn 40 = .ok (.bipush 100, 2) := by decide +kernel
theorem dX4_corn_42 : decode cX4_corn 42 = .ok (.if_icmp .gt 26, 3) := by decide +kernel
theorem dX4_corn_45 : decode cX4_corn 45 = .ok (.aload_n 0, 1) := by decide +kernel
theorem dX4_corn_46 : decode cX4_corn 46 = .ok (.getfield 7, 3) := by decide +kernel
theorem dX4_corn_49 : decode cX4_corn 49 = .ok (.iconst 4, 1) := by decide +kernel
theorem dX4_corn_50 : decode cX4_corn 50 = .ok (.iload_n 1, 1) := by decide +kernel
theorem dX4_corn_51 : decode cX4_corn 51 = .ok (.iadd, 1) := by decide +kernel
theorem dX4_corn_52 : decode cX4_corn 52 = .ok (.iaload, 1) := by decide +kernel
theorem dX4_corn_53 : decode cX4_corn 53 = .ok (.iload_n 2, 1) := by decide +kernel
theorem dX4_corn_54 : decode cX4_corn 54 = .ok (.if_icmp .ge 14, 3) := by decide +kernel
theorem dX4_corn_57 : decode cX4_corn 57 = .ok (.aload_n 0, 1) := by decide +kernel
theorem dX4_corn_58 : decode cX4_corn 58 = .ok (.iconst 0, 1) := by decide +kernel
theorem dX4_corn_59 : decode cX4_corn 59 = .ok (.invokevirtual 115, 3) := by decide +kernel
theorem dX4_corn_62 : decode cX4_corn 62 = .ok (.iinc 3 1, 3) := by decide +kernel
theorem dX4_corn_65 : decode cX4_corn 65 = .ok (.goto (-26), 3) := by decide +kernel
theorem dX4_corn_68 : decode cX4_corn 68 = .ok (.aload_n 0, 1) := by decide +kernel
theorem dX4_corn_69 : decode cX4_corn 69 = .ok (.getfield 19, 3) := by decide +kernel
theorem dX4_corn_72 : decode cX4_corn 72 = .ok (.aload_n 0, 1) := by decide +kernel
theorem dX4_corn_73 : decode cX4_corn 73 = .ok (.getfield 7, 3) := by decide +kernel
theorem dX4_corn_76 : decode cX4_corn 76 = .ok (.invokestatic 141, 3) := by decide +kernel
theorem dX4_corn_79 : decode cX4_corn 79 = .ok (.iload_n 3, 1) := by decide +kernel
theorem dX4_corn_80 : decode cX4_corn 80 = .ok (.bipush 100, 2) := by decide +kernel
theorem dX4_corn_82 : decode cX4_corn 82 = .ok (.if_icmp .gt 7, 3) := by decide +kernel
theorem dX4_corn_85 : decode cX4_corn 85 = .ok (.iload_n 3, 1) := by decide +kernel
theorem dX4_corn_86 : decode cX4_corn 86 = .ok (.goto 9, 3) := by decide +kernel
theorem dX4_corn_89 : decode cX4_corn 89 = .ok (.aload_n 0, 1) := by decide +kernel
theorem dX4_corn_90 : decode cX4_corn 90 = .ok (.ldc 47, 2) := by decide +kernel
theorem dX4_corn_92 : decode cX4_corn 92 = .ok (.invokevirtual 48, 3) := by decide +kernel
theorem dX4_corn_95 : decode cX4_corn 95 = .ok (.ireturn, 1) := by decide +kernel
theorem dX4_when_0 : decode cX4_when 0 = .ok (.iload_n 1, 1) := by decide +kernel
theorem dX4_when_1 : decode cX4_when 1 = .ok (.invokestatic 68, 3) := by decide +kernel
theorem dX4_when_4 : decode cX4_when 4 = .ok (.ifCond .eq 10, 3) := by decide +kernel
theorem dX4_when_7 : decode cX4_when 7 = .ok (.iload_n 2, 1) := by decide +kernel
theorem dX4_when_8 : decode cX4_when 8 = .ok (.invokestatic 71, 3) := by decide +kernel
theorem dX4_when_11 : decode cX4_when 11 = .ok (.ifCond .ne 10, 3) := by decide +kernel
theorem dX4_when_14 : decode cX4_when 14 = .ok (.aload_n 0, 1) := by decide +kernel
theorem dX4_when_15 : decode cX4_when 15 = .ok (.ldc 40, 2) := by decide +kernel
theorem dX4_when_17 : decode cX4_when 17 = .ok (.invokevirtual 48, 3) := by decide +kernel
theorem dX4_when_20 : decode cX4_when 20 = .ok (.ireturn, 1) := by decide +kernel
theorem dX4_when_21 : decode cX4_when 21 = .ok (.aload_n 0, 1) := by decide +kernel
theorem dX4_when_22 : decode cX4_when 22 = .ok (.getfield 7, 3) := by decide +kernel
theorem dX4_when_25 : decode cX4_when 25 = .ok (.aload_n 0, 1) := by decide +kernel
theorem dX4_when_26 : decode cX4_when 26 = .ok (.getfield 19, 3) := by decide +kernel
theorem dX4_when_29 : decode cX4_when 29 = .ok (.invokestatic 141, 3) := by decide +kernel
theorem dX4_when_32 : decode cX4_when 32 = .ok (.iconst 0, 1) := by decide +kernel
theorem dX4_when_33 : decode cX4_when 33 = .ok (.istore_n 3, 1) := by decide +kernel
theorem dX4_when_34 : decode cX4_when 34 = .ok (.iload_n 3, 1) := by decide +kernel
theorem dX4_when_35 : decode cX4_when 35 = .ok (.bipush 100, 2) := by decide +kernel
theorem dX4_when_37 : decode cX4_when 37 = .ok (.if_icmp .gt 27, 3) := by decide +kernel
theorem dX4_when_40 : decode cX4_when 40 = .ok (.aload_n 0, 1) := by decide +kernel
theorem dX4_when_41 : decode cX4_when 41 = .ok (.getfield 7, 3) := by decide +kernel
theorem dX4_when_44 : decode cX4_when 44 = .ok (.bipush 13, 2) := by decide +kernel
theorem dX4_when_46 : decode cX4_when 46 = .ok (.iload_n 1, 1) := by decide +kernel
theorem dX4_when_47 : decode cX4_when 47 = .ok (.iadd, 1) := by decide +kernel
theorem dX4_when_48 : decode cX4_when 48 = .ok (.iaload, 1) := by decide +kernel
theorem dX4_when_49 : decode cX4_when 49 = .ok (.iload_n 2, 1) := by decide +kernel
theorem dX4_when_50 : decode cX4_when 50 = .ok (.if_icmp .eq 14, 3) := by decide +kernel
theorem dX4_when_53 : decode cX4_when 53 = .ok (.aload_n 0, 1) := by decide +kernel
theorem dX4_when_54 : decode cX4_when 54 = .ok (.iconst 0, 1) := by decide +kernel
theorem dX4_when_55 : decode cX4_when 55 = .ok (.invokevirtual 115, 3) := by decide +kernel
theorem dX4_when_58 : decode cX4_when 58 = .ok (.iinc 3 1, 3) := by decide +kernel
theorem dX4_when_61 : decode cX4_when 61 = .ok (.goto (-27), 3) := by decide +kernel
theorem dX4_when_64 : decode cX4_when 64 = .ok (.aload_n 0, 1) := by decide +kernel
theorem dX4_when_65 : decode cX4_when 65 = .ok (.getfield 19, 3) := by decide +kernel
theorem dX4_when_68 : decode cX4_when 68 = .ok (.aload_n 0, 1) := by decide +kernel
theorem dX4_when_69 : decode cX4_when 69 = .ok (.getfield 7, 3) := by decide +kernel
theorem dX4_when_72 : decode cX4_when 72 = .ok (.invokestatic 141, 3) := by decide +kernel
theorem dX4_when_75 : decode cX4_when 75 = .ok (.iload_n 3, 1) := by decide +kernel
theorem dX4_when_76 : decode cX4_when 76 = .ok (.bipush 100, 2) := by decide +kernel
theorem dX4_when_78 : decode cX4_when 78 = .ok (.if_icmp .gt 7, 3) := by decide +kernel
theorem dX4_when_81 : decode cX4_when 81 = .ok (.iload_n 3, 1) := by decide +kernel
theorem dX4_when_82 : decode cX4_when 82 = .ok (.goto 9, 3) := by decide +kernel
theorem dX4_when_85 : decode cX4_when 85 = .ok (.aload_n 0, 1) := by decide +kernel
theorem dX4_when_86 : decode cX4_when 86 = .ok (.ldc 47, 2) := by decide +kernel
theorem dX4_when_88 : decode cX4_when 88 = .ok (.invokevirtual 48, 3) := by decide +kernel
theorem dX4_when_91 : decode cX4_when 91 = .ok (.ireturn, 1) := by decide +kernel
theorem dX4_meet_0 : decode cX4_meet 0 = .ok (.aload_n 0, 1) := by decide +kernel
theorem dX4_meet_1 : decode cX4_meet 1 = .ok (.iload_n 1, 1) := by decide +kernel
theorem dX4_meet_2 : decode cX4_meet 2 = .ok (.invokevirtual 89, 3) := by decide +kernel
theorem dX4_meet_5 : decode cX4_meet 5 = .ok (.ifCond .eq 16, 3) := by decide +kernel
theorem dX4_meet_8 : decode cX4_meet 8 = .ok (.aload_n 0, 1) := by decide +kernel
theorem dX4_meet_9 : decode cX4_meet 9 = .ok (.iload_n 2, 1) := by decide +kernel
theorem dX4_meet_10 : decode cX4_meet 10 = .ok (.invokevirtual 89, 3) := by decide +kernel
theorem dX4_meet_13 : decode cX4_meet 13 = .ok (.ifCond .eq 8, 3) := by decide +kernel
theorem dX4_meet_16 : decode cX4_meet 16 = .ok (.iload_n 1, 1) := by decide +kernel
theorem dX4_meet_17 : decode cX4_meet 17 = .ok (.iload_n 2, 1) := by decide +kernel
theorem dX4_meet_18 : decode cX4_meet 18 = .ok (.if_icmp .ne 10, 3) := by decide +kernel
theorem dX4_meet_21 : decode cX4_meet 21 = .ok (.aload_n 0, 1) := by decide +kernel
theorem dX4_meet_22 : decode cX4_meet 22 = .ok (.ldc 40, 2) := by decide +kernel
theorem dX4_meet_24 : decode cX4_meet 24 = .ok (.invokevirtual 48, 3) := by decide +kernel
theorem dX4_meet_27 : decode cX4_meet 27 = .ok (.ireturn, 1) := by decide +kernel
theorem dX4_meet_28 : decode cX4_meet 28 = .ok (.aload_n 0, 1) := by decide +kernel
theorem dX4_meet_29 : decode cX4_meet 29 = .ok (.getfield 7, 3) := by decide +kernel
theorem dX4_meet_32 : decode cX4_meet 32 = .ok (.aload_n 0, 1) := by decide +kernel
theorem dX4_meet_33 : decode cX4_meet 33 = .ok (.getfield 19, 3) := by decide +kernel
theorem dX4_meet_36 : decode cX4_meet 36 = .ok (.invokestatic 141, 3) := by decide +kernel
theorem dX4_meet_39 : decode cX4_meet 39 = .ok (.iconst 0, 1) := by decide +kernel
theorem dX4_meet_40 : decode cX4_meet 40 = .ok (.istore_n 3, 1) := by decide +kernel
theorem dX4_meet_41 : decode cX4_meet 41 = .ok (.iload_n 3, 1) := by decide +kernel
theorem dX4_meet_42 : decode cX4_meet 42 = .ok (.bipush 100, 2) := by decide +kernel
theorem dX4_meet_44 : decode cX4_meet 44 = .ok (.if_icmp .gt 29, 3) := by decide +kernel
theorem dX4_meet_47 : decode cX4_meet 47 = .ok (.aload_n 0, 1) := by decide +kernel
theorem dX4_meet_48 : decode cX4_meet 48 = .ok (.iload_n 1, 1) := by decide +kernel
theorem dX4_meet_49 : decode cX4_meet 49 = .ok (.iconst 1, 1) := by decide +kernel
theorem dX4_meet_50 : decode cX4_meet 50 = .ok (.invokevirtual 62, 3) := by decide +kernel
theorem dX4_meet_53 : decode cX4_meet 53 = .ok (.aload_n 0, 1) := by decide +kernel
theorem dX4_meet_54 : decode cX4_meet 54 = .ok (.iload_n 2, 1) := by decide +kernel
theorem dX4_meet_55 : decode cX4_meet 55 = .ok (.iconst 1, 1) := by decide +kernel
theorem dX4_meet_56 : decode cX4_meet 56 = .ok (.invokevirtual 62, 3) := by decide +kernel
theorem dX4_meet_59 : decode cX4_meet 59 = .ok (.if_icmp .eq 14, 3) := by decide +kernel
theorem dX4_meet_62 : decode cX4_meet 62 = .ok (.aload_n 0, 1) := by decide +kernel
theorem dX4_meet_63 : decode cX4_meet 63 = .ok (.iconst 0, 1) := by decide +kernel
theorem dX4_meet_64 : decode cX4_meet 64 = .ok (.invokevirtual 115, 3) := by decide +kernel
theorem dX4_meet_67 : decode cX4_meet 67 = .ok (.iinc 3 1, 3) := by decide +kernel
theorem dX4_meet_70 : decode cX4_meet 70 = .ok (.goto (-29), 3) := by decide +kernel
theorem dX4_meet_73 : decode cX4_meet 73 = .ok (.aload_n 0, 1) := by decide +kernel
theorem dX4_meet_74 : decode cX4_meet 74 = .ok (.getfield 19, 3) := by decide +kernel
theorem dX4_meet_77 : decode cX4_meet 77 = .ok (.aload_n 0, 1) := by decide +kernel
theorem dX4_meet_78 : decode cX4_meet 78 = .ok (.getfield 7, 3) := by decide +kernel
theorem dX4_meet_81 : decode cX4_meet 81 = .ok (.invokestatic 141, 3) := by decide +kernel
theorem dX4_meet_84 : decode cX4_meet 84 = .ok (.iload_n 3, 1) := by decide +kernel
theorem dX4_meet_85 : decode cX4_meet 85 = .ok (.bipush 100, 2) := by decide +kernel
theorem dX4_meet_87 : decode cX4_meet 87 = .ok (.if_icmp .gt 7, 3) := by decide +kernel
theorem dX4_meet_90 : decode cX4_meet 90 = .ok (.iload_n 3, 1) := by decide +kernel
theorem dX4_meet_91 : decode cX4_meet 91 = .ok (.goto 9, 3) := by decide +kernel
theorem dX4_meet_94 : decode cX4_meet 94 = .ok (.aload_n 0, 1) := by decide +kernel
theorem dX4_meet_95 : decode cX4_meet 95 = .ok (.ldc 47, 2) := by decide +kernel
theorem dX4_meet_97 : decode cX4_meet 97 = .ok (.invokevirtual 48, 3) := by decide +kernel
theorem dX4_meet_100 : decode cX4_meet 100 = .ok (.ireturn, 1) := by decide +kernel
theorem dX4_isAsked_0 : decode cX4_isAsked 0 = .ok (.aload_n 0, 1) := by decide +kernel
theorem dX4_isAsked_1 : decode cX4_isAsked 1 = .ok (.iload_n 1, 1) := by decide +kernel
theorem dX4_isAsked_2 : decode cX4_isAsked 2 = .ok (.invokevirtual 89, 3) := by decide +kernel
theorem dX4_isAsked_5 : decode cX4_isAsked 5 = .ok (.ifCond .eq 34, 3) := by decide +kernel
theorem dX4_isAsked_8 : decode cX4_isAsked 8 = .ok (.iload_n 2, 1) := by decide +kernel
theorem dX4_isAsked_9 : decode cX4_isAsked 9 = .ok (.invokestatic 68, 3) := by decide +kernel
theorem dX4_isAsked_12 : decode cX4_isAsked 12 = .ok (.ifCond .eq 27, 3) := by decide +kernel
theorem dX4_isAsked_15 : decode cX4_isAsked 15 = .ok (.iload_n 3, 1) := by decide +kernel
theorem dX4_isAsked_16 : decode cX4_isAsked 16 = .ok (.invokestatic 71, 3) := by decide +kernel
theorem dX4_isAsked_19 : decode cX4_isAsked 19 = .ok (.ifCond .eq 20, 3) := by decide +kernel
theorem dX4_isAsked_22 : decode cX4_isAsked 22 = .ok (.iload 4, 2) := by decide +kernel
theorem dX4_isAsked_24 : decode cX4_isAsked 24 = .ok (.i2l, 1) := by decide +kernel
theorem dX4_isAsked_25 : decode cX4_isAsked 25 = .ok (.lconst 0, 1) := by decide +kernel
theorem dX4_isAsked_26 : decode cX4_isAsked 26 = .ok (.ldc2_w 150, 3) := by decide +kernel
theorem dX4_isAsked_29 : decode cX4_isAsked 29 = .ok (.invokestatic 43, 3) := by decide +kernel
theorem dX4_isAsked_32 : decode cX4_isAsked 32 = .ok (.ifCond .eq 7, 3) := by decide +kernel
theorem dX4_isAsked_35 : decode cX4_isAsked 35 = .ok (.iconst 1, 1) := by decide +kernel
theorem dX4_isAsked_36 : decode cX4_isAsked 36 = .ok (.goto 4, 3) := by decide +kernel
theorem dX4_isAsked_39 : decode cX4_isAsked 39 = .ok (.iconst 0, 1) := by decide +kernel
theorem dX4_isAsked_40 : decode cX4_isAsked 40 = .ok (.ireturn, 1) := by decide +kernel
theorem dX4_withWhich_0 : decode cX4_withWhich 0 = .ok (.aload_n 0, 1) := by decide +kernel
theorem dX4_withWhich_1 : decode cX4_withWhich 1 = .ok (.iload_n 1, 1) := by decide +kernel
theorem dX4_withWhich_2 : decode cX4_withWhich 2 = .ok (.iload_n 2, 1) := by decide +kernel
theorem dX4_withWhich_3 : decode cX4_withWhich 3 = .ok (.invokevirtual 62, 3) := by decide +kernel
theorem dX4_withWhich_6 : decode cX4_withWhich 6 = .ok (.istore 6, 2) := by decide +kernel
theorem dX4_withWhich_8 : decode cX4_withWhich 8 = .ok (.iconst 0, 1) := by decide +kernel
theorem dX4_withWhich_9 : decode cX4_withWhich 9 = .ok (.istore 7, 2) := by decide +kernel
theorem dX4_withWhich_11 : decode cX4_withWhich 11 = .ok (.iconst 0, 1) := by decide +kernel
theorem dX4_withWhich_12 : decode cX4_withWhich 12 = .ok (.istore 8, 2) := by decide +kernel
theorem dX4_withWhich_14 : decode cX4_withWhich 14 = .ok (.iload 8, 2) := by decide +kernel
theorem dX4_withWhich_16 : decode cX4_withWhich 16 = .ok (.iload_n 2, 1) := by decide +kernel
theorem dX4_withWhich_17 : decode cX4_withWhich 17 = .ok (.invokestatic 99, 3) := by decide +kernel
theorem dX4_withWhich_20 : decode cX4_withWhich 20 = .ok (.if_icmp .gt 49, 3) := by decide +kernel
theorem dX4_withWhich_23 : decode cX4_withWhich 23 = .ok (.aload_n 0, 1) := by decide +kernel
theorem dX4_withWhich_24 : decode cX4_withWhich 24 = .ok (.getfield 7, 3) := by decide +kernel
theorem dX4_withWhich_27 : decode cX4_withWhich 27 = .ok (.iload_n 1, 1) := by decide +kernel
theorem dX4_withWhich_28 : decode cX4_withWhich 28 = .ok (.iload_n 2, 1) := by decide +kernel
theorem dX4_withWhich_29 : decode cX4_withWhich 29 = .ok (.invokestatic 76, 3) := by decide +kernel
theorem dX4_withWhich_32 : decode cX4_withWhich 32 = .ok (.iload 8, 2) := by decide +kernel
theorem dX4_withWhich_34 : decode cX4_withWhich 34 = .ok (.iastore, 1) := by decide +kernel
theorem dX4_withWhich_35 : decode cX4_withWhich 35 = .ok (.iload 7, 2) := by decide +kernel
theorem dX4_withWhich_37 : decode cX4_withWhich 37 = .ok (.aload_n 0, 1) := by decide +kernel
theorem dX4_withWhich_38 : decode cX4_withWhich 38 = .ok (.bipush 13, 2) := by decide +kernel
theorem dX4_withWhich_40 : decode cX4_withWhich 40 = .ok (.iload_n 3, 1) := by decide +kernel
theorem dX4_withWhich_41 : decode cX4_withWhich 41 = .ok (.iadd, 1) := by decide +kernel
theorem dX4_withWhich_42 : decode cX4_withWhich 42 = .ok (.iload 5, 2) := by decide +kernel
theorem dX4_withWhich_44 : decode cX4_withWhich 44 = .ok (.invokevirtual 147, 3) := by decide +kernel
theorem dX4_withWhich_47 : decode cX4_withWhich 47 = .ok (.iload 4, 2) := by decide +kernel
theorem dX4_withWhich_49 : decode cX4_withWhich 49 = .ok (.if_icmp .ne 10, 3) := by decide +kernel
theorem dX4_withWhich_52 : decode cX4_withWhich 52 = .ok (.iconst 1, 1) := by decide +kernel
theorem dX4_withWhich_53 : decode cX4_withWhich 53 = .ok (.iload 8, 2) := by decide +kernel
theorem dX4_withWhich_55 : decode cX4_withWhich 55 = .ok (.ishl, 1) := by decide +kernel
theorem dX4_withWhich_56 : decode cX4_withWhich 56 = .ok (.goto 4, 3) := by decide +kernel
theorem dX4_withWhich_59 : decode cX4_withWhich 59 = .ok (.iconst 0, 1) := by decide +kernel
theorem dX4_withWhich_60 : decode cX4_withWhich 60 = .ok (.ior, 1) := by decide +kernel
theorem dX4_withWhich_61 : decode cX4_withWhich 61 = .ok (.istore 7, 2) := by decide +kernel
theorem dX4_withWhich_63 : decode cX4_withWhich 63 = .ok (.iinc 8 1, 3) := by decide +kernel
theorem dX4_withWhich_66 : decode cX4_withWhich 66 = .ok (.goto (-52), 3) := by decide +kernel
theorem dX4_withWhich_69 : decode cX4_withWhich 69 = .ok (.aload_n 0, 1) := by decide +kernel
theorem dX4_withWhich_70 : decode cX4_withWhich 70 = .ok (.getfield 7, 3) := by decide +kernel
theorem dX4_withWhich_73 : decode cX4_withWhich 73 = .ok (.iload_n 1, 1) := by decide +kernel
theorem dX4_withWhich_74 : decode cX4_withWhich 74 = .ok (.iload_n 2, 1) := by decide +kernel
theorem dX4_withWhich_75 : decode cX4_withWhich 75 = .ok (.invokestatic 76, 3) := by decide +kernel
theorem dX4_withWhich_78 : decode cX4_withWhich 78 = .ok (.iload 6, 2) := by decide +kernel
theorem dX4_withWhich_80 : decode cX4_withWhich 80 = .ok (.iastore, 1) := by decide +kernel
theorem dX4_withWhich_81 : decode cX4_withWhich 81 = .ok (.iload 7, 2) := by decide +kernel
theorem dX4_withWhich_83 : decode cX4_withWhich 83 = .ok (.ireturn, 1) := by decide +kernel
theorem dX4_lowest_0 : decode cX4_lowest 0 = .ok (.iconst 0, 1) := by decide +kernel
theorem dX4_lowest_1 : decode cX4_lowest 1 = .ok (.istore_n 1, 1) := by decide +kernel
theorem dX4_lowest_2 : decode cX4_lowest 2 = .ok (.iload_n 0, 1) := by decide +kernel
theorem dX4_lowest_3 : decode cX4_lowest 3 = .ok (.ifCond .eq 17, 3) := by decide +kernel
theorem dX4_lowest_6 : decode cX4_lowest 6 = .ok (.iload_n 0, 1) := by decide +kernel
theorem dX4_lowest_7 : decode cX4_lowest 7 = .ok (.iload_n 1, 1) := by decide +kernel
theorem dX4_lowest_8 : decode cX4_lowest 8 = .ok (.ishr, 1) := by decide +kernel
theorem dX4_lowest_9 : decode cX4_lowest 9 = .ok (.iconst 1, 1) := by decide +kernel
theorem dX4_lowest_10 : decode cX4_lowest 10 = .ok (.iand, 1) := by decide +kernel
theorem dX4_lowest_11 : decode cX4_lowest 11 = .ok (.ifCond .ne 9, 3) := by decide +kernel
theorem dX4_lowest_14 : decode cX4_lowest 14 = .ok (.iinc 1 1, 3) := by decide +kernel
theorem dX4_lowest_17 : decode cX4_lowest 17 = .ok (.goto (-15), 3) := by decide +kernel
theorem dX4_lowest_20 : decode cX4_lowest 20 = .ok (.iload_n 0, 1) := by decide +kernel
theorem dX4_lowest_21 : decode cX4_lowest 21 = .ok (.ifCond .ne 7, 3) := by decide +kernel
theorem dX4_lowest_24 : decode cX4_lowest 24 = .ok (.iconst (-1), 1) := by decide +kernel
theorem dX4_lowest_25 : decode cX4_lowest 25 = .ok (.goto 4, 3) := by decide +kernel
theorem dX4_lowest_28 : decode cX4_lowest 28 = .ok (.iload_n 1, 1) := by decide +kernel
theorem dX4_lowest_29 : decode cX4_lowest 29 = .ok (.ireturn, 1) := by decide +kernel
theorem dX4_start_0 : decode cX4_start 0 = .ok (.aload_n 0, 1) := by decide +kernel
theorem dX4_start_1 : decode cX4_start 1 = .ok (.iload_n 1, 1) := by decide +kernel
theorem dX4_start_2 : decode cX4_start 2 = .ok (.iload_n 2, 1) := by decide +kernel
theorem dX4_start_3 : decode cX4_start 3 = .ok (.iload_n 3, 1) := by decide +kernel
theorem dX4_start_4 : decode cX4_start 4 = .ok (.iload 4, 2) := by decide +kernel
theorem dX4_start_6 : decode cX4_start 6 = .ok (.invokevirtual 152, 3) := by decide +kernel
theorem dX4_start_9 : decode cX4_start 9 = .ok (.ifCond .eq 23, 3) := by decide +kernel
theorem dX4_start_12 : decode cX4_start 12 = .ok (.aload_n 0, 1) := by decide +kernel
theorem dX4_start_13 : decode cX4_start 13 = .ok (.aload_n 0, 1) := by decide +kernel
theorem dX4_start_14 : decode cX4_start 14 = .ok (.iload_n 1, 1) := by decide +kernel
theorem dX4_start_15 : decode cX4_start 15 = .ok (.iconst 1, 1) := by decide +kernel
theorem dX4_start_16 : decode cX4_start 16 = .ok (.iload_n 2, 1) := by decide +kernel
theorem dX4_start_17 : decode cX4_start 17 = .ok (.iload_n 3, 1) := by decide +kernel
theorem dX4_start_18 : decode cX4_start 18 = .ok (.iload 4, 2) := by decide +kernel
theorem dX4_start_20 : decode cX4_start 20 = .ok (.invokevirtual 156, 3) := by decide +kernel
theorem dX4_start_23 : decode cX4_start 23 = .ok (.invokestatic 160, 3) := by decide +kernel
theorem dX4_start_26 : decode cX4_start 26 = .ok (.invokevirtual 163, 3) := by decide +kernel
theorem dX4_start_29 : decode cX4_start 29 = .ok (.goto 9, 3) := by decide +kernel
theorem dX4_start_32 : decode cX4_start 32 = .ok (.aload_n 0, 1) := by decide +kernel
theorem dX4_start_33 : decode cX4_start 33 = .ok (.ldc 40, 2) := by decide +kernel
theorem dX4_start_35 : decode cX4_start 35 = .ok (.invokevirtual 48, 3) := by decide +kernel
theorem dX4_start_38 : decode cX4_start 38 = .ok (.ireturn, 1) := by decide +kernel
theorem dX4_kindsFor_0 : decode cX4_kindsFor 0 = .ok (.aload_n 0, 1) := by decide +kernel
theorem dX4_kindsFor_1 : decode cX4_kindsFor 1 = .ok (.iload_n 1, 1) := by decide +kernel
theorem dX4_kindsFor_2 : decode cX4_kindsFor 2 = .ok (.iload_n 2, 1) := by decide +kernel
theorem dX4_kindsFor_3 : decode cX4_kindsFor 3 = .ok (.iload_n 3, 1) := by decide +kernel
theorem dX4_kindsFor_4 : decode cX4_kindsFor 4 = .ok (.iload 4, 2) := by decide +kernel
theorem dX4_kindsFor_6 : decode cX4_kindsFor 6 = .ok (.invokevirtual 152, 3) := by decide +kernel
theorem dX4_kindsFor_9 : decode cX4_kindsFor 9 = .ok (.ifCond .eq 16, 3) := by decide +kernel
theorem dX4_kindsFor_12 : decode cX4_kindsFor 12 = .ok (.aload_n 0, 1) := by decide +kernel
theorem dX4_kindsFor_13 : decode cX4_kindsFor 13 = .ok (.iload_n 1, 1) := by decide +kernel
theorem dX4_kindsFor_14 : decode cX4_kindsFor 14 = .ok (.iconst 0, 1) := by decide +kernel
theorem dX4_kindsFor_15 : decode cX4_kindsFor 15 = .ok (.iload_n 2, 1) := by decide +kernel
theorem dX4_kindsFor_16 : decode cX4_kindsFor 16 = .ok (.iload_n 3, 1) := by decide +kernel
theorem dX4_kindsFor_17 : decode cX4_kindsFor 17 = .ok (.iload 4, 2) := by decide +kernel
theorem dX4_kindsFor_19 : decode cX4_kindsFor 19 = .ok (.invokevirtual 156, 3) := by decide +kernel
theorem dX4_kindsFor_22 : decode cX4_kindsFor 22 = .ok (.goto 9, 3) := by decide +kernel
theorem dX4_kindsFor_25 : decode cX4_kindsFor 25 = .ok (.aload_n 0, 1) := by decide +kernel
theorem dX4_kindsFor_26 : decode cX4_kindsFor 26 = .ok (.ldc 40, 2) := by decide +kernel
theorem dX4_kindsFor_28 : decode cX4_kindsFor 28 = .ok (.invokevirtual 48, 3) := by decide +kernel
theorem dX4_kindsFor_31 : decode cX4_kindsFor 31 = .ok (.ireturn, 1) := by decide +kernel
theorem dX4_moods_0 : decode cX4_moods 0 = .ok (.aload_n 0, 1) := by decide +kernel
theorem dX4_moods_1 : decode cX4_moods 1 = .ok (.iload_n 1, 1) := by decide +kernel
theorem dX4_moods_2 : decode cX4_moods 2 = .ok (.iload_n 2, 1) := by decide +kernel
theorem dX4_moods_3 : decode cX4_moods 3 = .ok (.iload_n 3, 1) := by decide +kernel
theorem dX4_moods_4 : decode cX4_moods 4 = .ok (.iload 4, 2) := by decide +kernel
theorem dX4_moods_6 : decode cX4_moods 6 = .ok (.invokevirtual 152, 3) := by decide +kernel
theorem dX4_moods_9 : decode cX4_moods 9 = .ok (.ifCond .eq 16, 3) := by decide +kernel
theorem dX4_moods_12 : decode cX4_moods 12 = .ok (.aload_n 0, 1) := by decide +kernel
theorem dX4_moods_13 : decode cX4_moods 13 = .ok (.iload_n 1, 1) := by decide +kernel
theorem dX4_moods_14 : decode cX4_moods 14 = .ok (.iconst 3, 1) := by decide +kernel
theorem dX4_moods_15 : decode cX4_moods 15 = .ok (.iload_n 2, 1) := by decide +kernel
theorem dX4_moods_16 : decode cX4_moods 16 = .ok (.iload_n 3, 1) := by decide +kernel
theorem dX4_moods_17 : decode cX4_moods 17 = .ok (.iload 4, 2) := by decide +kernel
theorem dX4_moods_19 : decode cX4_moods 19 = .ok (.invokevirtual 156, 3) := by decide +kernel
theorem dX4_moods_22 : decode cX4_moods 22 = .ok (.goto 9, 3) := by decide +kernel
theorem dX4_moods_25 : decode cX4_moods 25 = .ok (.aload_n 0, 1) := by decide +kernel
theorem dX4_moods_26 : decode cX4_moods 26 = .ok (.ldc 40, 2) := by decide +kernel
theorem dX4_moods_28 : decode cX4_moods 28 = .ok (.invokevirtual 48, 3) := by decide +kernel
theorem dX4_moods_31 : decode cX4_moods 31 = .ok (.ireturn, 1) := by decide +kernel
theorem dX4_windFor_0 : decode cX4_windFor 0 = .ok (.iload_n 1, 1) := by decide +kernel
theorem dX4_windFor_1 : decode cX4_windFor 1 = .ok (.invokestatic 52, 3) := by decide +kernel
theorem dX4_windFor_4 : decode cX4_windFor 4 = .ok (.ifCond .eq 27, 3) := by decide +kernel
theorem dX4_windFor_7 : decode cX4_windFor 7 = .ok (.iload_n 2, 1) := by decide +kernel
theorem dX4_windFor_8 : decode cX4_windFor 8 = .ok (.i2l, 1) := by decide +kernel
theorem dX4_windFor_9 : decode cX4_windFor 9 = .ok (.lconst 0, 1) := by decide +kernel
theorem dX4_windFor_10 : decode cX4_windFor 10 = .ok (.ldc2_w 56, 3) := by decide +kernel
theorem dX4_windFor_13 : decode cX4_windFor 13 = .ok (.invokestatic 43, 3) := by decide +kernel
theorem dX4_windFor_16 : decode cX4_windFor 16 = .ok (.ifCond .eq 15, 3) := by decide +kernel
theorem dX4_windFor_19 : decode cX4_windFor 19 = .ok (.iload_n 3, 1) := by decide +kernel
theorem dX4_windFor_20 : decode cX4_windFor 20 = .ok (.i2l, 1) := by decide +kernel
theorem dX4_windFor_21 : decode cX4_windFor 21 = .ok (.lconst 0, 1) := by decide +kernel
theorem dX4_windFor_22 : decode cX4_windFor 22 = .ok (.ldc2_w 150, 3) := by decide +kernel
theorem dX4_windFor_25 : decode cX4_windFor 25 = .ok (.invokestatic 43, 3) := by decide +kernel
theorem dX4_windFor_28 : decode cX4_windFor 28 = .ok (.ifCond .ne 10, 3) := by decide +kernel
theorem dX4_windFor_31 : decode cX4_windFor 31 = .ok (.aload_n 0, 1) := by decide +kernel
theorem dX4_windFor_32 : decode cX4_windFor 32 = .ok (.ldc 40, 2) := by decide +kernel
theorem dX4_windFor_34 : decode cX4_windFor 34 = .ok (.invokevirtual 48, 3) := by decide +kernel
theorem dX4_windFor_37 : decode cX4_windFor 37 = .ok (.ireturn, 1) := by decide +kernel
theorem dX4_windFor_38 : decode cX4_windFor 38 = .ok (.aload_n 0, 1) := by decide +kernel
theorem dX4_windFor_39 : decode cX4_windFor 39 = .ok (.getfield 7, 3) := by decide +kernel
theorem dX4_windFor_42 : decode cX4_windFor 42 = .ok (.iconst 3, 1) := by decide +kernel
theorem dX4_windFor_43 : decode cX4_windFor 43 = .ok (.iaload, 1) := by decide +kernel
theorem dX4_windFor_44 : decode cX4_windFor 44 = .ok (.istore 4, 2) := by decide +kernel
theorem dX4_windFor_46 : decode cX4_windFor 46 = .ok (.iconst (-1), 1) := by decide +kernel
theorem dX4_windFor_47 : decode cX4_windFor 47 = .ok (.istore 5, 2) := by decide +kernel
theorem dX4_windFor_49 : decode cX4_windFor 49 = .ok (.iconst 0, 1) := by decide +kernel
theorem dX4_windFor_50 : decode cX4_windFor 50 = .ok (.istore 6, 2) := by decide +kernel
theorem dX4_windFor_52 : decode cX4_windFor 52 = .ok (.iload 6, 2) := by decide +kernel
theorem dX4_windFor_54 : decode cX4_windFor 54 = .ok (.bipush 9, 2) := by decide +kernel
theorem dX4_windFor_56 : decode cX4_windFor 56 = .ok (.if_icmp .gt 42, 3) := by decide +kernel
theorem dX4_windFor_59 : decode cX4_windFor 59 = .ok (.iload 5, 2) := by decide +kernel
theorem dX4_windFor_61 : decode cX4_windFor 61 = .ok (.ifCond .ge 37, 3) := by decide +kernel
theorem dX4_windFor_64 : decode cX4_windFor 64 = .ok (.aload_n 0, 1) := by decide +kernel
theorem dX4_windFor_65 : decode cX4_windFor 65 = .ok (.getfield 7, 3) := by decide +kernel
theorem dX4_windFor_68 : decode cX4_windFor 68 = .ok (.iconst 3, 1) := by decide +kernel
theorem dX4_windFor_69 : decode cX4_windFor 69 = .ok (.iload 6, 2) := by decide +kernel
theorem dX4_windFor_71 : decode cX4_windFor 71 = .ok (.iastore, 1) := by decide +kernel
theorem dX4_windFor_72 : decode cX4_windFor 72 = .ok (.aload_n 0, 1) := by decide +kernel
theorem dX4_windFor_73 : decode cX4_windFor 73 = .ok (.iconst 4, 1) := by decide +kernel
theorem dX4_windFor_74 : decode cX4_windFor 74 = .ok (.iload_n 1, 1) := by decide +kernel
theorem dX4_windFor_75 : decode cX4_windFor 75 = .ok (.iadd, 1) := by decide +kernel
theorem dX4_windFor_76 : decode cX4_windFor 76 = .ok (.iload_n 3, 1) := by decide +kernel
theorem dX4_windFor_77 : decode cX4_windFor 77 = .ok (.invokevirtual 147, 3) := by decide +kernel
theorem dX4_windFor_80 : decode cX4_windFor 80 = .ok (.iload_n 2, 1) := by decide +kernel
theorem dX4_windFor_81 : decode cX4_windFor 81 = .ok (.if_icmp .gt 8, 3) := by decide +kernel
theorem dX4_windFor_84 : decode cX4_windFor 84 = .ok (.iload 6, 2) := by decide +kernel
theorem dX4_windFor_86 : decode cX4_windFor 86 = .ok (.goto 4, 3) := by decide +kernel
theorem dX4_windFor_89 : decode cX4_windFor 89 = .ok (.iconst (-1), 1) := by decide +kernel
theorem dX4_windFor_90 : decode cX4_windFor 90 = .ok (.istore 5, 2) := by decide +kernel
theorem dX4_windFor_92 : decode cX4_windFor 92 = .ok (.iinc 6 1, 3) := by decide +kernel
theorem dX4_windFor_95 : decode cX4_windFor 95 = .ok (.goto (-43), 3) := by decide +kernel
theorem dX4_windFor_98 : decode cX4_windFor 98 = .ok (.aload_n 0, 1) := by decide +kernel
theorem dX4_windFor_99 : decode cX4_windFor 99 = .ok (.getfield 7, 3) := by decide +kernel
theorem dX4_windFor_102 : decode cX4_windFor 102 = .ok (.iconst 3, 1) := by decide +kernel
theorem dX4_windFor_103 : decode cX4_windFor 103 = .ok (.iload 4, 2) := by decide +kernel
theorem dX4_windFor_105 : decode cX4_windFor 105 = .ok (.iastore, 1) := by decide +kernel
theorem dX4_windFor_106 : decode cX4_windFor 106 = .ok (.aload_n 0, 1) := by decide +kernel
theorem dX4_windFor_107 : decode cX4_windFor 107 = .ok (.iload 5, 2) := by decide +kernel
theorem dX4_windFor_109 : decode cX4_windFor 109 = .ok (.invokevirtual 163, 3) := by decide +kernel
theorem dX4_windFor_112 : decode cX4_windFor 112 = .ok (.ireturn, 1) := by decide +kernel
theorem dX4_home_0 : decode cX4_home 0 = .ok (.iload_n 1, 1) := by decide +kernel
theorem dX4_home_1 : decode cX4_home 1 = .ok (.invokestatic 52, 3) := by decide +kernel
theorem dX4_home_4 : decode cX4_home 4 = .ok (.ifCond .eq 27, 3) := by decide +kernel
theorem dX4_home_7 : decode cX4_home 7 = .ok (.iload_n 2, 1) := by decide +kernel
theorem dX4_home_8 : decode cX4_home 8 = .ok (.i2l, 1) := by decide +kernel
theorem dX4_home_9 : decode cX4_home 9 = .ok (.lconst 0, 1) := by decide +kernel
theorem dX4_home_10 : decode cX4_home 10 = .ok (.ldc2_w 56, 3) := by decide +kernel
theorem dX4_home_13 : decode cX4_home 13 = .ok (.invokestatic 43, 3) := by decide +kernel
theorem dX4_home_16 : decode cX4_home 16 = .ok (.ifCond .eq 15, 3) := by decide +kernel
theorem dX4_home_19 : decode cX4_home 19 = .ok (.iload_n 3, 1) := by decide +kernel
theorem dX4_home_20 : decode cX4_home 20 = .ok (.i2l, 1) := by decide +kernel
theorem dX4_home_21 : decode cX4_home 21 = .ok (.lconst 0, 1) := by decide +kernel
theorem dX4_home_22 : decode cX4_home 22 = .ok (.ldc2_w 166, 3) := by decide +kernel
theorem dX4_home_25 : decode cX4_home 25 = .ok (.invokestatic 43, 3) := by decide +kernel
theorem dX4_home_28 : decode cX4_home 28 = .ok (.ifCond .ne 10, 3) := by decide +kernel
theorem dX4_home_31 : decode cX4_home 31 = .ok (.aload_n 0, 1) := by decide +kernel
theorem dX4_home_32 : decode cX4_home 32 = .ok (.ldc 40, 2) := by decide +kernel
theorem dX4_home_34 : decode cX4_home 34 = .ok (.invokevirtual 48, 3) := by decide +kernel
theorem dX4_home_37 : decode cX4_home 37 = .ok (.ireturn, 1) := by decide +kernel
theorem dX4_home_38 : decode cX4_home 38 = .ok (.iconst (-1), 1) := by decide +kernel
theorem dX4_home_39 : decode cX4_home 39 = .ok (.istore 4, 2) := by decide +kernel
theorem dX4_home_41 : decode cX4_home 41 = .ok (.aload_n 0, 1) := by decide +kernel
theorem dX4_home_42 : decode cX4_home 42 = .ok (.getfield 7, 3) := by decide +kernel
theorem dX4_home_45 : decode cX4_home 45 = .ok (.aload_n 0, 1) := by decide +kernel
theorem dX4_home_46 : decode cX4_home 46 = .ok (.getfield 19, 3) := by decide +kernel
theorem dX4_home_49 : decode cX4_home 49 = .ok (.invokestatic 141, 3) := by decide +kernel
theorem dX4_home_52 : decode cX4_home 52 = .ok (.iconst 0, 1) := by decide +kernel
theorem dX4_home_53 : decode cX4_home 53 = .ok (.istore 5, 2) := by decide +kernel
theorem dX4_home_55 : decode cX4_home 55 = .ok (.iload 5, 2) := by decide +kernel
theorem dX4_home_57 : decode cX4_home 57 = .ok (.iconst 1, 1) := by decide +kernel
theorem dX4_home_58 : decode cX4_home 58 = .ok (.aload_n 0, 1) := by decide +kernel
theorem dX4_home_59 : decode cX4_home 59 = .ok (.getfield 7, 3) := by decide +kernel
theorem dX4_home_62 : decode cX4_home 62 = .ok (.iconst 0, 1) := by decide +kernel
theorem dX4_home_63 : decode cX4_home 63 = .ok (.iaload, 1) := by decide +kernel
theorem dX4_home_64 : decode cX4_home 64 = .ok (.ishl, 1) := by decide +kernel
theorem dX4_home_65 : decode cX4_home 65 = .ok (.if_icmp .ge 80, 3) := by decide +kernel
theorem dX4_home_68 : decode cX4_home 68 = .ok (.iload 4, 2) := by decide +kernel
theorem dX4_home_70 : decode cX4_home 70 = .ok (.ifCond .lt 16, 3) := by decide +kernel
theorem dX4_home_73 : decode cX4_home 73 = .ok (.iload 5, 2) := by decide +kernel
theorem dX4_home_75 : decode cX4_home 75 = .ok (.invokestatic 168, 3) := by decide +kernel
theorem dX4_home_78 : decode cX4_home 78 = .ok (.iload 4, 2) := by decide +kernel
theorem dX4_home_80 : decode cX4_home 80 = .ok (.invokestatic 168, 3) := by decide +kernel
theorem dX4_home_83 : decode cX4_home 83 = .ok (.if_icmp .ge 56, 3) := by decide +kernel
theorem dX4_home_86 : decode cX4_home 86 = .ok (.iconst 0, 1) := by decide +kernel
theorem dX4_home_87 : decode cX4_home 87 = .ok (.istore 6, 2) := by decide +kernel
theorem dX4_home_89 : decode cX4_home 89 = .ok (.iload 6, 2) := by decide +kernel
theorem dX4_home_91 : decode cX4_home 91 = .ok (.iload_n 3, 1) := by decide +kernel
theorem dX4_home_92 : decode cX4_home 92 = .ok (.if_icmp .ge 15, 3) := by decide +kernel
theorem dX4_home_95 : decode cX4_home 95 = .ok (.aload_n 0, 1) := by decide +kernel
theorem dX4_home_96 : decode cX4_home 96 = .ok (.iload 5, 2) := by decide +kernel
theorem dX4_home_98 : decode cX4_home 98 = .ok (.invokevirtual 115, 3) := by decide +kernel
theorem dX4_home_101 : decode cX4_home 101 = .ok (.iinc 6 1, 3) := by decide +kernel
theorem dX4_home_104 : decode cX4_home 104 = .ok (.goto (-15), 3) := by decide +kernel
theorem dX4_home_107 : decode cX4_home 107 = .ok (.aload_n 0, 1) := by decide +kernel
theorem dX4_home_108 : decode cX4_home 108 = .ok (.getfield 7, 3) := by decide +kernel
theorem dX4_home_111 : decode cX4_home 111 = .ok (.iconst 4, 1) := by decide +kernel
theorem dX4_home_112 : decode cX4_home 112 = .ok (.iload_n 1, 1) := by decide +kernel
theorem dX4_home_113 : decode cX4_home 113 = .ok (.iadd, 1) := by decide +kernel
theorem dX4_home_114 : decode cX4_home 114 = .ok (.iaload, 1) := by decide +kernel
theorem dX4_home_115 : decode cX4_home 115 = .ok (.iload_n 2, 1) := by decide +kernel
theorem dX4_home_116 : decode cX4_home 116 = .ok (.if_icmp .gt 8, 3) := by decide +kernel
theorem dX4_home_119 : decode cX4_home 119 = .ok (.iload 5, 2) := by decide +kernel
theorem dX4_home_121 : decode cX4_home 121 = .ok (.goto 5, 3) := by decide +kernel
theorem dX4_home_124 : decode cX4_home 124 = .ok (.iload 4, 2) := by decide +kernel
theorem dX4_home_126 : decode cX4_home 126 = .ok (.istore 4, 2) := by decide +kernel
theorem dX4_home_128 : decode cX4_home 128 = .ok (.aload_n 0, 1) := by decide +kernel
theorem dX4_home_129 : decode cX4_home 129 = .ok (.getfield 19, 3) := by decide +kernel
theorem dX4_home_132 : decode cX4_home 132 = .ok (.aload_n 0, 1) := by decide +kernel
theorem dX4_home_133 : decode cX4_home 133 = .ok (.getfield 7, 3) := by decide +kernel
theorem dX4_home_136 : decode cX4_home 136 = .ok (.invokestatic 141, 3) := by decide +kernel
theorem dX4_home_139 : decode cX4_home 139 = .ok (.iinc 5 1, 3) := by decide +kernel
theorem dX4_home_142 : decode cX4_home 142 = .ok (.goto (-87), 3) := by decide +kernel
theorem dX4_home_145 : decode cX4_home 145 = .ok (.aload_n 0, 1) := by decide +kernel
theorem dX4_home_146 : decode cX4_home 146 = .ok (.iload 4, 2) := by decide +kernel
theorem dX4_home_148 : decode cX4_home 148 = .ok (.invokevirtual 163, 3) := by decide +kernel
theorem dX4_home_151 : decode cX4_home 151 = .ok (.ireturn, 1) := by decide +kernel
theorem dX4_shut_0 : decode cX4_shut 0 = .ok (.iload_n 1, 1) := by decide +kernel
theorem dX4_shut_1 : decode cX4_shut 1 = .ok (.invokestatic 52, 3) := by decide +kernel
theorem dX4_shut_4 : decode cX4_shut 4 = .ok (.ifCond .eq 15, 3) := by decide +kernel
theorem dX4_shut_7 : decode cX4_shut 7 = .ok (.iload_n 2, 1) := by decide +kernel
theorem dX4_shut_8 : decode cX4_shut 8 = .ok (.i2l, 1) := by decide +kernel
theorem dX4_shut_9 : decode cX4_shut 9 = .ok (.lconst 0, 1) := by decide +kernel
theorem dX4_shut_10 : decode cX4_shut 10 = .ok (.ldc2_w 150, 3) := by decide +kernel
theorem dX4_shut_13 : decode cX4_shut 13 = .ok (.invokestatic 43, 3) := by decide +kernel
theorem dX4_shut_16 : decode cX4_shut 16 = .ok (.ifCond .ne 10, 3) := by decide +kernel
theorem dX4_shut_19 : decode cX4_shut 19 = .ok (.aload_n 0, 1) := by decide +kernel
theorem dX4_shut_20 : decode cX4_shut 20 = .ok (.ldc 40, 2) := by decide +kernel
theorem dX4_shut_22 : decode cX4_shut 22 = .ok (.invokevirtual 48, 3) := by decide +kernel
theorem dX4_shut_25 : decode cX4_shut 25 = .ok (.ireturn, 1) := by decide +kernel
theorem dX4_shut_26 : decode cX4_shut 26 = .ok (.iconst 0, 1) := by decide +kernel
theorem dX4_shut_27 : decode cX4_shut 27 = .ok (.istore_n 3, 1) := by decide +kernel
theorem dX4_shut_28 : decode cX4_shut 28 = .ok (.sipush 10000, 3) := by decide +kernel
theorem dX4_shut_31 : decode cX4_shut 31 = .ok (.istore 4, 2) := by decide +kernel
theorem dX4_shut_33 : decode cX4_shut 33 = .ok (.iconst 0, 1) := by decide +kernel
theorem dX4_shut_34 : decode cX4_shut 34 = .ok (.istore 5, 2) := by decide +kernel
theorem dX4_shut_36 : decode cX4_shut 36 = .ok (.iload 5, 2) := by decide +kernel
theorem dX4_shut_38 : decode cX4_shut 38 = .ok (.bipush 8, 2) := by decide +kernel
theorem dX4_shut_40 : decode cX4_shut 40 = .ok (.if_icmp .ge 66, 3) := by decide +kernel
theorem dX4_shut_43 : decode cX4_shut 43 = .ok (.aload_n 0, 1) := by decide +kernel
theorem dX4_shut_44 : decode cX4_shut 44 = .ok (.bipush 13, 2) := by decide +kernel
theorem dX4_shut_46 : decode cX4_shut 46 = .ok (.iload 5, 2) := by decide +kernel
theorem dX4_shut_48 : decode cX4_shut 48 = .ok (.iadd, 1) := by decide +kernel
theorem dX4_shut_49 : decode cX4_shut 49 = .ok (.iconst 0, 1) := by decide +kernel
theorem dX4_shut_50 : decode cX4_shut 50 = .ok (.invokevirtual 58, 3) := by decide +kernel
theorem dX4_shut_53 : decode cX4_shut 53 = .ok (.istore 6, 2) := by decide +kernel
theorem dX4_shut_55 : decode cX4_shut 55 = .ok (.aload_n 0, 1) := by decide +kernel
theorem dX4_shut_56 : decode cX4_shut 56 = .ok (.iconst 4, 1) := by decide +kernel
theorem dX4_shut_57 : decode cX4_shut 57 = .ok (.iload_n 1, 1) := by decide +kernel
theorem dX4_shut_58 : decode cX4_shut 58 = .ok (.iadd, 1) := by decide +kernel
theorem dX4_shut_59 : decode cX4_shut 59 = .ok (.iload_n 2, 1) := by decide +kernel
theorem dX4_shut_60 : decode cX4_shut 60 = .ok (.invokevirtual 147, 3) := by decide +kernel
theorem dX4_shut_63 : decode cX4_shut 63 = .ok (.istore 7, 2) := by decide +kernel
theorem dX4_shut_65 : decode cX4_shut 65 = .ok (.aload_n 0, 1) := by decide +kernel
theorem dX4_shut_66 : decode cX4_shut 66 = .ok (.getfield 7, 3) := by decide +kernel
theorem dX4_shut_69 : decode cX4_shut 69 = .ok (.bipush 13, 2) := by decide +kernel
theorem dX4_shut_71 : decode cX4_shut 71 = .ok (.iload 5, 2) := by decide +kernel
theorem dX4_shut_73 : decode cX4_shut 73 = .ok (.iadd, 1) := by decide +kernel
theorem dX4_shut_74 : decode cX4_shut 74 = .ok (.iload 6, 2) := by decide +kernel
theorem dX4_shut_76 : decode cX4_shut 76 = .ok (.iastore, 1) := by decide +kernel
theorem dX4_shut_77 : decode cX4_shut 77 = .ok (.iload 7, 2) := by decide +kernel
theorem dX4_shut_79 : decode cX4_shut 79 = .ok (.iload 4, 2) := by decide +kernel
theorem dX4_shut_81 : decode cX4_shut 81 = .ok (.if_icmp .ge 8, 3) := by decide +kernel
theorem dX4_shut_84 : decode cX4_shut 84 = .ok (.iload 5, 2) := by decide +kernel
theorem dX4_shut_86 : decode cX4_shut 86 = .ok (.goto 4, 3) := by decide +kernel
theorem dX4_shut_89 : decode cX4_shut 89 = .ok (.iload_n 3, 1) := by decide +kernel
theorem dX4_shut_90 : decode cX4_shut 90 = .ok (.istore_n 3, 1) := by decide +kernel
theorem dX4_shut_91 : decode cX4_shut 91 = .ok (.iload 4, 2) := by decide +kernel
theorem dX4_shut_93 : decode cX4_shut 93 = .ok (.iload 7, 2) := by decide +kernel
theorem dX4_shut_95 : decode cX4_shut 95 = .ok (.invokestatic 86, 3) := by decide +kernel
theorem dX4_shut_98 : decode cX4_shut 98 = .ok (.istore 4, 2) := by decide +kernel
theorem dX4_shut_100 : decode cX4_shut 100 = .ok (.iinc 5 1, 3) := by decide +kernel
theorem dX4_shut_103 : decode cX4_shut 103 = .ok (.goto (-67), 3) := by decide +kernel
theorem dX4_shut_106 : decode cX4_shut 106 = .ok (.iload_n 3, 1) := by decide +kernel
theorem dX4_shut_107 : decode cX4_shut 107 = .ok (.ireturn, 1) := by decide +kernel
theorem dX4_isTold_0 : decode cX4_isTold 0 = .ok (.aload_n 0, 1) := by decide +kernel
theorem dX4_isTold_1 : decode cX4_isTold 1 = .ok (.getfield 7, 3) := by decide +kernel
theorem dX4_isTold_4 : decode cX4_isTold 4 = .ok (.aload_n 0, 1) := by decide +kernel
theorem dX4_isTold_5 : decode cX4_isTold 5 = .ok (.getfield 19, 3) := by decide +kernel
theorem dX4_isTold_8 : decode cX4_isTold 8 = .ok (.invokestatic 141, 3) := by decide +kernel
theorem dX4_isTold_11 : decode cX4_isTold 11 = .ok (.iconst 0, 1) := by decide +kernel
theorem dX4_isTold_12 : decode cX4_isTold 12 = .ok (.istore 4, 2) := by decide +kernel
theorem dX4_isTold_14 : decode cX4_isTold 14 = .ok (.iload 4, 2) := by decide +kernel
theorem dX4_isTold_16 : decode cX4_isTold 16 = .ok (.iload_n 3, 1) := by decide +kernel
theorem dX4_isTold_17 : decode cX4_isTold 17 = .ok (.if_icmp .ge 14, 3) := by decide +kernel
theorem dX4_isTold_20 : decode cX4_isTold 20 = .ok (.aload_n 0, 1) := by decide +kernel
theorem dX4_isTold_21 : decode cX4_isTold 21 = .ok (.iload_n 2, 1) := by decide +kernel
theorem dX4_isTold_22 : decode cX4_isTold 22 = .ok (.invokevirtual 115, 3) := by decide +kernel
theorem dX4_isTold_25 : decode cX4_isTold 25 = .ok (.iinc 4 1, 3) := by decide +kernel
theorem dX4_isTold_28 : decode cX4_isTold 28 = .ok (.goto (-14), 3) := by decide +kernel
theorem dX4_isTold_31 : decode cX4_isTold 31 = .ok (.iconst 1, 1) := by decide +kernel
theorem dX4_isTold_32 : decode cX4_isTold 32 = .ok (.istore 4, 2) := by decide +kernel
theorem dX4_isTold_34 : decode cX4_isTold 34 = .ok (.iconst 0, 1) := by decide +kernel
theorem dX4_isTold_35 : decode cX4_isTold 35 = .ok (.istore 5, 2) := by decide +kernel
theorem dX4_isTold_37 : decode cX4_isTold 37 = .ok (.iload 5, 2) := by decide +kernel
theorem dX4_isTold_39 : decode cX4_isTold 39 = .ok (.aload_n 0, 1) := by decide +kernel
theorem dX4_isTold_40 : decode cX4_isTold 40 = .ok (.getfield 31, 3) := by decide +kernel
theorem dX4_isTold_43 : decode cX4_isTold 43 = .ok (.iload_n 1, 1) := by decide +kernel
theorem dX4_isTold_44 : decode cX4_isTold 44 = .ok (.iaload, 1) := by decide +kernel
theorem dX4_isTold_45 : decode cX4_isTold 45 = .ok (.if_icmp .ge 61, 3) := by decide +kernel
theorem dX4_isTold_48 : decode cX4_isTold 48 = .ok (.iload 5, 2) := by decide +kernel
theorem dX4_isTold_50 : decode cX4_isTold 50 = .ok (.bipush 8, 2) := by decide +kernel
theorem dX4_isTold_52 : decode cX4_isTold 52 = .ok (.if_icmp .ge 54, 3) := by decide +kernel
theorem dX4_isTold_55 : decode cX4_isTold 55 = .ok (.aload_n 0, 1) := by decide +kernel
theorem dX4_isTold_56 : decode cX4_isTold 56 = .ok (.getfield 34, 3) := by decide +kernel
theorem dX4_isTold_59 : decode cX4_isTold 59 = .ok (.bipush 40, 2) := by decide +kernel
theorem dX4_isTold_61 : decode cX4_isTold 61 = .ok (.iload_n 1, 1) := by decide +kernel
theorem dX4_isTold_62 : decode cX4_isTold 62 = .ok (.imul, 1) := by decide +kernel
theorem dX4_isTold_63 : decode cX4_isTold 63 = .ok (.iload 5, 2) := by decide +kernel
theorem dX4_isTold_65 : decode cX4_isTold 65 = .ok (.iadd, 1) := by decide +kernel
theorem dX4_isTold_66 : decode cX4_isTold 66 = .ok (.iaload, 1) := by decide +kernel
theorem dX4_isTold_67 : decode cX4_isTold 67 = .ok (.istore 6, 2) := by decide +kernel
theorem dX4_isTold_69 : decode cX4_isTold 69 = .ok (.iload 4, 2) := by decide +kernel
theorem dX4_isTold_71 : decode cX4_isTold 71 = .ok (.iload 6, 2) := by decide +kernel
theorem dX4_isTold_73 : decode cX4_isTold 73 = .ok (.iconst (-1), 1) := by decide +kernel
theorem dX4_isTold_74 : decode cX4_isTold 74 = .ok (.if_icmp .eq 18, 3) := by decide +kernel
theorem dX4_isTold_77 : decode cX4_isTold 77 = .ok (.iload 6, 2) := by decide +kernel
theorem dX4_isTold_79 : decode cX4_isTold 79 = .ok (.aload_n 0, 1) := by decide +kernel
theorem dX4_isTold_80 : decode cX4_isTold 80 = .ok (.getfield 7, 3) := by decide +kernel
theorem dX4_isTold_83 : decode cX4_isTold 83 = .ok (.bipush 13, 2) := by decide +kernel
theorem dX4_isTold_85 : decode cX4_isTold 85 = .ok (.iload 5, 2) := by decide +kernel
theorem dX4_isTold_87 : decode cX4_isTold 87 = .ok (.iadd, 1) := by decide +kernel
theorem dX4_isTold_88 : decode cX4_isTold 88 = .ok (.iaload, 1) := by decide +kernel
theorem dX4_isTold_89 : decode cX4_isTold 89 = .ok (.if_icmp .ne 7, 3) := by decide +kernel
theorem dX4_isTold_92 : decode cX4_isTold 92 = .ok (.iconst 1, 1) := by decide +kernel
theorem dX4_isTold_93 : decode cX4_isTold 93 = .ok (.goto 4, 3) := by decide +kernel
theorem dX4_isTold_96 : decode cX4_isTold 96 = .ok (.iconst 0, 1) := by decide +kernel
theorem dX4_isTold_97 : decode cX4_isTold 97 = .ok (.iand, 1) := by decide +kernel
theorem dX4_isTold_98 : decode cX4_isTold 98 = .ok (.istore 4, 2) := by decide +kernel
theorem dX4_isTold_100 : decode cX4_isTold 100 = .ok (.iinc 5 1, 3) := by decide +kernel
theorem dX4_isTold_103 : decode cX4_isTold 103 = .ok (.goto (-66), 3) := by decide +kernel
theorem dX4_isTold_106 : decode cX4_isTold 106 = .ok (.aload_n 0, 1) := by decide +kernel
theorem dX4_isTold_107 : decode cX4_isTold 107 = .ok (.getfield 19, 3) := by decide +kernel
theorem dX4_isTold_110 : decode cX4_isTold 110 = .ok (.aload_n 0, 1) := by decide +kernel
theorem dX4_isTold_111 : decode cX4_isTold 111 = .ok (.getfield 7, 3) := by decide +kernel
theorem dX4_isTold_114 : decode cX4_isTold 114 = .ok (.invokestatic 141, 3) := by decide +kernel
theorem dX4_isTold_117 : decode cX4_isTold 117 = .ok (.iload 4, 2) := by decide +kernel
theorem dX4_isTold_119 : decode cX4_isTold 119 = .ok (.ireturn, 1) := by decide +kernel
theorem dX4_allBut_0 : decode cX4_allBut 0 = .ok (.iconst 1, 1) := by decide +kernel
theorem dX4_allBut_1 : decode cX4_allBut 1 = .ok (.aload_n 0, 1) := by decide +kernel
theorem dX4_allBut_2 : decode cX4_allBut 2 = .ok (.getfield 7, 3) := by decide +kernel
theorem dX4_allBut_5 : decode cX4_allBut 5 = .ok (.iconst 0, 1) := by decide +kernel
theorem dX4_allBut_6 : decode cX4_allBut 6 = .ok (.iaload, 1) := by decide +kernel
theorem dX4_allBut_7 : decode cX4_allBut 7 = .ok (.ishl, 1) := by decide +kernel
theorem dX4_allBut_8 : decode cX4_allBut 8 = .ok (.iconst 1, 1) := by decide +kernel
theorem dX4_allBut_9 : decode cX4_allBut 9 = .ok (.isub, 1) := by decide +kernel
theorem dX4_allBut_10 : decode cX4_allBut 10 = .ok (.iconst 1, 1) := by decide +kernel
theorem dX4_allBut_11 : decode cX4_allBut 11 = .ok (.iload_n 1, 1) := by decide +kernel
theorem dX4_allBut_12 : decode cX4_allBut 12 = .ok (.ishl, 1) := by decide +kernel
theorem dX4_allBut_13 : decode cX4_allBut 13 = .ok (.iconst (-1), 1) := by decide +kernel
theorem dX4_allBut_14 : decode cX4_allBut 14 = .ok (.ixor, 1) := by decide +kernel
theorem dX4_allBut_15 : decode cX4_allBut 15 = .ok (.iand, 1) := by decide +kernel
theorem dX4_allBut_16 : decode cX4_allBut 16 = .ok (.ireturn, 1) := by decide +kernel
theorem dX4_who_0 : decode cX4_who 0 = .ok (.aload_n 0, 1) := by decide +kernel
theorem dX4_who_1 : decode cX4_who 1 = .ok (.iload_n 1, 1) := by decide +kernel
theorem dX4_who_2 : decode cX4_who 2 = .ok (.invokevirtual 171, 3) := by decide +kernel
theorem dX4_who_5 : decode cX4_who 5 = .ok (.ifCond .eq 13, 3) := by decide +kernel
theorem dX4_who_8 : decode cX4_who 8 = .ok (.aload_n 0, 1) := by decide +kernel
theorem dX4_who_9 : decode cX4_who 9 = .ok (.aload_n 0, 1) := by decide +kernel
theorem dX4_who_10 : decode cX4_who 10 = .ok (.iload_n 1, 1) := by decide +kernel
theorem dX4_who_11 : decode cX4_who 11 = .ok (.invokevirtual 171, 3) := by decide +kernel
theorem dX4_who_14 : decode cX4_who 14 = .ok (.invokevirtual 48, 3) := by decide +kernel
theorem dX4_who_17 : decode cX4_who 17 = .ok (.ireturn, 1) := by decide +kernel
theorem dX4_who_18 : decode cX4_who 18 = .ok (.iconst 0, 1) := by decide +kernel
theorem dX4_who_19 : decode cX4_who 19 = .ok (.istore_n 2, 1) := by decide +kernel
theorem dX4_who_20 : decode cX4_who 20 = .ok (.iconst 0, 1) := by decide +kernel
theorem dX4_who_21 : decode cX4_who 21 = .ok (.istore_n 3, 1) := by decide +kernel
theorem dX4_who_22 : decode cX4_who 22 = .ok (.iload_n 3, 1) := by decide +kernel
theorem dX4_who_23 : decode cX4_who 23 = .ok (.aload_n 0, 1) := by decide +kernel
theorem dX4_who_24 : decode cX4_who 24 = .ok (.getfield 7, 3) := by decide +kernel
theorem dX4_who_27 : decode cX4_who 27 = .ok (.iconst 0, 1) := by decide +kernel
theorem dX4_who_28 : decode cX4_who 28 = .ok (.iaload, 1) := by decide +kernel
theorem dX4_who_29 : decode cX4_who 29 = .ok (.if_icmp .ge 33, 3) := by decide +kernel
theorem dX4_who_32 : decode cX4_who 32 = .ok (.iload_n 2, 1) := by decide +kernel
theorem dX4_who_33 : decode cX4_who 33 = .ok (.aload_n 0, 1) := by decide +kernel
theorem dX4_who_34 : decode cX4_who 34 = .ok (.iload_n 1, 1) := by decide +kernel
theorem dX4_who_35 : decode cX4_who 35 = .ok (.aload_n 0, 1) := by decide +kernel
theorem dX4_who_36 : decode cX4_who 36 = .ok (.iload_n 3, 1) := by decide +kernel
theorem dX4_who_37 : decode cX4_who 37 = .ok (.invokevirtual 174, 3) := by decide +kernel
theorem dX4_who_40 : decode cX4_who 40 = .ok (.iconst 1, 1) := by decide +kernel
theorem dX4_who_41 : decode cX4_who 41 = .ok (.invokevirtual 177, 3) := by decide +kernel
theorem dX4_who_44 : decode cX4_who 44 = .ok (.ifCond .eq 9, 3) := by decide +kernel
theorem dX4_who_47 : decode cX4_who 47 = .ok (.iconst 1, 1) := by decide +kernel
theorem dX4_who_48 : decode cX4_who 48 = .ok (.iload_n 3, 1) := by decide +kernel
theorem dX4_who_49 : decode cX4_who 49 = .ok (.ishl, 1) := by decide +kernel
theorem dX4_who_50 : decode cX4_who 50 = .ok (.goto 4, 3) := by decide +kernel
theorem dX4_who_53 : decode cX4_who 53 = .ok (.iconst 0, 1) := by decide +kernel
theorem dX4_who_54 : decode cX4_who 54 = .ok (.ior, 1) := by decide +kernel
theorem dX4_who_55 : decode cX4_who 55 = .ok (.istore_n 2, 1) := by decide +kernel
theorem dX4_who_56 : decode cX4_who 56 = .ok (.iinc 3 1, 3) := by decide +kernel
theorem dX4_who_59 : decode cX4_who 59 = .ok (.goto (-37), 3) := by decide +kernel
theorem dX4_who_62 : decode cX4_who 62 = .ok (.iload_n 2, 1) := by decide +kernel
theorem dX4_who_63 : decode cX4_who 63 = .ok (.ireturn, 1) := by decide +kernel
theorem dX4_fits_0 : decode cX4_fits 0 = .ok (.aload_n 0, 1) := by decide +kernel
theorem dX4_fits_1 : decode cX4_fits 1 = .ok (.iload_n 1, 1) := by decide +kernel
theorem dX4_fits_2 : decode cX4_fits 2 = .ok (.invokevirtual 171, 3) := by decide +kernel
theorem dX4_fits_5 : decode cX4_fits 5 = .ok (.ifCond .eq 11, 3) := by decide +kernel
theorem dX4_fits_8 : decode cX4_fits 8 = .ok (.aload_n 0, 1) := by decide +kernel
theorem dX4_fits_9 : decode cX4_fits 9 = .ok (.iload_n 1, 1) := by decide +kernel
theorem dX4_fits_10 : decode cX4_fits 10 = .ok (.invokevirtual 171, 3) := by decide +kernel
theorem dX4_fits_13 : decode cX4_fits 13 = .ok (.goto 29, 3) := by decide +kernel
theorem dX4_fits_16 : decode cX4_fits 16 = .ok (.aload_n 0, 1) := by decide +kernel
theorem dX4_fits_17 : decode cX4_fits 17 = .ok (.iload_n 2, 1) := by decide +kernel
theorem dX4_fits_18 : decode cX4_fits 18 = .ok (.invokevirtual 89, 3) := by decide +kernel
theorem dX4_fits_21 : decode cX4_fits 21 = .ok (.ifCond .eq 19, 3) := by decide +kernel
theorem dX4_fits_24 : decode cX4_fits 24 = .ok (.iload_n 3, 1) := by decide +kernel
theorem dX4_fits_25 : decode cX4_fits 25 = .ok (.i2l, 1) := by decide +kernel
theorem dX4_fits_26 : decode cX4_fits 26 = .ok (.lconst 0, 1) := by decide +kernel
theorem dX4_fits_27 : decode cX4_fits 27 = .ok (.ldc2_w 166, 3) := by decide +kernel
theorem dX4_fits_30 : decode cX4_fits 30 = .ok (.invokestatic 43, 3) := by decide +kernel
theorem dX4_fits_33 : decode cX4_fits 33 = .ok (.ifCond .eq 7, 3) := by decide +kernel
theorem dX4_fits_36 : decode cX4_fits 36 = .ok (.iconst 0, 1) := by decide +kernel
theorem dX4_fits_37 : decode cX4_fits 37 = .ok (.goto 5, 3) := by decide +kernel
theorem dX4_fits_40 : decode cX4_fits 40 = .ok (.ldc 40, 2) := by decide +kernel
theorem dX4_fits_42 : decode cX4_fits 42 = .ok (.istore 4, 2) := by decide +kernel
theorem dX4_fits_44 : decode cX4_fits 44 = .ok (.iload 4, 2) := by decide +kernel
theorem dX4_fits_46 : decode cX4_fits 46 = .ok (.ifCond .eq 10, 3) := by decide +kernel
theorem dX4_fits_49 : decode cX4_fits 49 = .ok (.aload_n 0, 1) := by decide +kernel
theorem dX4_fits_50 : decode cX4_fits 50 = .ok (.iload 4, 2) := by decide +kernel
theorem dX4_fits_52 : decode cX4_fits 52 = .ok (.invokevirtual 48, 3) := by decide +kernel
theorem dX4_fits_55 : decode cX4_fits 55 = .ok (.ireturn, 1) := by decide +kernel
theorem dX4_fits_56 : decode cX4_fits 56 = .ok (.aload_n 0, 1) := by decide +kernel
theorem dX4_fits_57 : decode cX4_fits 57 = .ok (.iload_n 2, 1) := by decide +kernel
theorem dX4_fits_58 : decode cX4_fits 58 = .ok (.iconst 1, 1) := by decide +kernel
theorem dX4_fits_59 : decode cX4_fits 59 = .ok (.invokevirtual 62, 3) := by decide +kernel
theorem dX4_fits_62 : decode cX4_fits 62 = .ok (.istore 5, 2) := by decide +kernel
theorem dX4_fits_64 : decode cX4_fits 64 = .ok (.iconst 0, 1) := by decide +kernel
theorem dX4_fits_65 : decode cX4_fits 65 = .ok (.istore 6, 2) := by decide +kernel
theorem dX4_fits_67 : decode cX4_fits 67 = .ok (.iconst 0, 1) := by decide +kernel
theorem dX4_fits_68 : decode cX4_fits 68 = .ok (.istore 7, 2) := by decide +kernel
theorem dX4_fits_70 : decode cX4_fits 70 = .ok (.iload 7, 2) := by decide +kernel
theorem dX4_fits_72 : decode cX4_fits 72 = .ok (.bipush 9, 2) := by decide +kernel
theorem dX4_fits_74 : decode cX4_fits 74 = .ok (.if_icmp .ge 48, 3) := by decide +kernel
theorem dX4_fits_77 : decode cX4_fits 77 = .ok (.aload_n 0, 1) := by decide +kernel
theorem dX4_fits_78 : decode cX4_fits 78 = .ok (.getfield 7, 3) := by decide +kernel
theorem dX4_fits_81 : decode cX4_fits 81 = .ok (.iload_n 2, 1) := by decide +kernel
theorem dX4_fits_82 : decode cX4_fits 82 = .ok (.iconst 1, 1) := by decide +kernel
theorem dX4_fits_83 : decode cX4_fits 83 = .ok (.invokestatic 76, 3) := by decide +kernel
theorem dX4_fits_86 : decode cX4_fits 86 = .ok (.iload 7, 2) := by decide +kernel
theorem dX4_fits_88 : decode cX4_fits 88 = .ok (.iastore, 1) := by decide +kernel
theorem dX4_fits_89 : decode cX4_fits 89 = .ok (.iload 6, 2) := by decide +kernel
theorem dX4_fits_91 : decode cX4_fits 91 = .ok (.aload_n 0, 1) := by decide +kernel
theorem dX4_fits_92 : decode cX4_fits 92 = .ok (.iload_n 1, 1) := by decide +kernel
theorem dX4_fits_93 : decode cX4_fits 93 = .ok (.aload_n 0, 1) := by decide +kernel
theorem dX4_fits_94 : decode cX4_fits 94 = .ok (.iload_n 2, 1) := by decide +kernel
theorem dX4_fits_95 : decode cX4_fits 95 = .ok (.invokevirtual 174, 3) := by decide +kernel
theorem dX4_fits_98 : decode cX4_fits 98 = .ok (.iload_n 3, 1) := by decide +kernel
theorem dX4_fits_99 : decode cX4_fits 99 = .ok (.invokevirtual 177, 3) := by decide +kernel
theorem dX4_fits_102 : decode cX4_fits 102 = .ok (.ifCond .eq 10, 3) := by decide +kernel
theorem dX4_fits_105 : decode cX4_fits 105 = .ok (.iconst 1, 1) := by decide +kernel
theorem dX4_fits_106 : decode cX4_fits 106 = .ok (.iload 7, 2) := by decide +kernel
theorem dX4_fits_108 : decode cX4_fits 108 = .ok (.ishl, 1) := by decide +kernel
theorem dX4_fits_109 : decode cX4_fits 109 = .ok (.goto 4, 3) := by decide +kernel
theorem dX4_fits_112 : decode cX4_fits 112 = .ok (.iconst 0, 1) := by decide +kernel
theorem dX4_fits_113 : decode cX4_fits 113 = .ok (.ior, 1) := by decide +kernel
theorem dX4_fits_114 : decode cX4_fits 114 = .ok (.istore 6, 2) := by decide +kernel
theorem dX4_fits_116 : decode cX4_fits 116 = .ok (.iinc 7 1, 3) := by decide +kernel
theorem dX4_fits_119 : decode cX4_fits 119 = .ok (.goto (-49), 3) := by decide +kernel
theorem dX4_fits_122 : decode cX4_fits 122 = .ok (.aload_n 0, 1) := by decide +kernel
theorem dX4_fits_123 : decode cX4_fits 123 = .ok (.getfield 7, 3) := by decide +kernel
theorem dX4_fits_126 : decode cX4_fits 126 = .ok (.iload_n 2, 1) := by decide +kernel
theorem dX4_fits_127 : decode cX4_fits 127 = .ok (.iconst 1, 1) := by decide +kernel
theorem dX4_fits_128 : decode cX4_fits 128 = .ok (.invokestatic 76, 3) := by decide +kernel
theorem dX4_fits_131 : decode cX4_fits 131 = .ok (.iload 5, 2) := by decide +kernel
theorem dX4_fits_133 : decode cX4_fits 133 = .ok (.iastore, 1) := by decide +kernel
theorem dX4_fits_134 : decode cX4_fits 134 = .ok (.iload 6, 2) := by decide +kernel
theorem dX4_fits_136 : decode cX4_fits 136 = .ok (.ireturn, 1) := by decide +kernel
theorem dX4_isInMood_0 : decode cX4_isInMood 0 = .ok (.aload_n 0, 1) := by decide +kernel
theorem dX4_isInMood_1 : decode cX4_isInMood 1 = .ok (.getfield 7, 3) := by decide +kernel
theorem dX4_isInMood_4 : decode cX4_isInMood 4 = .ok (.aload_n 0, 1) := by decide +kernel
theorem dX4_isInMood_5 : decode cX4_isInMood 5 = .ok (.getfield 19, 3) := by decide +kernel
theorem dX4_isInMood_8 : decode cX4_isInMood 8 = .ok (.invokestatic 141, 3) := by decide +kernel
theorem dX4_isInMood_11 : decode cX4_isInMood 11 = .ok (.iconst 1, 1) := by decide +kernel
theorem dX4_isInMood_12 : decode cX4_isInMood 12 = .ok (.istore_n 3, 1) := by decide +kernel
theorem dX4_isInMood_13 : decode cX4_isInMood 13 = .ok (.iconst 0, 1) := by decide +kernel
theorem dX4_isInMood_14 : decode cX4_isInMood 14 = .ok (.istore 4, 2) := by decide +kernel
theorem dX4_isInMood_16 : decode cX4_isInMood 16 = .ok (.iload 4, 2) := by decide +kernel
theorem dX4_isInMood_18 : decode cX4_isInMood 18 = .ok (.aload_n 0, 1) := by decide +kernel
theorem dX4_isInMood_19 : decode cX4_isInMood 19 = .ok (.getfield 31, 3) := by decide +kernel
theorem dX4_isInMood_22 : decode cX4_isInMood 22 = .ok (.iload_n 1, 1) := by decide +kernel
theorem dX4_isInMood_23 : decode cX4_isInMood 23 = .ok (.iaload, 1) := by decide +kernel
theorem dX4_isInMood_24 : decode cX4_isInMood 24 = .ok (.if_icmp .ge 55, 3) := by decide +kernel
theorem dX4_isInMood_27 : decode cX4_isInMood 27 = .ok (.iload_n 3, 1) := by decide +kernel
theorem dX4_isInMood_28 : decode cX4_isInMood 28 = .ok (.ifCond .eq 51, 3) := by decide +kernel
theorem dX4_isInMood_31 : decode cX4_isInMood 31 = .ok (.aload_n 0, 1) := by decide +kernel
theorem dX4_isInMood_32 : decode cX4_isInMood 32 = .ok (.getfield 34, 3) := by decide +kernel
theorem dX4_isInMood_35 : decode cX4_isInMood 35 = .ok (.bipush 40, 2) := by decide +kernel
theorem dX4_isInMood_37 : decode cX4_isInMood 37 = .ok (.iload_n 1, 1) := by decide +kernel
theorem dX4_isInMood_38 : decode cX4_isInMood 38 = .ok (.imul, 1) := by decide +kernel
theorem dX4_isInMood_39 : decode cX4_isInMood 39 = .ok (.iload 4, 2) := by decide +kernel
theorem dX4_isInMood_41 : decode cX4_isInMood 41 = .ok (.iadd, 1) := by decide +kernel
theorem dX4_isInMood_42 : decode cX4_isInMood 42 = .ok (.iaload, 1) := by decide +kernel
theorem dX4_isInMood_43 : decode cX4_isInMood 43 = .ok (.istore 5, 2) := by decide +kernel
theorem dX4_isInMood_45 : decode cX4_isInMood 45 = .ok (.iload 5, 2) := by decide +kernel
theorem dX4_isInMood_47 : decode cX4_isInMood 47 = .ok (.iconst (-1), 1) := by decide +kernel
theorem dX4_isInMood_48 : decode cX4_isInMood 48 = .ok (.if_icmp .eq 14, 3) := by decide +kernel
theorem dX4_isInMood_51 : decode cX4_isInMood 51 = .ok (.iload 5, 2) := by decide +kernel
theorem dX4_isInMood_53 : decode cX4_isInMood 53 = .ok (.aload_n 0, 1) := by decide +kernel
theorem dX4_isInMood_54 : decode cX4_isInMood 54 = .ok (.iload_n 2, 1) := by decide +kernel
theorem dX4_isInMood_55 : decode cX4_isInMood 55 = .ok (.iconst 3, 1) := by decide +kernel
theorem dX4_isInMood_56 : decode cX4_isInMood 56 = .ok (.invokevirtual 62, 3) := by decide +kernel
theorem dX4_isInMood_59 : decode cX4_isInMood 59 = .ok (.if_icmp .ne 7, 3) := by decide +kernel
theorem dX4_isInMood_62 : decode cX4_isInMood 62 = .ok (.iconst 1, 1) := by decide +kernel
theorem dX4_isInMood_63 : decode cX4_isInMood 63 = .ok (.goto 4, 3) := by decide +kernel
theorem dX4_isInMood_66 : decode cX4_isInMood 66 = .ok (.iconst 0, 1) := by decide +kernel
theorem dX4_isInMood_67 : decode cX4_isInMood 67 = .ok (.istore_n 3, 1) := by decide +kernel
theorem dX4_isInMood_68 : decode cX4_isInMood 68 = .ok (.aload_n 0, 1) := by decide +kernel
theorem dX4_isInMood_69 : decode cX4_isInMood 69 = .ok (.iconst 0, 1) := by decide +kernel
theorem dX4_isInMood_70 : decode cX4_isInMood 70 = .ok (.invokevirtual 115, 3) := by decide +kernel
theorem dX4_isInMood_73 : decode cX4_isInMood 73 = .ok (.iinc 4 1, 3) := by decide +kernel
theorem dX4_isInMood_76 : decode cX4_isInMood 76 = .ok (.goto (-60), 3) := by decide +kernel
theorem dX4_isInMood_79 : decode cX4_isInMood 79 = .ok (.aload_n 0, 1) := by decide +kernel
theorem dX4_isInMood_80 : decode cX4_isInMood 80 = .ok (.getfield 19, 3) := by decide +kernel
theorem dX4_isInMood_83 : decode cX4_isInMood 83 = .ok (.aload_n 0, 1) := by decide +kernel
theorem dX4_isInMood_84 : decode cX4_isInMood 84 = .ok (.getfield 7, 3) := by decide +kernel
theorem dX4_isInMood_87 : decode cX4_isInMood 87 = .ok (.invokestatic 141, 3) := by decide +kernel
theorem dX4_isInMood_90 : decode cX4_isInMood 90 = .ok (.iload_n 3, 1) := by decide +kernel
theorem dX4_isInMood_91 : decode cX4_isInMood 91 = .ok (.ireturn, 1) := by decide +kernel
theorem dX4_kinds_0 : decode cX4_kinds 0 = .ok (.aload_n 0, 1) := by decide +kernel
theorem dX4_kinds_1 : decode cX4_kinds 1 = .ok (.iload_n 1, 1) := by decide +kernel
theorem dX4_kinds_2 : decode cX4_kinds 2 = .ok (.invokevirtual 171, 3) := by decide +kernel
theorem dX4_kinds_5 : decode cX4_kinds 5 = .ok (.ifCond .eq 11, 3) := by decide +kernel
theorem dX4_kinds_8 : decode cX4_kinds 8 = .ok (.aload_n 0, 1) := by decide +kernel
theorem dX4_kinds_9 : decode cX4_kinds 9 = .ok (.iload_n 1, 1) := by decide +kernel
theorem dX4_kinds_10 : decode cX4_kinds 10 = .ok (.invokevirtual 171, 3) := by decide +kernel
theorem dX4_kinds_13 : decode cX4_kinds 13 = .ok (.goto 17, 3) := by decide +kernel
theorem dX4_kinds_16 : decode cX4_kinds 16 = .ok (.aload_n 0, 1) := by decide +kernel
theorem dX4_kinds_17 : decode cX4_kinds 17 = .ok (.iload_n 2, 1) := by decide +kernel
theorem dX4_kinds_18 : decode cX4_kinds 18 = .ok (.invokevirtual 89, 3) := by decide +kernel
theorem dX4_kinds_21 : decode cX4_kinds 21 = .ok (.ifCond .eq 7, 3) := by decide +kernel
theorem dX4_kinds_24 : decode cX4_kinds 24 = .ok (.iconst 0, 1) := by decide +kernel
theorem dX4_kinds_25 : decode cX4_kinds 25 = .ok (.goto 5, 3) := by decide +kernel
theorem dX4_kinds_28 : decode cX4_kinds 28 = .ok (.ldc 40, 2) := by decide +kernel
theorem dX4_kinds_30 : decode cX4_kinds 30 = .ok (.istore_n 3, 1) := by decide +kernel
theorem dX4_kinds_31 : decode cX4_kinds 31 = .ok (.iload_n 3, 1) := by decide +kernel
theorem dX4_kinds_32 : decode cX4_kinds 32 = .ok (.ifCond .eq 9, 3) := by decide +kernel
theorem dX4_kinds_35 : decode cX4_kinds 35 = .ok (.aload_n 0, 1) := by decide +kernel
theorem dX4_kinds_36 : decode cX4_kinds 36 = .ok (.iload_n 3, 1) := by decide +kernel
theorem dX4_kinds_37 : decode cX4_kinds 37 = .ok (.invokevirtual 48, 3) := by decide +kernel
theorem dX4_kinds_40 : decode cX4_kinds 40 = .ok (.ireturn, 1) := by decide +kernel
theorem dX4_kinds_41 : decode cX4_kinds 41 = .ok (.aload_n 0, 1) := by decide +kernel
theorem dX4_kinds_42 : decode cX4_kinds 42 = .ok (.iload_n 2, 1) := by decide +kernel
theorem dX4_kinds_43 : decode cX4_kinds 43 = .ok (.iconst 0, 1) := by decide +kernel
theorem dX4_kinds_44 : decode cX4_kinds 44 = .ok (.invokevirtual 62, 3) := by decide +kernel
theorem dX4_kinds_47 : decode cX4_kinds 47 = .ok (.istore 4, 2) := by decide +kernel
theorem dX4_kinds_49 : decode cX4_kinds 49 = .ok (.iconst 0, 1) := by decide +kernel
theorem dX4_kinds_50 : decode cX4_kinds 50 = .ok (.istore 5, 2) := by decide +kernel
theorem dX4_kinds_52 : decode cX4_kinds 52 = .ok (.iconst 0, 1) := by decide +kernel
theorem dX4_kinds_53 : decode cX4_kinds 53 = .ok (.istore 6, 2) := by decide +kernel
theorem dX4_kinds_55 : decode cX4_kinds 55 = .ok (.iload 6, 2) := by decide +kernel
theorem dX4_kinds_57 : decode cX4_kinds 57 = .ok (.bipush 6, 2) := by decide +kernel
theorem dX4_kinds_59 : decode cX4_kinds 59 = .ok (.if_icmp .gt 43, 3) := by decide +kernel
theorem dX4_kinds_62 : decode cX4_kinds 62 = .ok (.aload_n 0, 1) := by decide +kernel
theorem dX4_kinds_63 : decode cX4_kinds 63 = .ok (.getfield 7, 3) := by decide +kernel
theorem dX4_kinds_66 : decode cX4_kinds 66 = .ok (.iload_n 2, 1) := by decide +kernel
theorem dX4_kinds_67 : decode cX4_kinds 67 = .ok (.iconst 0, 1) := by decide +kernel
theorem dX4_kinds_68 : decode cX4_kinds 68 = .ok (.invokestatic 76, 3) := by decide +kernel
theorem dX4_kinds_71 : decode cX4_kinds 71 = .ok (.iload 6, 2) := by decide +kernel
theorem dX4_kinds_73 : decode cX4_kinds 73 = .ok (.iastore, 1) := by decide +kernel
theorem dX4_kinds_74 : decode cX4_kinds 74 = .ok (.iload 5, 2) := by decide +kernel
theorem dX4_kinds_76 : decode cX4_kinds 76 = .ok (.aload_n 0, 1) := by decide +kernel
theorem dX4_kinds_77 : decode cX4_kinds 77 = .ok (.iload_n 1, 1) := by decide +kernel
theorem dX4_kinds_78 : decode cX4_kinds 78 = .ok (.iload_n 2, 1) := by decide +kernel
theorem dX4_kinds_79 : decode cX4_kinds 79 = .ok (.invokevirtual 181, 3) := by decide +kernel
theorem dX4_kinds_82 : decode cX4_kinds 82 = .ok (.ifCond .eq 10, 3) := by decide +kernel
theorem dX4_kinds_85 : decode cX4_kinds 85 = .ok (.iconst 1, 1) := by decide +kernel
theorem dX4_kinds_86 : decode cX4_kinds 86 = .ok (.iload 6, 2) := by decide +kernel
theorem dX4_kinds_88 : decode cX4_kinds 88 = .ok (.ishl, 1) := by decide +kernel
theorem dX4_kinds_89 : decode cX4_kinds 89 = .ok (.goto 4, 3) := by decide +kernel
theorem dX4_kinds_92 : decode cX4_kinds 92 = .ok (.iconst 0, 1) := by decide +kernel
theorem dX4_kinds_93 : decode cX4_kinds 93 = .ok (.ior, 1) := by decide +kernel
theorem dX4_kinds_94 : decode cX4_kinds 94 = .ok (.istore 5, 2) := by decide +kernel
theorem dX4_kinds_96 : decode cX4_kinds 96 = .ok (.iinc 6 1, 3) := by decide +kernel
theorem dX4_kinds_99 : decode cX4_kinds 99 = .ok (.goto (-44), 3) := by decide +kernel
theorem dX4_kinds_102 : decode cX4_kinds 102 = .ok (.aload_n 0, 1) := by decide +kernel
theorem dX4_kinds_103 : decode cX4_kinds 103 = .ok (.getfield 7, 3) := by decide +kernel
theorem dX4_kinds_106 : decode cX4_kinds 106 = .ok (.iload_n 2, 1) := by decide +kernel
theorem dX4_kinds_107 : decode cX4_kinds 107 = .ok (.iconst 0, 1) := by decide +kernel
theorem dX4_kinds_108 : decode cX4_kinds 108 = .ok (.invokestatic 76, 3) := by decide +kernel
theorem dX4_kinds_111 : decode cX4_kinds 111 = .ok (.iload 4, 2) := by decide +kernel
theorem dX4_kinds_113 : decode cX4_kinds 113 = .ok (.iastore, 1) := by decide +kernel
theorem dX4_kinds_114 : decode cX4_kinds 114 = .ok (.iload 5, 2) := by decide +kernel
theorem dX4_kinds_116 : decode cX4_kinds 116 = .ok (.ireturn, 1) := by decide +kernel
theorem dX4_draw_0 : decode cX4_draw 0 = .ok (.aload_n 0, 1) := by decide +kernel
theorem dX4_draw_1 : decode cX4_draw 1 = .ok (.getfield 7, 3) := by decide +kernel
theorem dX4_draw_4 : decode cX4_draw 4 = .ok (.iconst 2, 1) := by decide +kernel
theorem dX4_draw_5 : decode cX4_draw 5 = .ok (.aload_n 0, 1) := by decide +kernel
theorem dX4_draw_6 : decode cX4_draw 6 = .ok (.getfield 7, 3) := by decide +kernel
theorem dX4_draw_9 : decode cX4_draw 9 = .ok (.iconst 2, 1) := by decide +kernel
theorem dX4_draw_10 : decode cX4_draw 10 = .ok (.iaload, 1) := by decide +kernel
theorem dX4_draw_11 : decode cX4_draw 11 = .ok (.ldc 185, 2) := by decide +kernel
theorem dX4_draw_13 : decode cX4_draw 13 = .ok (.imul, 1) := by decide +kernel
theorem dX4_draw_14 : decode cX4_draw 14 = .ok (.sipush 12345, 3) := by decide +kernel
theorem dX4_draw_17 : decode cX4_draw 17 = .ok (.iadd, 1) := by decide +kernel
theorem dX4_draw_18 : decode cX4_draw 18 = .ok (.iastore, 1) := by decide +kernel
theorem dX4_draw_19 : decode cX4_draw 19 = .ok (.aload_n 0, 1) := by decide +kernel
theorem dX4_draw_20 : decode cX4_draw 20 = .ok (.getfield 7, 3) := by decide +kernel
theorem dX4_draw_23 : decode cX4_draw 23 = .ok (.iconst 2, 1) := by decide +kernel
theorem dX4_draw_24 : decode cX4_draw 24 = .ok (.iaload, 1) := by decide +kernel
theorem dX4_draw_25 : decode cX4_draw 25 = .ok (.bipush 8, 2) := by decide +kernel
theorem dX4_draw_27 : decode cX4_draw 27 = .ok (.iushr, 1) := by decide +kernel
theorem dX4_draw_28 : decode cX4_draw 28 = .ok (.ireturn, 1) := by decide +kernel
theorem dX4_gales_0 : decode cX4_gales 0 = .ok (.iload_n 1, 1) := by decide +kernel
theorem dX4_gales_1 : decode cX4_gales 1 = .ok (.i2l, 1) := by decide +kernel
theorem dX4_gales_2 : decode cX4_gales 2 = .ok (.lconst 1, 1) := by decide +kernel
theorem dX4_gales_3 : decode cX4_gales 3 = .ok (.ldc2_w 166, 3) := by decide +kernel
theorem dX4_gales_6 : decode cX4_gales 6 = .ok (.invokestatic 43, 3) := by decide +kernel
theorem dX4_gales_9 : decode cX4_gales 9 = .ok (.ifCond .ne 10, 3) := by decide +kernel
theorem dX4_gales_12 : decode cX4_gales 12 = .ok (.aload_n 0, 1) := by decide +kernel
theorem dX4_gales_13 : decode cX4_gales 13 = .ok (.ldc 40, 2) := by decide +kernel
theorem dX4_gales_15 : decode cX4_gales 15 = .ok (.invokevirtual 48, 3) := by decide +kernel
theorem dX4_gales_18 : decode cX4_gales 18 = .ok (.ireturn, 1) := by decide +kernel
theorem dX4_gales_19 : decode cX4_gales 19 = .ok (.aload_n 0, 1) := by decide +kernel
theorem dX4_gales_20 : decode cX4_gales 20 = .ok (.getfield 7, 3) := by decide +kernel
theorem dX4_gales_23 : decode cX4_gales 23 = .ok (.iconst 1, 1) := by decide +kernel
theorem dX4_gales_24 : decode cX4_gales 24 = .ok (.iaload, 1) := by decide +kernel
theorem dX4_gales_25 : decode cX4_gales 25 = .ok (.iload_n 1, 1) := by decide +kernel
theorem dX4_gales_26 : decode cX4_gales 26 = .ok (.iadd, 1) := by decide +kernel
theorem dX4_gales_27 : decode cX4_gales 27 = .ok (.ldc 120, 2) := by decide +kernel
theorem dX4_gales_29 : decode cX4_gales 29 = .ok (.if_icmp .le 10, 3) := by decide +kernel
theorem dX4_gales_32 : decode cX4_gales 32 = .ok (.aload_n 0, 1) := by decide +kernel
theorem dX4_gales_33 : decode cX4_gales 33 = .ok (.ldc 121, 2) := by decide +kernel
theorem dX4_gales_35 : decode cX4_gales 35 = .ok (.invokevirtual 48, 3) := by decide +kernel
theorem dX4_gales_38 : decode cX4_gales 38 = .ok (.ireturn, 1) := by decide +kernel
theorem dX4_gales_39 : decode cX4_gales 39 = .ok (.iconst 0, 1) := by decide +kernel
theorem dX4_gales_40 : decode cX4_gales 40 = .ok (.istore_n 2, 1) := by decide +kernel
theorem dX4_gales_41 : decode cX4_gales 41 = .ok (.iload_n 2, 1) := by decide +kernel
theorem dX4_gales_42 : decode cX4_gales 42 = .ok (.iload_n 1, 1) := by decide +kernel
theorem dX4_gales_43 : decode cX4_gales 43 = .ok (.if_icmp .ge 43, 3) := by decide +kernel
theorem dX4_gales_46 : decode cX4_gales 46 = .ok (.aload_n 0, 1) := by decide +kernel
theorem dX4_gales_47 : decode cX4_gales 47 = .ok (.getfield 7, 3) := by decide +kernel
theorem dX4_gales_50 : decode cX4_gales 50 = .ok (.iconst 3, 1) := by decide +kernel
theorem dX4_gales_51 : decode cX4_gales 51 = .ok (.aload_n 0, 1) := by decide +kernel
theorem dX4_gales_52 : decode cX4_gales 52 = .ok (.invokevirtual 186, 3) := by decide +kernel
theorem dX4_gales_55 : decode cX4_gales 55 = .ok (.bipush 10, 2) := by decide +kernel
theorem dX4_gales_57 : decode cX4_gales 57 = .ok (.irem, 1) := by decide +kernel
theorem dX4_gales_58 : decode cX4_gales 58 = .ok (.iastore, 1) := by decide +kernel
theorem dX4_gales_59 : decode cX4_gales 59 = .ok (.aload_n 0, 1) := by decide +kernel
theorem dX4_gales_60 : decode cX4_gales 60 = .ok (.getfield 7, 3) := by decide +kernel
theorem dX4_gales_63 : decode cX4_gales 63 = .ok (.bipush 13, 2) := by decide +kernel
theorem dX4_gales_65 : decode cX4_gales 65 = .ok (.aload_n 0, 1) := by decide +kernel
theorem dX4_gales_66 : decode cX4_gales 66 = .ok (.invokevirtual 186, 3) := by decide +kernel
theorem dX4_gales_69 : decode cX4_gales 69 = .ok (.bipush 8, 2) := by decide +kernel
theorem dX4_gales_71 : decode cX4_gales 71 = .ok (.irem, 1) := by decide +kernel
theorem dX4_gales_72 : decode cX4_gales 72 = .ok (.iadd, 1) := by decide +kernel
theorem dX4_gales_73 : decode cX4_gales 73 = .ok (.iconst 2, 1) := by decide +kernel
theorem dX4_gales_74 : decode cX4_gales 74 = .ok (.iastore, 1) := by decide +kernel
theorem dX4_gales_75 : decode cX4_gales 75 = .ok (.aload_n 0, 1) := by decide +kernel
theorem dX4_gales_76 : decode cX4_gales 76 = .ok (.iconst 0, 1) := by decide +kernel
theorem dX4_gales_77 : decode cX4_gales 77 = .ok (.invokevirtual 115, 3) := by decide +kernel
theorem dX4_gales_80 : decode cX4_gales 80 = .ok (.iinc 2 1, 3) := by decide +kernel
theorem dX4_gales_83 : decode cX4_gales 83 = .ok (.goto (-42), 3) := by decide +kernel
theorem dX4_gales_86 : decode cX4_gales 86 = .ok (.aload_n 0, 1) := by decide +kernel
theorem dX4_gales_87 : decode cX4_gales 87 = .ok (.invokevirtual 132, 3) := by decide +kernel
theorem dX4_gales_90 : decode cX4_gales 90 = .ok (.ireturn, 1) := by decide +kernel
theorem dX4_odds_0 : decode cX4_odds 0 = .ok (.iload_n 1, 1) := by decide +kernel
theorem dX4_odds_1 : decode cX4_odds 1 = .ok (.i2l, 1) := by decide +kernel
theorem dX4_odds_2 : decode cX4_odds 2 = .ok (.lconst 0, 1) := by decide +kernel
theorem dX4_odds_3 : decode cX4_odds 3 = .ok (.ldc2_w 166, 3) := by decide +kernel
theorem dX4_odds_6 : decode cX4_odds 6 = .ok (.invokestatic 43, 3) := by decide +kernel
theorem dX4_odds_9 : decode cX4_odds 9 = .ok (.ifCond .eq 13, 3) := by decide +kernel
theorem dX4_odds_12 : decode cX4_odds 12 = .ok (.iload_n 2, 1) := by decide +kernel
theorem dX4_odds_13 : decode cX4_odds 13 = .ok (.i2l, 1) := by decide +kernel
theorem dX4_odds_14 : decode cX4_odds 14 = .ok (.lconst 0, 1) := by decide +kernel
theorem dX4_odds_15 : decode cX4_odds 15 = .ok (.lconst 1, 1) := by decide +kernel
theorem dX4_odds_16 : decode cX4_odds 16 = .ok (.invokestatic 43, 3) := by decide +kernel
theorem dX4_odds_19 : decode cX4_odds 19 = .ok (.ifCond .ne 11, 3) := by decide +kernel
theorem dX4_odds_22 : decode cX4_odds 22 = .ok (.aload_n 0, 1) := by decide +kernel
theorem dX4_odds_23 : decode cX4_odds 23 = .ok (.ldc 40, 2) := by decide +kernel
theorem dX4_odds_25 : decode cX4_odds 25 = .ok (.invokevirtual 48, 3) := by decide +kernel
theorem dX4_odds_28 : decode cX4_odds 28 = .ok (.i2l, 1) := by decide +kernel
theorem dX4_odds_29 : decode cX4_odds 29 = .ok (.lreturn, 1) := by decide +kernel
theorem dX4_odds_30 : decode cX4_odds 30 = .ok (.lconst 1, 1) := by decide +kernel
theorem dX4_odds_31 : decode cX4_odds 31 = .ok (.lstore_n 3, 1) := by decide +kernel
theorem dX4_odds_32 : decode cX4_odds 32 = .ok (.lconst 1, 1) := by decide +kernel
theorem dX4_odds_33 : decode cX4_odds 33 = .ok (.lstore 5, 2) := by decide +kernel
theorem dX4_odds_35 : decode cX4_odds 35 = .ok (.aload_n 0, 1) := by decide +kernel
theorem dX4_odds_36 : decode cX4_odds 36 = .ok (.invokevirtual 132, 3) := by decide +kernel
theorem dX4_odds_39 : decode cX4_odds 39 = .ok (.invokestatic 168, 3) := by decide +kernel
theorem dX4_odds_42 : decode cX4_odds 42 = .ok (.istore 7, 2) := by decide +kernel
theorem dX4_odds_44 : decode cX4_odds 44 = .ok (.iconst 0, 1) := by decide +kernel
theorem dX4_odds_45 : decode cX4_odds 45 = .ok (.istore 8, 2) := by decide +kernel
theorem dX4_odds_47 : decode cX4_odds 47 = .ok (.iload 8, 2) := by decide +kernel
theorem dX4_odds_49 : decode cX4_odds 49 = .ok (.iload_n 1, 1) := by decide +kernel
theorem dX4_odds_50 : decode cX4_odds 50 = .ok (.if_icmp .ge 23, 3) := by decide +kernel
theorem dX4_odds_53 : decode cX4_odds 53 = .ok (.lload_n 3, 1) := by decide +kernel
theorem dX4_odds_54 : decode cX4_odds 54 = .ok (.iload 7, 2) := by decide +kernel
theorem dX4_odds_56 : decode cX4_odds 56 = .ok (.i2l, 1) := by decide +kernel
theorem dX4_odds_57 : decode cX4_odds 57 = .ok (.lmul, 1) := by decide +kernel
theorem dX4_odds_58 : decode cX4_odds 58 = .ok (.lstore_n 3, 1) := by decide +kernel
theorem dX4_odds_59 : decode cX4_odds 59 = .ok (.lload 5, 2) := by decide +kernel
theorem dX4_odds_61 : decode cX4_odds 61 = .ok (.ldc2_w 189, 3) := by decide +kernel
theorem dX4_odds_64 : decode cX4_odds 64 = .ok (.lmul, 1) := by decide +kernel
theorem dX4_odds_65 : decode cX4_odds 65 = .ok (.lstore 5, 2) := by decide +kernel
theorem dX4_odds_67 : decode cX4_odds 67 = .ok (.iinc 8 1, 3) := by decide +kernel
theorem dX4_odds_70 : decode cX4_odds 70 = .ok (.goto (-23), 3) := by decide +kernel
theorem dX4_odds_73 : decode cX4_odds 73 = .ok (.lload_n 3, 1) := by decide +kernel
theorem dX4_odds_74 : decode cX4_odds 74 = .ok (.lconst 0, 1) := by decide +kernel
theorem dX4_odds_75 : decode cX4_odds 75 = .ok (.lcmp, 1) := by decide +kernel
theorem dX4_odds_76 : decode cX4_odds 76 = .ok (.ifCond .ne 7, 3) := by decide +kernel
theorem dX4_odds_79 : decode cX4_odds 79 = .ok (.lconst 1, 1) := by decide +kernel
theorem dX4_odds_80 : decode cX4_odds 80 = .ok (.goto 5, 3) := by decide +kernel
theorem dX4_odds_83 : decode cX4_odds 83 = .ok (.lload 5, 2) := by decide +kernel
theorem dX4_odds_85 : decode cX4_odds 85 = .ok (.lstore 5, 2) := by decide +kernel
theorem dX4_odds_87 : decode cX4_odds 87 = .ok (.lload_n 3, 1) := by decide +kernel
theorem dX4_odds_88 : decode cX4_odds 88 = .ok (.ldc2_w 191, 3) := by decide +kernel
theorem dX4_odds_91 : decode cX4_odds 91 = .ok (.lrem, 1) := by decide +kernel
theorem dX4_odds_92 : decode cX4_odds 92 = .ok (.lconst 0, 1) := by decide +kernel
theorem dX4_odds_93 : decode cX4_odds 93 = .ok (.lcmp, 1) := by decide +kernel
theorem dX4_odds_94 : decode cX4_odds 94 = .ok (.ifCond .ne 31, 3) := by decide +kernel
theorem dX4_odds_97 : decode cX4_odds 97 = .ok (.lload 5, 2) := by decide +kernel
theorem dX4_odds_99 : decode cX4_odds 99 = .ok (.ldc2_w 191, 3) := by decide +kernel
theorem dX4_odds_102 : decode cX4_odds 102 = .ok (.lrem, 1) := by decide +kernel
theorem dX4_odds_103 : decode cX4_odds 103 = .ok (.lconst 0, 1) := by decide +kernel
theorem dX4_odds_104 : decode cX4_odds 104 = .ok (.lcmp, 1) := by decide +kernel
theorem dX4_odds_105 : decode cX4_odds 105 = .ok (.ifCond .ne 20, 3) := by decide +kernel
theorem dX4_odds_108 : decode cX4_odds 108 = .ok (.lload_n 3, 1) := by decide +kernel
theorem dX4_odds_109 : decode cX4_odds 109 = .ok (.ldc2_w 191, 3) := by decide +kernel
theorem dX4_odds_112 : decode cX4_odds 112 = .ok (.ldiv, 1) := by decide +kernel
theorem dX4_odds_113 : decode cX4_odds 113 = .ok (.lstore_n 3, 1) := by decide +kernel
theorem dX4_odds_114 : decode cX4_odds 114 = .ok (.lload 5, 2) := by decide +kernel
theorem dX4_odds_116 : decode cX4_odds 116 = .ok (.ldc2_w 191, 3) := by decide +kernel
theorem dX4_odds_119 : decode cX4_odds 119 = .ok (.ldiv, 1) := by decide +kernel
theorem dX4_odds_120 : decode cX4_odds 120 = .ok (.lstore 5, 2) := by decide +kernel
theorem dX4_odds_122 : decode cX4_odds 122 = .ok (.goto (-35), 3) := by decide +kernel
theorem dX4_odds_125 : decode cX4_odds 125 = .ok (.iload_n 2, 1) := by decide +kernel
theorem dX4_odds_126 : decode cX4_odds 126 = .ok (.ifCond .ne 7, 3) := by decide +kernel
theorem dX4_odds_129 : decode cX4_odds 129 = .ok (.lload_n 3, 1) := by decide +kernel
theorem dX4_odds_130 : decode cX4_odds 130 = .ok (.goto 5, 3) := by decide +kernel
theorem dX4_odds_133 : decode cX4_odds 133 = .ok (.lload 5, 2) := by decide +kernel
theorem dX4_odds_135 : decode cX4_odds 135 = .ok (.lreturn, 1) := by decide +kernel
theorem dX4_seed_0 : decode cX4_seed 0 = .ok (.aload_n 0, 1) := by decide +kernel
theorem dX4_seed_1 : decode cX4_seed 1 = .ok (.iconst 2, 1) := by decide +kernel
theorem dX4_seed_2 : decode cX4_seed 2 = .ok (.iload_n 1, 1) := by decide +kernel
theorem dX4_seed_3 : decode cX4_seed 3 = .ok (.invokevirtual 58, 3) := by decide +kernel
theorem dX4_seed_6 : decode cX4_seed 6 = .ok (.ireturn, 1) := by decide +kernel
theorem dX4_feed_0 : decode cX4_feed 0 = .ok (.iload_n 2, 1) := by decide +kernel
theorem dX4_feed_1 : decode cX4_feed 1 = .ok (.i2l, 1) := by decide +kernel
theorem dX4_feed_2 : decode cX4_feed 2 = .ok (.lconst 1, 1) := by decide +kernel
theorem dX4_feed_3 : decode cX4_feed 3 = .ok (.ldc2_w 97, 3) := by decide +kernel
theorem dX4_feed_6 : decode cX4_feed 6 = .ok (.invokestatic 43, 3) := by decide +kernel
theorem dX4_feed_9 : decode cX4_feed 9 = .ok (.ifCond .ne 10, 3) := by decide +kernel
theorem dX4_feed_12 : decode cX4_feed 12 = .ok (.aload_n 0, 1) := by decide +kernel
theorem dX4_feed_13 : decode cX4_feed 13 = .ok (.ldc 40, 2) := by decide +kernel
theorem dX4_feed_15 : decode cX4_feed 15 = .ok (.invokevirtual 48, 3) := by decide +kernel
theorem dX4_feed_18 : decode cX4_feed 18 = .ok (.ireturn, 1) := by decide +kernel
theorem dX4_feed_19 : decode cX4_feed 19 = .ok (.aload_n 0, 1) := by decide +kernel
theorem dX4_feed_20 : decode cX4_feed 20 = .ok (.getfield 193, 3) := by decide +kernel
theorem dX4_feed_23 : decode cX4_feed 23 = .ok (.iload_n 2, 1) := by decide +kernel
theorem dX4_feed_24 : decode cX4_feed 24 = .ok (.iadd, 1) := by decide +kernel
theorem dX4_feed_25 : decode cX4_feed 25 = .ok (.bipush 120, 2) := by decide +kernel
theorem dX4_feed_27 : decode cX4_feed 27 = .ok (.if_icmp .le 10, 3) := by decide +kernel
theorem dX4_feed_30 : decode cX4_feed 30 = .ok (.aload_n 0, 1) := by decide +kernel
theorem dX4_feed_31 : decode cX4_feed 31 = .ok (.ldc 81, 2) := by decide +kernel
theorem dX4_feed_33 : decode cX4_feed 33 = .ok (.invokevirtual 48, 3) := by decide +kernel
theorem dX4_feed_36 : decode cX4_feed 36 = .ok (.ireturn, 1) := by decide +kernel
theorem dX4_feed_37 : decode cX4_feed 37 = .ok (.iload_n 2, 1) := by decide +kernel
theorem dX4_feed_38 : decode cX4_feed 38 = .ok (.iconst 1, 1) := by decide +kernel
theorem dX4_feed_39 : decode cX4_feed 39 = .ok (.isub, 1) := by decide +kernel
theorem dX4_feed_40 : decode cX4_feed 40 = .ok (.istore_n 3, 1) := by decide +kernel
theorem dX4_feed_41 : decode cX4_feed 41 = .ok (.iload_n 3, 1) := by decide +kernel
theorem dX4_feed_42 : decode cX4_feed 42 = .ok (.ifCond .lt 38, 3) := by decide +kernel
theorem dX4_feed_45 : decode cX4_feed 45 = .ok (.aload_n 0, 1) := by decide +kernel
theorem dX4_feed_46 : decode cX4_feed 46 = .ok (.getfield 25, 3) := by decide +kernel
theorem dX4_feed_49 : decode cX4_feed 49 = .ok (.aload_n 0, 1) := by decide +kernel
theorem dX4_feed_50 : decode cX4_feed 50 = .ok (.getfield 193, 3) := by decide +kernel
theorem dX4_feed_53 : decode cX4_feed 53 = .ok (.iload_n 1, 1) := by decide +kernel
theorem dX4_feed_54 : decode cX4_feed 54 = .ok (.bipush 8, 2) := by decide +kernel
theorem dX4_feed_56 : decode cX4_feed 56 = .ok (.iload_n 3, 1) := by decide +kernel
theorem dX4_feed_57 : decode cX4_feed 57 = .ok (.imul, 1) := by decide +kernel
theorem dX4_feed_58 : decode cX4_feed 58 = .ok (.ishr, 1) := by decide +kernel
theorem dX4_feed_59 : decode cX4_feed 59 = .ok (.sipush 255, 3) := by decide +kernel
theorem dX4_feed_62 : decode cX4_feed 62 = .ok (.iand, 1) := by decide +kernel
theorem dX4_feed_63 : decode cX4_feed 63 = .ok (.iastore, 1) := by decide +kernel
theorem dX4_feed_64 : decode cX4_feed 64 = .ok (.aload_n 0, 1) := by decide +kernel
theorem dX4_feed_65 : decode cX4_feed 65 = .ok (.dup, 1) := by decide +kernel
theorem dX4_feed_66 : decode cX4_feed 66 = .ok (.getfield 193, 3) := by decide +kernel
theorem dX4_feed_69 : decode cX4_feed 69 = .ok (.iconst 1, 1) := by decide +kernel
theorem dX4_feed_70 : decode cX4_feed 70 = .ok (.iadd, 1) := by decide +kernel
theorem dX4_feed_71 : decode cX4_feed 71 = .ok (.putfield 193, 3) := by decide +kernel
theorem dX4_feed_74 : decode cX4_feed 74 = .ok (.iinc 3 (-1), 3) := by decide +kernel
theorem dX4_feed_77 : decode cX4_feed 77 = .ok (.goto (-36), 3) := by decide +kernel
theorem dX4_feed_80 : decode cX4_feed 80 = .ok (.aload_n 0, 1) := by decide +kernel
theorem dX4_feed_81 : decode cX4_feed 81 = .ok (.getfield 193, 3) := by decide +kernel
theorem dX4_feed_84 : decode cX4_feed 84 = .ok (.ireturn, 1) := by decide +kernel
theorem dX4_wipe_0 : decode cX4_wipe 0 = .ok (.aload_n 0, 1) := by decide +kernel
theorem dX4_wipe_1 : decode cX4_wipe 1 = .ok (.getfield 193, 3) := by decide +kernel
theorem dX4_wipe_4 : decode cX4_wipe 4 = .ok (.istore_n 1, 1) := by decide +kernel
theorem dX4_wipe_5 : decode cX4_wipe 5 = .ok (.aload_n 0, 1) := by decide +kernel
theorem dX4_wipe_6 : decode cX4_wipe 6 = .ok (.iconst 0, 1) := by decide +kernel
theorem dX4_wipe_7 : decode cX4_wipe 7 = .ok (.putfield 193, 3) := by decide +kernel
theorem dX4_wipe_10 : decode cX4_wipe 10 = .ok (.iload_n 1, 1) := by decide +kernel
theorem dX4_wipe_11 : decode cX4_wipe 11 = .ok (.ireturn, 1) := by decide +kernel
theorem dX4_isLetter_0 : decode cX4_isLetter 0 = .ok (.iload_n 0, 1) := by decide +kernel
theorem dX4_isLetter_1 : decode cX4_isLetter 1 = .ok (.bipush 97, 2) := by decide +kernel
theorem dX4_isLetter_3 : decode cX4_isLetter 3 = .ok (.if_icmp .lt 13, 3) := by decide +kernel
theorem dX4_isLetter_6 : decode cX4_isLetter 6 = .ok (.iload_n 0, 1) := by decide +kernel
theorem dX4_isLetter_7 : decode cX4_isLetter 7 = .ok (.bipush 122, 2) := by decide +kernel
theorem dX4_isLetter_9 : decode cX4_isLetter 9 = .ok (.if_icmp .gt 7, 3) := by decide +kernel
theorem dX4_isLetter_12 : decode cX4_isLetter 12 = .ok (.iconst 1, 1) := by decide +kernel
theorem dX4_isLetter_13 : decode cX4_isLetter 13 = .ok (.goto 4, 3) := by decide +kernel
theorem dX4_isLetter_16 : decode cX4_isLetter 16 = .ok (.iconst 0, 1) := by decide +kernel
theorem dX4_isLetter_17 : decode cX4_isLetter 17 = .ok (.ireturn, 1) := by decide +kernel
theorem dX4_isDigit_0 : decode cX4_isDigit 0 = .ok (.iload_n 0, 1) := by decide +kernel
theorem dX4_isDigit_1 : decode cX4_isDigit 1 = .ok (.bipush 48, 2) := by decide +kernel
theorem dX4_isDigit_3 : decode cX4_isDigit 3 = .ok (.if_icmp .lt 13, 3) := by decide +kernel
theorem dX4_isDigit_6 : decode cX4_isDigit 6 = .ok (.iload_n 0, 1) := by decide +kernel
theorem dX4_isDigit_7 : decode cX4_isDigit 7 = .ok (.bipush 57, 2) := by decide +kernel
theorem dX4_isDigit_9 : decode cX4_isDigit 9 = .ok (.if_icmp .gt 7, 3) := by decide +kernel
theorem dX4_isDigit_12 : decode cX4_isDigit 12 = .ok (.iconst 1, 1) := by decide +kernel
theorem dX4_isDigit_13 : decode cX4_isDigit 13 = .ok (.goto 4, 3) := by decide +kernel
theorem dX4_isDigit_16 : decode cX4_isDigit 16 = .ok (.iconst 0, 1) := by decide +kernel
theorem dX4_isDigit_17 : decode cX4_isDigit 17 = .ok (.ireturn, 1) := by decide +kernel
theorem dX4_byteAt_0 : decode cX4_byteAt 0 = .ok (.iload_n 1, 1) := by decide +kernel
theorem dX4_byteAt_1 : decode cX4_byteAt 1 = .ok (.aload_n 0, 1) := by decide +kernel
theorem dX4_byteAt_2 : decode cX4_byteAt 2 = .ok (.getfield 193, 3) := by decide +kernel
theorem dX4_byteAt_5 : decode cX4_byteAt 5 = .ok (.if_icmp .ge 12, 3) := by decide +kernel
theorem dX4_byteAt_8 : decode cX4_byteAt 8 = .ok (.aload_n 0, 1) := by decide +kernel
theorem dX4_byteAt_9 : decode cX4_byteAt 9 = .ok (.getfield 25, 3) := by decide +kernel
theorem dX4_byteAt_12 : decode cX4_byteAt 12 = .ok (.iload_n 1, 1) := by decide +kernel
theorem dX4_byteAt_13 : decode cX4_byteAt 13 = .ok (.iaload, 1) := by decide +kernel
theorem dX4_byteAt_14 : decode cX4_byteAt 14 = .ok (.goto 4, 3) := by decide +kernel
theorem dX4_byteAt_17 : decode cX4_byteAt 17 = .ok (.iconst (-1), 1) := by decide +kernel
theorem dX4_byteAt_18 : decode cX4_byteAt 18 = .ok (.ireturn, 1) := by decide +kernel
theorem dX4_nextToken_0 : decode cX4_nextToken 0 = .ok (.aload_n 0, 1) := by decide +kernel
theorem dX4_nextToken_1 : decode cX4_nextToken 1 = .ok (.aload_n 0, 1) := by decide +kernel
theorem dX4_nextToken_2 : decode cX4_nextToken 2 = .ok (.getfield 197, 3) := by decide +kernel
theorem dX4_nextToken_5 : decode cX4_nextToken 5 = .ok (.putfield 200, 3) := by decide +kernel
theorem dX4_nextToken_8 : decode cX4_nextToken 8 = .ok (.aload_n 0, 1) := by decide +kernel
theorem dX4_nextToken_9 : decode cX4_nextToken 9 = .ok (.aload_n 0, 1) := by decide +kernel
theorem dX4_nextToken_10 : decode cX4_nextToken 10 = .ok (.getfield 200, 3) := by decide +kernel
theorem dX4_nextToken_13 : decode cX4_nextToken 13 = .ok (.invokevirtual 203, 3) := by decide +kernel
theorem dX4_nextToken_16 : decode cX4_nextToken 16 = .ok (.bipush 32, 2) := by decide +kernel
theorem dX4_nextToken_18 : decode cX4_nextToken 18 = .ok (.if_icmp .ne 16, 3) := by decide +kernel
theorem dX4_nextToken_21 : decode cX4_nextToken 21 = .ok (.aload_n 0, 1) := by decide +kernel
theorem dX4_nextToken_22 : decode cX4_nextToken 22 = .ok (.dup, 1) := by decide +kernel
theorem dX4_nextToken_23 : decode cX4_nextToken 23 = .ok (.getfield 200, 3) := by decide +kernel
theorem dX4_nextToken_26 : decode cX4_nextToken 26 = .ok (.iconst 1, 1) := by decide +kernel
theorem dX4_nextToken_27 : decode cX4_nextToken 27 = .ok (.iadd, 1) := by decide +kernel
theorem dX4_nextToken_28 : decode cX4_nextToken 28 = .ok (.putfield 200, 3) := by decide +kernel
theorem dX4_nextToken_31 : decode cX4_nextToken 31 = .ok (.goto (-23), 3) := by decide +kernel
theorem dX4_nextToken_34 : decode cX4_nextToken 34 = .ok (.aload_n 0, 1) := by decide +kernel
theorem dX4_nextToken_35 : decode cX4_nextToken 35 = .ok (.aload_n 0, 1) := by decide +kernel
theorem dX4_nextToken_36 : decode cX4_nextToken 36 = .ok (.getfield 200, 3) := by decide +kernel
theorem dX4_nextToken_39 : decode cX4_nextToken 39 = .ok (.putfield 197, 3) := by decide +kernel
theorem dX4_nextToken_42 : decode cX4_nextToken 42 = .ok (.aload_n 0, 1) := by decide +kernel
theorem dX4_nextToken_43 : decode cX4_nextToken 43 = .ok (.aload_n 0, 1) := by decide +kernel
theorem dX4_nextToken_44 : decode cX4_nextToken 44 = .ok (.getfield 200, 3) := by decide +kernel
theorem dX4_nextToken_47 : decode cX4_nextToken 47 = .ok (.invokevirtual 203, 3) := by decide +kernel
theorem dX4_nextToken_50 : decode cX4_nextToken 50 = .ok (.istore_n 1, 1) := by decide +kernel
theorem dX4_nextToken_51 : decode cX4_nextToken 51 = .ok (.aload_n 0, 1) := by decide +kernel
theorem dX4_nextToken_52 : decode cX4_nextToken 52 = .ok (.iload_n 1, 1) := by decide +kernel
theorem dX4_nextToken_53 : decode cX4_nextToken 53 = .ok (.ifCond .ge 7, 3) := by decide +kernel
theorem dX4_nextToken_56 : decode cX4_nextToken 56 = .ok (.iconst 0, 1) := by decide +kernel
theorem dX4_nextToken_57 : decode cX4_nextToken 57 = .ok (.goto 36, 3) := by decide +kernel
theorem dX4_nextToken_60 : decode cX4_nextToken 60 = .ok (.iload_n 1, 1) := by decide +kernel
theorem dX4_nextToken_61 : decode cX4_nextToken 61 = .ok (.invokestatic 206, 3) := by decide +kernel
theorem dX4_nextToken_64 : decode cX4_nextToken 64 = .ok (.ifCond .eq 7, 3) := by decide +kernel
theorem dX4_nextToken_67 : decode cX4_nextToken 67 = .ok (.iconst 1, 1) := by decide +kernel
theorem dX4_nextToken_68 : decode cX4_nextToken 68 = .ok (.goto 25, 3) := by decide +kernel
theorem dX4_nextToken_71 : decode cX4_nextToken 71 = .ok (.iload_n 1, 1) := by decide +kernel
theorem dX4_nextToken_72 : decode cX4_nextToken 72 = .ok (.invokestatic 209, 3) := by decide +kernel
theorem dX4_nextToken_75 : decode cX4_nextToken 75 = .ok (.ifCond .eq 7, 3) := by decide +kernel
theorem dX4_nextToken_78 : decode cX4_nextToken 78 = .ok (.iconst 2, 1) := by decide +kernel
theorem dX4_nextToken_79 : decode cX4_nextToken 79 = .ok (.goto 14, 3) := by decide +kernel
theorem dX4_nextToken_82 : decode cX4_nextToken 82 = .ok (.iload_n 1, 1) := by decide +kernel
theorem dX4_nextToken_83 : decode cX4_nextToken 83 = .ok (.bipush 59, 2) := by decide +kernel
theorem dX4_nextToken_85 : decode cX4_nextToken 85 = .ok (.if_icmp .ne 7, 3) := by decide +kernel
theorem dX4_nextToken_88 : decode cX4_nextToken 88 = .ok (.iconst 3, 1) := by decide +kernel
theorem dX4_nextToken_89 : decode cX4_nextToken 89 = .ok (.goto 4, 3) := by decide +kernel
theorem dX4_nextToken_92 : decode cX4_nextToken 92 = .ok (.iconst 4, 1) := by decide +kernel
theorem dX4_nextToken_93 : decode cX4_nextToken 93 = .ok (.putfield 212, 3) := by decide +kernel
theorem dX4_nextToken_96 : decode cX4_nextToken 96 = .ok (.aload_n 0, 1) := by decide +kernel
theorem dX4_nextToken_97 : decode cX4_nextToken 97 = .ok (.iconst 0, 1) := by decide +kernel
theorem dX4_nextToken_98 : decode cX4_nextToken 98 = .ok (.putfield 215, 3) := by decide +kernel
theorem dX4_nextToken_101 : decode cX4_nextToken 101 = .ok (.aload_n 0, 1) := by decide +kernel
theorem dX4_nextToken_102 : decode cX4_nextToken 102 = .ok (.getfield 212, 3) := by decide +kernel
theorem dX4_nextToken_105 : decode cX4_nextToken 105 = .ok (.iconst 1, 1) := by decide +kernel
theorem dX4_nextToken_106 : decode cX4_nextToken 106 = .ok (.if_icmp .ne 30, 3) := by decide +kernel
theorem dX4_nextToken_109 : decode cX4_nextToken 109 = .ok (.aload_n 0, 1) := by decide +kernel
theorem dX4_nextToken_110 : decode cX4_nextToken 110 = .ok (.aload_n 0, 1) := by decide +kernel
theorem dX4_nextToken_111 : decode cX4_nextToken 111 = .ok (.getfield 197, 3) := by decide +kernel
theorem dX4_nextToken_114 : decode cX4_nextToken 114 = .ok (.invokevirtual 203, 3) := by decide +kernel
theorem dX4_nextToken_117 : decode cX4_nextToken 117 = .ok (.invokestatic 206, 3) := by decide +kernel
theorem dX4_nextToken_120 : decode cX4_nextToken 120 = .ok (.ifCond .eq 16, 3) := by decide +kernel
theorem dX4_nextToken_123 : decode cX4_nextToken 123 = .ok (.aload_n 0, 1) := by decide +kernel
theorem dX4_nextToken_124 : decode cX4_nextToken 124 = .ok (.dup, 1) := by decide +kernel
theorem dX4_nextToken_125 : decode cX4_nextToken 125 = .ok (.getfield 197, 3) := by decide +kernel
theorem dX4_nextToken_128 : decode cX4_nextToken 128 = .ok (.iconst 1, 1) := by decide +kernel
theorem dX4_nextToken_129 : decode cX4_nextToken 129 = .ok (.iadd, 1) := by decide +kernel
theorem dX4_nextToken_130 : decode cX4_nextToken 130 = .ok (.putfield 197, 3) := by decide +kernel
theorem dX4_nextToken_133 : decode cX4_nextToken 133 = .ok (.goto (-32), 3) := by decide +kernel
theorem dX4_nextToken_136 : decode cX4_nextToken 136 = .ok (.aload_n 0, 1) := by decide +kernel
theorem dX4_nextToken_137 : decode cX4_nextToken 137 = .ok (.getfield 212, 3) := by decide +kernel
theorem dX4_nextToken_140 : decode cX4_nextToken 140 = .ok (.iconst 2, 1) := by decide +kernel
theorem dX4_nextToken_141 : decode cX4_nextToken 141 = .ok (.if_icmp .ne 70, 3) := by decide +kernel
theorem dX4_nextToken_144 : decode cX4_nextToken 144 = .ok (.aload_n 0, 1) := by decide +kernel
theorem dX4_nextToken_145 : decode cX4_nextToken 145 = .ok (.aload_n 0, 1) := by decide +kernel
theorem dX4_nextToken_146 : decode cX4_nextToken 146 = .ok (.getfield 197, 3) := by decide +kernel
theorem dX4_nextToken_149 : decode cX4_nextToken 149 = .ok (.invokevirtual 203, 3) := by decide +kernel
theorem dX4_nextToken_152 : decode cX4_nextToken 152 = .ok (.invokestatic 209, 3) := by decide +kernel
theorem dX4_nextToken_155 : decode cX4_nextToken 155 = .ok (.ifCond .eq 56, 3) := by decide +kernel
theorem dX4_nextToken_158 : decode cX4_nextToken 158 = .ok (.aload_n 0, 1) := by decide +kernel
theorem dX4_nextToken_159 : decode cX4_nextToken 159 = .ok (.aload_n 0, 1) := by decide +kernel
theorem dX4_nextToken_160 : decode cX4_nextToken 160 = .ok (.getfield 215, 3) := by decide +kernel
theorem dX4_nextToken_163 : decode cX4_nextToken 163 = .ok (.sipush 9999, 3) := by decide +kernel
theorem dX4_nextToken_166 : decode cX4_nextToken 166 = .ok (.if_icmp .le 10, 3) := by decide +kernel
theorem dX4_nextToken_169 : decode cX4_nextToken 169 = .ok (.aload_n 0, 1) := by decide +kernel
theorem dX4_nextToken_170 : decode cX4_nextToken 170 = .ok (.getfield 215, 3) := by decide +kernel
theorem dX4_nextToken_173 : decode cX4_nextToken 173 = .ok (.goto 22, 3) := by decide +kernel
theorem dX4_nextToken_176 : decode cX4_nextToken 176 = .ok (.bipush 10, 2) := by decide +kernel
theorem dX4_nextToken_178 : decode cX4_nextToken 178 = .ok (.aload_n 0, 1) := by decide +kernel
theorem dX4_nextToken_179 : decode cX4_nextToken 179 = .ok (.getfield 215, 3) := by decide +kernel
theorem dX4_nextToken_182 : decode cX4_nextToken 182 = .ok (.imul, 1) := by decide +kernel
theorem dX4_nextToken_183 : decode cX4_nextToken 183 = .ok (.aload_n 0, 1) := by decide +kernel
theorem dX4_nextToken_184 : decode cX4_nextToken 184 = .ok (.aload_n 0, 1) := by decide +kernel
theorem dX4_nextToken_185 : decode cX4_nextToken 185 = .ok (.getfield 197, 3) := by decide +kernel
theorem dX4_nextToken_188 : decode cX4_nextToken 188 = .ok (.invokevirtual 203, 3) := by decide +kernel
theorem dX4_nextToken_191 : decode cX4_nextToken 191 = .ok (.iadd, 1) := by decide +kernel
theorem dX4_nextToken_192 : decode cX4_nextToken 192 = .ok (.bipush 48, 2) := by decide +kernel
theorem dX4_nextToken_194 : decode cX4_nextToken 194 = .ok (.isub, 1) := by decide +kernel
theorem dX4_nextToken_195 : decode cX4_nextToken 195 = .ok (.putfield 215, 3) := by decide +kernel
theorem dX4_nextToken_198 : decode cX4_nextToken 198 = .ok (.aload_n 0, 1) := by decide +kernel
theorem dX4_nextToken_199 : decode cX4_nextToken 199 = .ok (.dup, 1) := by decide +kernel
theorem dX4_nextToken_200 : decode cX4_nextToken 200 = .ok (.getfield 197, 3) := by decide +kernel
theorem dX4_nextToken_203 : decode cX4_nextToken 203 = .ok (.iconst 1, 1) := by decide +kernel
theorem dX4_nextToken_204 : decode cX4_nextToken 204 = .ok (.iadd, 1) := by decide +kernel
theorem dX4_nextToken_205 : decode cX4_nextToken 205 = .ok (.putfield 197, 3) := by decide +kernel
theorem dX4_nextToken_208 : decode cX4_nextToken 208 = .ok (.goto (-72), 3) := by decide +kernel
theorem dX4_nextToken_211 : decode cX4_nextToken 211 = .ok (.aload_n 0, 1) := by decide +kernel
theorem dX4_nextToken_212 : decode cX4_nextToken 212 = .ok (.dup, 1) := by decide +kernel
theorem dX4_nextToken_213 : decode cX4_nextToken 213 = .ok (.getfield 197, 3) := by decide +kernel
theorem dX4_nextToken_216 : decode cX4_nextToken 216 = .ok (.aload_n 0, 1) := by decide +kernel
theorem dX4_nextToken_217 : decode cX4_nextToken 217 = .ok (.getfield 212, 3) := by decide +kernel
theorem dX4_nextToken_220 : decode cX4_nextToken 220 = .ok (.iconst 2, 1) := by decide +kernel
theorem dX4_nextToken_221 : decode cX4_nextToken 221 = .ok (.if_icmp .le 7, 3) := by decide +kernel
theorem dX4_nextToken_224 : decode cX4_nextToken 224 = .ok (.iconst 1, 1) := by decide +kernel
theorem dX4_nextToken_225 : decode cX4_nextToken 225 = .ok (.goto 4, 3) := by decide +kernel
theorem dX4_nextToken_228 : decode cX4_nextToken 228 = .ok (.iconst 0, 1) := by decide +kernel
theorem dX4_nextToken_229 : decode cX4_nextToken 229 = .ok (.iadd, 1) := by decide +kernel
theorem dX4_nextToken_230 : decode cX4_nextToken 230 = .ok (.putfield 197, 3) := by decide +kernel
theorem dX4_nextToken_233 : decode cX4_nextToken 233 = .ok (.return_, 1) := by decide +kernel
theorem dX4_has3_0 : decode cX4_has3 0 = .ok (.aload_n 0, 1) := by decide +kernel
theorem dX4_has3_1 : decode cX4_has3 1 = .ok (.aload_n 0, 1) := by decide +kernel
theorem dX4_has3_2 : decode cX4_has3 2 = .ok (.getfield 200, 3) := by decide +kernel
theorem dX4_has3_5 : decode cX4_has3 5 = .ok (.iload_n 1, 1) := by decide +kernel
theorem dX4_has3_6 : decode cX4_has3 6 = .ok (.iadd, 1) := by decide +kernel
theorem dX4_has3_7 : decode cX4_has3 7 = .ok (.invokevirtual 203, 3) := by decide +kernel
theorem dX4_has3_10 : decode cX4_has3 10 = .ok (.iload_n 2, 1) := by decide +kernel
theorem dX4_has3_11 : decode cX4_has3 11 = .ok (.if_icmp .ne 40, 3) := by decide +kernel
theorem dX4_has3_14 : decode cX4_has3 14 = .ok (.aload_n 0, 1) := by decide +kernel
theorem dX4_has3_15 : decode cX4_has3 15 = .ok (.aload_n 0, 1) := by decide +kernel
theorem dX4_has3_16 : decode cX4_has3 16 = .ok (.getfield 200, 3) := by decide +kernel
theorem dX4_has3_19 : decode cX4_has3 19 = .ok (.iload_n 1, 1) := by decide +kernel
theorem dX4_has3_20 : decode cX4_has3 20 = .ok (.iadd, 1) := by decide +kernel
theorem dX4_has3_21 : decode cX4_has3 21 = .ok (.iconst 1, 1) := by decide +kernel
theorem dX4_has3_22 : decode cX4_has3 22 = .ok (.iadd, 1) := by decide +kernel
theorem dX4_has3_23 : decode cX4_has3 23 = .ok (.invokevirtual 203, 3) := by decide +kernel
theorem dX4_has3_26 : decode cX4_has3 26 = .ok (.iload_n 3, 1) := by decide +kernel
theorem dX4_has3_27 : decode cX4_has3 27 = .ok (.if_icmp .ne 24, 3) := by decide +kernel
theorem dX4_has3_30 : decode cX4_has3 30 = .ok (.aload_n 0, 1) := by decide +kernel
theorem dX4_has3_31 : decode cX4_has3 31 = .ok (.aload_n 0, 1) := by decide +kernel
theorem dX4_has3_32 : decode cX4_has3 32 = .ok (.getfield 200, 3) := by decide +kernel
theorem dX4_has3_35 : decode cX4_has3 35 = .ok (.iload_n 1, 1) := by decide +kernel
theorem dX4_has3_36 : decode cX4_has3 36 = .ok (.iadd, 1) := by decide +kernel
theorem dX4_has3_37 : decode cX4_has3 37 = .ok (.iconst 2, 1) := by decide +kernel
theorem dX4_has3_38 : decode cX4_has3 38 = .ok (.iadd, 1) := by decide +kernel
theorem dX4_has3_39 : decode cX4_has3 39 = .ok (.invokevirtual 203, 3) := by decide +kernel
theorem dX4_has3_42 : decode cX4_has3 42 = .ok (.iload 4, 2) := by decide +kernel
theorem dX4_has3_44 : decode cX4_has3 44 = .ok (.if_icmp .ne 7, 3) := by decide +kernel
theorem dX4_has3_47 : decode cX4_has3 47 = .ok (.iconst 1, 1) := by decide +kernel
theorem dX4_has3_48 : decode cX4_has3 48 = .ok (.goto 4, 3) := by decide +kernel
theorem dX4_has3_51 : decode cX4_has3 51 = .ok (.iconst 0, 1) := by decide +kernel
theorem dX4_has3_52 : decode cX4_has3 52 = .ok (.ireturn, 1) := by decide +kernel
theorem dX4_isWord_0 : decode cX4_isWord 0 = .ok (.aload_n 0, 1) := by decide +kernel
theorem dX4_isWord_1 : decode cX4_isWord 1 = .ok (.getfield 212, 3) := by decide +kernel
theorem dX4_isWord_4 : decode cX4_isWord 4 = .ok (.iconst 1, 1) := by decide +kernel
theorem dX4_isWord_5 : decode cX4_isWord 5 = .ok (.if_icmp .ne 20, 3) := by decide +kernel
theorem dX4_isWord_8 : decode cX4_isWord 8 = .ok (.aload_n 0, 1) := by decide +kernel
theorem dX4_isWord_9 : decode cX4_isWord 9 = .ok (.getfield 197, 3) := by decide +kernel
theorem dX4_isWord_12 : decode cX4_isWord 12 = .ok (.aload_n 0, 1) := by decide +kernel
theorem dX4_isWord_13 : decode cX4_isWord 13 = .ok (.getfield 200, 3) := by decide +kernel
theorem dX4_isWord_16 : decode cX4_isWord 16 = .ok (.isub, 1) := by decide +kernel
theorem dX4_isWord_17 : decode cX4_isWord 17 = .ok (.iload_n 1, 1) := by decide +kernel
theorem dX4_isWord_18 : decode cX4_isWord 18 = .ok (.if_icmp .ne 7, 3) := by decide +kernel
theorem dX4_isWord_21 : decode cX4_isWord 21 = .ok (.iconst 1, 1) := by decide +kernel
theorem dX4_isWord_22 : decode cX4_isWord 22 = .ok (.goto 4, 3) := by decide +kernel
theorem dX4_isWord_25 : decode cX4_isWord 25 = .ok (.iconst 0, 1) := by decide +kernel
theorem dX4_isWord_26 : decode cX4_isWord 26 = .ok (.ireturn, 1) := by decide +kernel
theorem dX4_fails_0 : decode cX4_fails 0 = .ok (.aload_n 0, 1) := by decide +kernel
theorem dX4_fails_1 : decode cX4_fails 1 = .ok (.aload_n 0, 1) := by decide +kernel
theorem dX4_fails_2 : decode cX4_fails 2 = .ok (.getfield 200, 3) := by decide +kernel
theorem dX4_fails_5 : decode cX4_fails 5 = .ok (.putfield 218, 3) := by decide +kernel
theorem dX4_fails_8 : decode cX4_fails 8 = .ok (.iconst 0, 1) := by decide +kernel
theorem dX4_fails_9 : decode cX4_fails 9 = .ok (.ireturn, 1) := by decide +kernel
theorem dX4_isFour_0 : decode cX4_isFour 0 = .ok (.aload_n 0, 1) := by decide +kernel
theorem dX4_isFour_1 : decode cX4_isFour 1 = .ok (.iconst 4, 1) := by decide +kernel
theorem dX4_isFour_2 : decode cX4_isFour 2 = .ok (.invokevirtual 221, 3) := by decide +kernel
theorem dX4_isFour_5 : decode cX4_isFour 5 = .ok (.ifCond .eq 30, 3) := by decide +kernel
theorem dX4_isFour_8 : decode cX4_isFour 8 = .ok (.aload_n 0, 1) := by decide +kernel
theorem dX4_isFour_9 : decode cX4_isFour 9 = .ok (.iconst 0, 1) := by decide +kernel
theorem dX4_isFour_10 : decode cX4_isFour 10 = .ok (.iload_n 1, 1) := by decide +kernel
theorem dX4_isFour_11 : decode cX4_isFour 11 = .ok (.iload_n 2, 1) := by decide +kernel
theorem dX4_isFour_12 : decode cX4_isFour 12 = .ok (.iload_n 3, 1) := by decide +kernel
theorem dX4_isFour_13 : decode cX4_isFour 13 = .ok (.invokevirtual 224, 3) := by decide +kernel
theorem dX4_isFour_16 : decode cX4_isFour 16 = .ok (.ifCond .eq 19, 3) := by decide +kernel
theorem dX4_isFour_19 : decode cX4_isFour 19 = .ok (.aload_n 0, 1) := by decide +kernel
theorem dX4_isFour_20 : decode cX4_isFour 20 = .ok (.iconst 1, 1) := by decide +kernel
theorem dX4_isFour_21 : decode cX4_isFour 21 = .ok (.iload_n 2, 1) := by decide +kernel
theorem dX4_isFour_22 : decode cX4_isFour 22 = .ok (.iload_n 3, 1) := by decide +kernel
theorem dX4_isFour_23 : decode cX4_isFour 23 = .ok (.iload 4, 2) := by decide +kernel
theorem dX4_isFour_25 : decode cX4_isFour 25 = .ok (.invokevirtual 224, 3) := by decide +kernel
theorem dX4_isFour_28 : decode cX4_isFour 28 = .ok (.ifCond .eq 7, 3) := by decide +kernel
theorem dX4_isFour_31 : decode cX4_isFour 31 = .ok (.iconst 1, 1) := by decide +kernel
theorem dX4_isFour_32 : decode cX4_isFour 32 = .ok (.goto 4, 3) := by decide +kernel
theorem dX4_isFour_35 : decode cX4_isFour 35 = .ok (.iconst 0, 1) := by decide +kernel
theorem dX4_isFour_36 : decode cX4_isFour 36 = .ok (.ireturn, 1) := by decide +kernel
theorem dX4_isFive_0 : decode cX4_isFive 0 = .ok (.aload_n 0, 1) := by decide +kernel
theorem dX4_isFive_1 : decode cX4_isFive 1 = .ok (.iconst 5, 1) := by decide +kernel
theorem dX4_isFive_2 : decode cX4_isFive 2 = .ok (.invokevirtual 221, 3) := by decide +kernel
theorem dX4_isFive_5 : decode cX4_isFive 5 = .ok (.ifCond .eq 31, 3) := by decide +kernel
theorem dX4_isFive_8 : decode cX4_isFive 8 = .ok (.aload_n 0, 1) := by decide +kernel
theorem dX4_isFive_9 : decode cX4_isFive 9 = .ok (.iconst 0, 1) := by decide +kernel
theorem dX4_isFive_10 : decode cX4_isFive 10 = .ok (.iload_n 1, 1) := by decide +kernel
theorem dX4_isFive_11 : decode cX4_isFive 11 = .ok (.iload_n 2, 1) := by decide +kernel
theorem dX4_isFive_12 : decode cX4_isFive 12 = .ok (.iload_n 3, 1) := by decide +kernel
theorem dX4_isFive_13 : decode cX4_isFive 13 = .ok (.invokevirtual 224, 3) := by decide +kernel
theorem dX4_isFive_16 : decode cX4_isFive 16 = .ok (.ifCond .eq 20, 3) := by decide +kernel
theorem dX4_isFive_19 : decode cX4_isFive 19 = .ok (.aload_n 0, 1) := by decide +kernel
theorem dX4_isFive_20 : decode cX4_isFive 20 = .ok (.iconst 2, 1) := by decide +kernel
theorem dX4_isFive_21 : decode cX4_isFive 21 = .ok (.iload_n 3, 1) := by decide +kernel
theorem dX4_isFive_22 : decode cX4_isFive 22 = .ok (.iload 4, 2) := by decide +kernel
theorem dX4_isFive_24 : decode cX4_isFive 24 = .ok (.iload 5, 2) := by decide +kernel
theorem dX4_isFive_26 : decode cX4_isFive 26 = .ok (.invokevirtual 224, 3) := by decide +kernel
theorem dX4_isFive_29 : decode cX4_isFive 29 = .ok (.ifCond .eq 7, 3) := by decide +kernel
theorem dX4_isFive_32 : decode cX4_isFive 32 = .ok (.iconst 1, 1) := by decide +kernel
theorem dX4_isFive_33 : decode cX4_isFive 33 = .ok (.goto 4, 3) := by decide +kernel
theorem dX4_isFive_36 : decode cX4_isFive 36 = .ok (.iconst 0, 1) := by decide +kernel
theorem dX4_isFive_37 : decode cX4_isFive 37 = .ok (.ireturn, 1) := by decide +kernel
theorem dX4_isSix_0 : decode cX4_isSix 0 = .ok (.aload_n 0, 1) := by decide +kernel
theorem dX4_isSix_1 : decode cX4_isSix 1 = .ok (.bipush 6, 2) := by decide +kernel
theorem dX4_isSix_3 : decode cX4_isSix 3 = .ok (.invokevirtual 221, 3) := by decide +kernel
theorem dX4_isSix_6 : decode cX4_isSix 6 = .ok (.ifCond .eq 32, 3) := by decide +kernel
theorem dX4_isSix_9 : decode cX4_isSix 9 = .ok (.aload_n 0, 1) := by decide +kernel
theorem dX4_isSix_10 : decode cX4_isSix 10 = .ok (.iconst 0, 1) := by decide +kernel
theorem dX4_isSix_11 : decode cX4_isSix 11 = .ok (.iload_n 1, 1) := by decide +kernel
theorem dX4_isSix_12 : decode cX4_isSix 12 = .ok (.iload_n 2, 1) := by decide +kernel
theorem dX4_isSix_13 : decode cX4_isSix 13 = .ok (.iload_n 3, 1) := by decide +kernel
theorem dX4_isSix_14 : decode cX4_isSix 14 = .ok (.invokevirtual 224, 3) := by decide +kernel
theorem dX4_isSix_17 : decode cX4_isSix 17 = .ok (.ifCond .eq 21, 3) := by decide +kernel
theorem dX4_isSix_20 : decode cX4_isSix 20 = .ok (.aload_n 0, 1) := by decide +kernel
theorem dX4_isSix_21 : decode cX4_isSix 21 = .ok (.iconst 3, 1) := by decide +kernel
theorem dX4_isSix_22 : decode cX4_isSix 22 = .ok (.iload 4, 2) := by decide +kernel
theorem dX4_isSix_24 : decode cX4_isSix 24 = .ok (.iload 5, 2) := by decide +kernel
theorem dX4_isSix_26 : decode cX4_isSix 26 = .ok (.iload 6, 2) := by decide +kernel
theorem dX4_isSix_28 : decode cX4_isSix 28 = .ok (.invokevirtual 224, 3) := by decide +kernel
theorem dX4_isSix_31 : decode cX4_isSix 31 = .ok (.ifCond .eq 7, 3) := by decide +kernel
theorem dX4_isSix_34 : decode cX4_isSix 34 = .ok (.iconst 1, 1) := by decide +kernel
theorem dX4_isSix_35 : decode cX4_isSix 35 = .ok (.goto 4, 3) := by decide +kernel
theorem dX4_isSix_38 : decode cX4_isSix 38 = .ok (.iconst 0, 1) := by decide +kernel
theorem dX4_isSix_39 : decode cX4_isSix 39 = .ok (.ireturn, 1) := by decide +kernel
theorem dX4_isNumber_0 : decode cX4_isNumber 0 = .ok (.aload_n 0, 1) := by decide +kernel
theorem dX4_isNumber_1 : decode cX4_isNumber 1 = .ok (.getfield 212, 3) := by decide +kernel
theorem dX4_isNumber_4 : decode cX4_isNumber 4 = .ok (.iconst 2, 1) := by decide +kernel
theorem dX4_isNumber_5 : decode cX4_isNumber 5 = .ok (.if_icmp .ne 18, 3) := by decide +kernel
theorem dX4_isNumber_8 : decode cX4_isNumber 8 = .ok (.aload_n 0, 1) := by decide +kernel
theorem dX4_isNumber_9 : decode cX4_isNumber 9 = .ok (.getfield 215, 3) := by decide +kernel
theorem dX4_isNumber_12 : decode cX4_isNumber 12 = .ok (.i2l, 1) := by decide +kernel
theorem dX4_isNumber_13 : decode cX4_isNumber 13 = .ok (.iload_n 1, 1) := by decide +kernel
theorem dX4_isNumber_14 : decode cX4_isNumber 14 = .ok (.i2l, 1) := by decide +kernel
theorem dX4_isNumber_15 : decode cX4_isNumber 15 = .ok (.iload_n 2, 1) := by decide +kernel
theorem dX4_isNumber_16 : decode cX4_isNumber 16 = .ok (.i2l, 1) := by decide +kernel
theorem dX4_isNumber_17 : decode cX4_isNumber 17 = .ok (.invokestatic 43, 3) := by decide +kernel
theorem dX4_isNumber_20 : decode cX4_isNumber 20 = .ok (.ifCond .ne 10, 3) := by decide +kernel
theorem dX4_isNumber_23 : decode cX4_isNumber 23 = .ok (.aload_n 0, 1) := by decide +kernel
theorem dX4_isNumber_24 : decode cX4_isNumber 24 = .ok (.invokevirtual 227, 3) := by decide +kernel
theorem dX4_isNumber_27 : decode cX4_isNumber 27 = .ok (.ifCond .eq 7, 3) := by decide +kernel
theorem dX4_isNumber_30 : decode cX4_isNumber 30 = .ok (.iconst 1, 1) := by decide +kernel
theorem dX4_isNumber_31 : decode cX4_isNumber 31 = .ok (.goto 4, 3) := by decide +kernel
theorem dX4_isNumber_34 : decode cX4_isNumber 34 = .ok (.iconst 0, 1) := by decide +kernel
theorem dX4_isNumber_35 : decode cX4_isNumber 35 = .ok (.ireturn, 1) := by decide +kernel
theorem dX4_kindHere_0 : decode cX4_kindHere 0 = .ok (.aload_n 0, 1) := by decide +kernel
theorem dX4_kindHere_1 : decode cX4_kindHere 1 = .ok (.bipush 119, 2) := by decide +kernel
theorem dX4_kindHere_3 : decode cX4_kindHere 3 = .ok (.bipush 97, 2) := by decide +kernel
theorem dX4_kindHere_5 : decode cX4_kindHere 5 = .ok (.bipush 108, 2) := by decide +kernel
theorem dX4_kindHere_7 : decode cX4_kindHere 7 = .ok (.bipush 107, 2) := by decide +kernel
theorem dX4_kindHere_9 : decode cX4_kindHere 9 = .ok (.bipush 101, 2) := by decide +kernel
theorem dX4_kindHere_11 : decode cX4_kindHere 11 = .ok (.bipush 114, 2) := by decide +kernel
theorem dX4_kindHere_13 : decode cX4_kindHere 13 = .ok (.invokevirtual 231, 3) := by decide +kernel
theorem dX4_kindHere_16 : decode cX4_kindHere 16 = .ok (.ifCond .eq 5, 3) := by decide +kernel
theorem dX4_kindHere_19 : decode cX4_kindHere 19 = .ok (.iconst 0, 1) := by decide +kernel
theorem dX4_kindHere_20 : decode cX4_kindHere 20 = .ok (.ireturn, 1) := by decide +kernel
theorem dX4_kindHere_21 : decode cX4_kindHere 21 = .ok (.aload_n 0, 1) := by decide +kernel
theorem dX4_kindHere_22 : decode cX4_kindHere 22 = .ok (.bipush 7, 2) := by decide +kernel
theorem dX4_kindHere_24 : decode cX4_kindHere 24 = .ok (.invokevirtual 221, 3) := by decide +kernel
theorem dX4_kindHere_27 : decode cX4_kindHere 27 = .ok (.ifCond .eq 47, 3) := by decide +kernel
theorem dX4_kindHere_30 : decode cX4_kindHere 30 = .ok (.aload_n 0, 1) := by decide +kernel
theorem dX4_kindHere_31 : decode cX4_kindHere 31 = .ok (.iconst 0, 1) := by decide +kernel
theorem dX4_kindHere_32 : decode cX4_kindHere 32 = .ok (.bipush 112, 2) := by decide +kernel
theorem dX4_kindHere_34 : decode cX4_kindHere 34 = .ok (.bipush 111, 2) := by decide +kernel
theorem dX4_kindHere_36 : decode cX4_kindHere 36 = .ok (.bipush 115, 2) := by decide +kernel
theorem dX4_kindHere_38 : decode cX4_kindHere 38 = .ok (.invokevirtual 224, 3) := by decide +kernel
theorem dX4_kindHere_41 : decode cX4_kindHere 41 = .ok (.ifCond .eq 33, 3) := by decide +kernel
theorem dX4_kindHere_44 : decode cX4_kindHere 44 = .ok (.aload_n 0, 1) := by decide +kernel
theorem dX4_kindHere_45 : decode cX4_kindHere 45 = .ok (.iconst 3, 1) := by decide +kernel
theorem dX4_kindHere_46 : decode cX4_kindHere 46 = .ok (.bipush 116, 2) := by decide +kernel
theorem dX4_kindHere_48 : decode cX4_kindHere 48 = .ok (.bipush 109, 2) := by decide +kernel
theorem dX4_kindHere_50 : decode cX4_kindHere 50 = .ok (.bipush 97, 2) := by decide +kernel
theorem dX4_kindHere_52 : decode cX4_kindHere 52 = .ok (.invokevirtual 224, 3) := by decide +kernel
theorem dX4_kindHere_55 : decode cX4_kindHere 55 = .ok (.ifCond .eq 19, 3) := by decide +kernel
theorem dX4_kindHere_58 : decode cX4_kindHere 58 = .ok (.aload_n 0, 1) := by decide +kernel
theorem dX4_kindHere_59 : decode cX4_kindHere 59 = .ok (.iconst 4, 1) := by decide +kernel
theorem dX4_kindHere_60 : decode cX4_kindHere 60 = .ok (.bipush 109, 2) := by decide +kernel
theorem dX4_kindHere_62 : decode cX4_kindHere 62 = .ok (.bipush 97, 2) := by decide +kernel
theorem dX4_kindHere_64 : decode cX4_kindHere 64 = .ok (.bipush 110, 2) := by decide +kernel
theorem dX4_kindHere_66 : decode cX4_kindHere 66 = .ok (.invokevirtual 224, 3) := by decide +kernel
theorem dX4_kindHere_69 : decode cX4_kindHere 69 = .ok (.ifCond .eq 5, 3) := by decide +kernel
theorem dX4_kindHere_72 : decode cX4_kindHere 72 = .ok (.iconst 1, 1) := by decide +kernel
theorem dX4_kindHere_73 : decode cX4_kindHere 73 = .ok (.ireturn, 1) := by decide +kernel
theorem dX4_kindHere_74 : decode cX4_kindHere 74 = .ok (.aload_n 0, 1) := by decide +kernel
theorem dX4_kindHere_75 : decode cX4_kindHere 75 = .ok (.iconst 3, 1) := by decide +kernel
theorem dX4_kindHere_76 : decode cX4_kindHere 76 = .ok (.invokevirtual 221, 3) := by decide +kernel
theorem dX4_kindHere_79 : decode cX4_kindHere 79 = .ok (.ifCond .eq 19, 3) := by decide +kernel
theorem dX4_kindHere_82 : decode cX4_kindHere 82 = .ok (.aload_n 0, 1) := by decide +kernel
theorem dX4_kindHere_83 : decode cX4_kindHere 83 = .ok (.iconst 0, 1) := by decide +kernel
theorem dX4_kindHere_84 : decode cX4_kindHere 84 = .ok (.bipush 100, 2) := by decide +kernel
theorem dX4_kindHere_86 : decode cX4_kindHere 86 = .ok (.bipush 111, 2) := by decide +kernel
theorem dX4_kindHere_88 : decode cX4_kindHere 88 = .ok (.bipush 103, 2) := by decide +kernel
theorem dX4_kindHere_90 : decode cX4_kindHere 90 = .ok (.invokevirtual 224, 3) := by decide +kernel
theorem dX4_kindHere_93 : decode cX4_kindHere 93 = .ok (.ifCond .eq 5, 3) := by decide +kernel
theorem dX4_kindHere_96 : decode cX4_kindHere 96 = .ok (.iconst 2, 1) := by decide +kernel
theorem dX4_kindHere_97 : decode cX4_kindHere 97 = .ok (.ireturn, 1) := by decide +kernel
theorem dX4_kindHere_98 : decode cX4_kindHere 98 = .ok (.aload_n 0, 1) := by decide +kernel
theorem dX4_kindHere_99 : decode cX4_kindHere 99 = .ok (.bipush 99, 2) := by decide +kernel
theorem dX4_kindHere_101 : decode cX4_kindHere 101 = .ok (.bipush 104, 2) := by decide +kernel
theorem dX4_kindHere_103 : decode cX4_kindHere 103 = .ok (.bipush 105, 2) := by decide +kernel
theorem dX4_kindHere_105 : decode cX4_kindHere 105 = .ok (.bipush 108, 2) := by decide +kernel
theorem dX4_kindHere_107 : decode cX4_kindHere 107 = .ok (.bipush 100, 2) := by decide +kernel
theorem dX4_kindHere_109 : decode cX4_kindHere 109 = .ok (.invokevirtual 235, 3) := by decide +kernel
theorem dX4_kindHere_112 : decode cX4_kindHere 112 = .ok (.ifCond .eq 5, 3) := by decide +kernel
theorem dX4_kindHere_115 : decode cX4_kindHere 115 = .ok (.iconst 3, 1) := by decide +kernel
theorem dX4_kindHere_116 : decode cX4_kindHere 116 = .ok (.ireturn, 1) := by decide +kernel
theorem dX4_kindHere_117 : decode cX4_kindHere 117 = .ok (.aload_n 0, 1) := by decide +kernel
theorem dX4_kindHere_118 : decode cX4_kindHere 118 = .ok (.bipush 8, 2) := by decide +kernel
theorem dX4_kindHere_120 : decode cX4_kindHere 120 = .ok (.invokevirtual 221, 3) := by decide +kernel
theorem dX4_kindHere_123 : decode cX4_kindHere 123 = .ok (.ifCond .eq 47, 3) := by decide +kernel
theorem dX4_kindHere_126 : decode cX4_kindHere 126 = .ok (.aload_n 0, 1) := by decide +kernel
theorem dX4_kindHere_127 : decode cX4_kindHere 127 = .ok (.iconst 0, 1) := by decide +kernel
theorem dX4_kindHere_128 : decode cX4_kindHere 128 = .ok (.bipush 115, 2) := by decide +kernel
theorem dX4_kindHere_130 : decode cX4_kindHere 130 = .ok (.bipush 116, 2) := by decide +kernel
theorem dX4_kindHere_132 : decode cX4_kindHere 132 = .ok (.bipush 114, 2) := by decide +kernel
theorem dX4_kindHere_134 : decode cX4_kindHere 134 = .ok (.invokevirtual 224, 3) := by decide +kernel
theorem dX4_kindHere_137 : decode cX4_kindHere 137 = .ok (.ifCond .eq 33, 3) := by decide +kernel
theorem dX4_kindHere_140 : decode cX4_kindHere 140 = .ok (.aload_n 0, 1) := by decide +kernel
theorem dX4_kindHere_141 : decode cX4_kindHere 141 = .ok (.iconst 3, 1) := by decide +kernel
theorem dX4_kindHere_142 : decode cX4_kindHere 142 = .ok (.bipush 97, 2) := by decide +kernel
theorem dX4_kindHere_144 : decode cX4_kindHere 144 = .ok (.bipush 110, 2) := by decide +kernel
theorem dX4_kindHere_146 : decode cX4_kindHere 146 = .ok (.bipush 103, 2) := by decide +kernel
theorem dX4_kindHere_148 : decode cX4_kindHere 148 = .ok (.invokevirtual 224, 3) := by decide +kernel
theorem dX4_kindHere_151 : decode cX4_kindHere 151 = .ok (.ifCond .eq 19, 3) := by decide +kernel
theorem dX4_kindHere_154 : decode cX4_kindHere 154 = .ok (.aload_n 0, 1) := by decide +kernel
theorem dX4_kindHere_155 : decode cX4_kindHere 155 = .ok (.iconst 5, 1) := by decide +kernel
theorem dX4_kindHere_156 : decode cX4_kindHere 156 = .ok (.bipush 103, 2) := by decide +kernel
theorem dX4_kindHere_158 : decode cX4_kindHere 158 = .ok (.bipush 101, 2) := by decide +kernel
theorem dX4_kindHere_160 : decode cX4_kindHere 160 = .ok (.bipush 114, 2) := by decide +kernel
theorem dX4_kindHere_162 : decode cX4_kindHere 162 = .ok (.invokevirtual 224, 3) := by decide +kernel
theorem dX4_kindHere_165 : decode cX4_kindHere 165 = .ok (.ifCond .eq 5, 3) := by decide +kernel
theorem dX4_kindHere_168 : decode cX4_kindHere 168 = .ok (.iconst 4, 1) := by decide +kernel
theorem dX4_kindHere_169 : decode cX4_kindHere 169 = .ok (.ireturn, 1) := by decide +kernel
theorem dX4_kindHere_170 : decode cX4_kindHere 170 = .ok (.aload_n 0, 1) := by decide +kernel
theorem dX4_kindHere_171 : decode cX4_kindHere 171 = .ok (.bipush 109, 2) := by decide +kernel
theorem dX4_kindHere_173 : decode cX4_kindHere 173 = .ok (.bipush 101, 2) := by decide +kernel
theorem dX4_kindHere_175 : decode cX4_kindHere 175 = .ok (.bipush 97, 2) := by decide +kernel
theorem dX4_kindHere_177 : decode cX4_kindHere 177 = .ok (.bipush 110, 2) := by decide +kernel
theorem dX4_kindHere_179 : decode cX4_kindHere 179 = .ok (.invokevirtual 239, 3) := by decide +kernel
theorem dX4_kindHere_182 : decode cX4_kindHere 182 = .ok (.ifCond .eq 5, 3) := by decide +kernel
theorem dX4_kindHere_185 : decode cX4_kindHere 185 = .ok (.iconst 5, 1) := by decide +kernel
theorem dX4_kindHere_186 : decode cX4_kindHere 186 = .ok (.ireturn, 1) := by decide +kernel
theorem dX4_kindHere_187 : decode cX4_kindHere 187 = .ok (.aload_n 0, 1) := by decide +kernel
theorem dX4_kindHere_188 : decode cX4_kindHere 188 = .ok (.bipush 8, 2) := by decide +kernel
theorem dX4_kindHere_190 : decode cX4_kindHere 190 = .ok (.invokevirtual 221, 3) := by decide +kernel
theorem dX4_kindHere_193 : decode cX4_kindHere 193 = .ok (.ifCond .eq 50, 3) := by decide +kernel
theorem dX4_kindHere_196 : decode cX4_kindHere 196 = .ok (.aload_n 0, 1) := by decide +kernel
theorem dX4_kindHere_197 : decode cX4_kindHere 197 = .ok (.iconst 0, 1) := by decide +kernel
theorem dX4_kindHere_198 : decode cX4_kindHere 198 = .ok (.bipush 100, 2) := by decide +kernel
theorem dX4_kindHere_200 : decode cX4_kindHere 200 = .ok (.bipush 97, 2) := by decide +kernel
theorem dX4_kindHere_202 : decode cX4_kindHere 202 = .ok (.bipush 117, 2) := by decide +kernel
theorem dX4_kindHere_204 : decode cX4_kindHere 204 = .ok (.invokevirtual 224, 3) := by decide +kernel
theorem dX4_kindHere_207 : decode cX4_kindHere 207 = .ok (.ifCond .eq 36, 3) := by decide +kernel
theorem dX4_kindHere_210 : decode cX4_kindHere 210 = .ok (.aload_n 0, 1) := by decide +kernel
theorem dX4_kindHere_211 : decode cX4_kindHere 211 = .ok (.iconst 3, 1) := by decide +kernel
theorem dX4_kindHere_212 : decode cX4_kindHere 212 = .ok (.bipush 103, 2) := by decide +kernel
theorem dX4_kindHere_214 : decode cX4_kindHere 214 = .ok (.bipush 104, 2) := by decide +kernel
theorem dX4_kindHere_216 : decode cX4_kindHere 216 = .ok (.bipush 116, 2) := by decide +kernel
theorem dX4_kindHere_218 : decode cX4_kindHere 218 = .ok (.invokevirtual 224, 3) := by decide +kernel
theorem dX4_kindHere_221 : decode cX4_kindHere 221 = .ok (.ifCond .eq 22, 3) := by decide +kernel
theorem dX4_kindHere_224 : decode cX4_kindHere 224 = .ok (.aload_n 0, 1) := by decide +kernel
theorem dX4_kindHere_225 : decode cX4_kindHere 225 = .ok (.iconst 5, 1) := by decide +kernel
theorem dX4_kindHere_226 : decode cX4_kindHere 226 = .ok (.bipush 116, 2) := by decide +kernel
theorem dX4_kindHere_228 : decode cX4_kindHere 228 = .ok (.bipush 101, 2) := by decide +kernel
theorem dX4_kindHere_230 : decode cX4_kindHere 230 = .ok (.bipush 114, 2) := by decide +kernel
theorem dX4_kindHere_232 : decode cX4_kindHere 232 = .ok (.invokevirtual 224, 3) := by decide +kernel
theorem dX4_kindHere_235 : decode cX4_kindHere 235 = .ok (.ifCond .eq 8, 3) := by decide +kernel
theorem dX4_kindHere_238 : decode cX4_kindHere 238 = .ok (.bipush 6, 2) := by decide +kernel
theorem dX4_kindHere_240 : decode cX4_kindHere 240 = .ok (.goto 4, 3) := by decide +kernel
theorem dX4_kindHere_243 : decode cX4_kindHere 243 = .ok (.iconst (-1), 1) := by decide +kernel
theorem dX4_kindHere_244 : decode cX4_kindHere 244 = .ok (.ireturn, 1) := by decide +kernel
theorem dX4_standHere_0 : decode cX4_standHere 0 = .ok (.aload_n 0, 1) := by decide +kernel
theorem dX4_standHere_1 : decode cX4_standHere 1 = .ok (.bipush 115, 2) := by decide +kernel
theorem dX4_standHere_3 : decode cX4_standHere 3 = .ok (.bipush 104, 2) := by decide +kernel
theorem dX4_standHere_5 : decode cX4_standHere 5 = .ok (.bipush 117, 2) := by decide +kernel
theorem dX4_standHere_7 : decode cX4_standHere 7 = .ok (.bipush 116, 2) := by decide +kernel
theorem dX4_standHere_9 : decode cX4_standHere 9 = .ok (.invokevirtual 239, 3) := by decide +kernel
theorem dX4_standHere_12 : decode cX4_standHere 12 = .ok (.ifCond .eq 5, 3) := by decide +kernel
theorem dX4_standHere_15 : decode cX4_standHere 15 = .ok (.iconst 0, 1) := by decide +kernel
theorem dX4_standHere_16 : decode cX4_standHere 16 = .ok (.ireturn, 1) := by decide +kernel
theorem dX4_standHere_17 : decode cX4_standHere 17 = .ok (.aload_n 0, 1) := by decide +kernel
theorem dX4_standHere_18 : decode cX4_standHere 18 = .ok (.bipush 97, 2) := by decide +kernel
theorem dX4_standHere_20 : decode cX4_standHere 20 = .ok (.bipush 106, 2) := by decide +kernel
theorem dX4_standHere_22 : decode cX4_standHere 22 = .ok (.bipush 97, 2) := by decide +kernel
theorem dX4_standHere_24 : decode cX4_standHere 24 = .ok (.bipush 114, 2) := by decide +kernel
theorem dX4_standHere_26 : decode cX4_standHere 26 = .ok (.invokevirtual 239, 3) := by decide +kernel
theorem dX4_standHere_29 : decode cX4_standHere 29 = .ok (.ifCond .eq 5, 3) := by decide +kernel
theorem dX4_standHere_32 : decode cX4_standHere 32 = .ok (.iconst 1, 1) := by decide +kernel
theorem dX4_standHere_33 : decode cX4_standHere 33 = .ok (.ireturn, 1) := by decide +kernel
theorem dX4_standHere_34 : decode cX4_standHere 34 = .ok (.aload_n 0, 1) := by decide +kernel
theorem dX4_standHere_35 : decode cX4_standHere 35 = .ok (.bipush 111, 2) := by decide +kernel
theorem dX4_standHere_37 : decode cX4_standHere 37 = .ok (.bipush 112, 2) := by decide +kernel
theorem dX4_standHere_39 : decode cX4_standHere 39 = .ok (.bipush 101, 2) := by decide +kernel
theorem dX4_standHere_41 : decode cX4_standHere 41 = .ok (.bipush 110, 2) := by decide +kernel
theorem dX4_standHere_43 : decode cX4_standHere 43 = .ok (.invokevirtual 239, 3) := by decide +kernel
theorem dX4_standHere_46 : decode cX4_standHere 46 = .ok (.ifCond .eq 5, 3) := by decide +kernel
theorem dX4_standHere_49 : decode cX4_standHere 49 = .ok (.iconst 2, 1) := by decide +kernel
theorem dX4_standHere_50 : decode cX4_standHere 50 = .ok (.ireturn, 1) := by decide +kernel
theorem dX4_standHere_51 : decode cX4_standHere 51 = .ok (.aload_n 0, 1) := by decide +kernel
theorem dX4_standHere_52 : decode cX4_standHere 52 = .ok (.bipush 7, 2) := by decide +kernel
theorem dX4_standHere_54 : decode cX4_standHere 54 = .ok (.invokevirtual 221, 3) := by decide +kernel
theorem dX4_standHere_57 : decode cX4_standHere 57 = .ok (.ifCond .eq 49, 3) := by decide +kernel
theorem dX4_standHere_60 : decode cX4_standHere 60 = .ok (.aload_n 0, 1) := by decide +kernel
theorem dX4_standHere_61 : decode cX4_standHere 61 = .ok (.iconst 0, 1) := by decide +kernel
theorem dX4_standHere_62 : decode cX4_standHere 62 = .ok (.bipush 112, 2) := by decide +kernel
theorem dX4_standHere_64 : decode cX4_standHere 64 = .ok (.bipush 114, 2) := by decide +kernel
theorem dX4_standHere_66 : decode cX4_standHere 66 = .ok (.bipush 111, 2) := by decide +kernel
theorem dX4_standHere_68 : decode cX4_standHere 68 = .ok (.invokevirtual 224, 3) := by decide +kernel
theorem dX4_standHere_71 : decode cX4_standHere 71 = .ok (.ifCond .eq 35, 3) := by decide +kernel
theorem dX4_standHere_74 : decode cX4_standHere 74 = .ok (.aload_n 0, 1) := by decide +kernel
theorem dX4_standHere_75 : decode cX4_standHere 75 = .ok (.iconst 3, 1) := by decide +kernel
theorem dX4_standHere_76 : decode cX4_standHere 76 = .ok (.bipush 112, 2) := by decide +kernel
theorem dX4_standHere_78 : decode cX4_standHere 78 = .ok (.bipush 112, 2) := by decide +kernel
theorem dX4_standHere_80 : decode cX4_standHere 80 = .ok (.bipush 101, 2) := by decide +kernel
theorem dX4_standHere_82 : decode cX4_standHere 82 = .ok (.invokevirtual 224, 3) := by decide +kernel
theorem dX4_standHere_85 : decode cX4_standHere 85 = .ok (.ifCond .eq 21, 3) := by decide +kernel
theorem dX4_standHere_88 : decode cX4_standHere 88 = .ok (.aload_n 0, 1) := by decide +kernel
theorem dX4_standHere_89 : decode cX4_standHere 89 = .ok (.iconst 4, 1) := by decide +kernel
theorem dX4_standHere_90 : decode cX4_standHere 90 = .ok (.bipush 112, 2) := by decide +kernel
theorem dX4_standHere_92 : decode cX4_standHere 92 = .ok (.bipush 101, 2) := by decide +kernel
theorem dX4_standHere_94 : decode cX4_standHere 94 = .ok (.bipush 100, 2) := by decide +kernel
theorem dX4_standHere_96 : decode cX4_standHere 96 = .ok (.invokevirtual 224, 3) := by decide +kernel
theorem dX4_standHere_99 : decode cX4_standHere 99 = .ok (.ifCond .eq 7, 3) := by decide +kernel
theorem dX4_standHere_102 : decode cX4_standHere 102 = .ok (.iconst 3, 1) := by decide +kernel
theorem dX4_standHere_103 : decode cX4_standHere 103 = .ok (.goto 4, 3) := by decide +kernel
theorem dX4_standHere_106 : decode cX4_standHere 106 = .ok (.iconst (-1), 1) := by decide +kernel
theorem dX4_standHere_107 : decode cX4_standHere 107 = .ok (.ireturn, 1) := by decide +kernel
theorem dX4_walkerHere_0 : decode cX4_walkerHere 0 = .ok (.aload_n 0, 1) := by decide +kernel
theorem dX4_walkerHere_1 : decode cX4_walkerHere 1 = .ok (.getfield 7, 3) := by decide +kernel
theorem dX4_walkerHere_4 : decode cX4_walkerHere 4 = .ok (.iconst 0, 1) := by decide +kernel
theorem dX4_walkerHere_5 : decode cX4_walkerHere 5 = .ok (.iaload, 1) := by decide +kernel
theorem dX4_walkerHere_6 : decode cX4_walkerHere 6 = .ok (.bipush 8, 2) := by decide +kernel
theorem dX4_walkerHere_8 : decode cX4_walkerHere 8 = .ok (.if_icmp .ne 8, 3) := by decide +kernel
theorem dX4_walkerHere_11 : decode cX4_walkerHere 11 = .ok (.aload_n 0, 1) := by decide +kernel
theorem dX4_walkerHere_12 : decode cX4_walkerHere 12 = .ok (.invokevirtual 227, 3) := by decide +kernel
theorem dX4_walkerHere_15 : decode cX4_walkerHere 15 = .ok (.ireturn, 1) := by decide +kernel
theorem dX4_walkerHere_16 : decode cX4_walkerHere 16 = .ok (.aload_n 0, 1) := by decide +kernel
theorem dX4_walkerHere_17 : decode cX4_walkerHere 17 = .ok (.iload_n 1, 1) := by decide +kernel
theorem dX4_walkerHere_18 : decode cX4_walkerHere 18 = .ok (.iconst 0, 1) := by decide +kernel
theorem dX4_walkerHere_19 : decode cX4_walkerHere 19 = .ok (.invokevirtual 82, 3) := by decide +kernel
theorem dX4_walkerHere_22 : decode cX4_walkerHere 22 = .ok (.aload_n 0, 1) := by decide +kernel
theorem dX4_walkerHere_23 : decode cX4_walkerHere 23 = .ok (.getfield 7, 3) := by decide +kernel
theorem dX4_walkerHere_26 : decode cX4_walkerHere 26 = .ok (.iconst 0, 1) := by decide +kernel
theorem dX4_walkerHere_27 : decode cX4_walkerHere 27 = .ok (.iaload, 1) := by decide +kernel
theorem dX4_walkerHere_28 : decode cX4_walkerHere 28 = .ok (.iconst 1, 1) := by decide +kernel
theorem dX4_walkerHere_29 : decode cX4_walkerHere 29 = .ok (.isub, 1) := by decide +kernel
theorem dX4_walkerHere_30 : decode cX4_walkerHere 30 = .ok (.istore_n 2, 1) := by decide +kernel
theorem dX4_walkerHere_31 : decode cX4_walkerHere 31 = .ok (.aload_n 0, 1) := by decide +kernel
theorem dX4_walkerHere_32 : decode cX4_walkerHere 32 = .ok (.invokevirtual 242, 3) := by decide +kernel
theorem dX4_walkerHere_35 : decode cX4_walkerHere 35 = .ok (.aload_n 0, 1) := by decide +kernel
theorem dX4_walkerHere_36 : decode cX4_walkerHere 36 = .ok (.iconst 2, 1) := by decide +kernel
theorem dX4_walkerHere_37 : decode cX4_walkerHere 37 = .ok (.invokevirtual 221, 3) := by decide +kernel
theorem dX4_walkerHere_40 : decode cX4_walkerHere 40 = .ok (.ifCond .eq 65, 3) := by decide +kernel
theorem dX4_walkerHere_43 : decode cX4_walkerHere 43 = .ok (.aload_n 0, 1) := by decide +kernel
theorem dX4_walkerHere_44 : decode cX4_walkerHere 44 = .ok (.aload_n 0, 1) := by decide +kernel
theorem dX4_walkerHere_45 : decode cX4_walkerHere 45 = .ok (.getfield 200, 3) := by decide +kernel
theorem dX4_walkerHere_48 : decode cX4_walkerHere 48 = .ok (.invokevirtual 203, 3) := by decide +kernel
theorem dX4_walkerHere_51 : decode cX4_walkerHere 51 = .ok (.bipush 105, 2) := by decide +kernel
theorem dX4_walkerHere_53 : decode cX4_walkerHere 53 = .ok (.if_icmp .ne 52, 3) := by decide +kernel
theorem dX4_walkerHere_56 : decode cX4_walkerHere 56 = .ok (.aload_n 0, 1) := by decide +kernel
theorem dX4_walkerHere_57 : decode cX4_walkerHere 57 = .ok (.aload_n 0, 1) := by decide +kernel
theorem dX4_walkerHere_58 : decode cX4_walkerHere 58 = .ok (.getfield 200, 3) := by decide +kernel
theorem dX4_walkerHere_61 : decode cX4_walkerHere 61 = .ok (.iconst 1, 1) := by decide +kernel
theorem dX4_walkerHere_62 : decode cX4_walkerHere 62 = .ok (.iadd, 1) := by decide +kernel
theorem dX4_walkerHere_63 : decode cX4_walkerHere 63 = .ok (.invokevirtual 203, 3) := by decide +kernel
theorem dX4_walkerHere_66 : decode cX4_walkerHere 66 = .ok (.bipush 110, 2) := by decide +kernel
theorem dX4_walkerHere_68 : decode cX4_walkerHere 68 = .ok (.if_icmp .ne 37, 3) := by decide +kernel
theorem dX4_walkerHere_71 : decode cX4_walkerHere 71 = .ok (.aload_n 0, 1) := by decide +kernel
theorem dX4_walkerHere_72 : decode cX4_walkerHere 72 = .ok (.invokevirtual 242, 3) := by decide +kernel
theorem dX4_walkerHere_75 : decode cX4_walkerHere 75 = .ok (.aload_n 0, 1) := by decide +kernel
theorem dX4_walkerHere_76 : decode cX4_walkerHere 76 = .ok (.iconst 0, 1) := by decide +kernel
theorem dX4_walkerHere_77 : decode cX4_walkerHere 77 = .ok (.bipush 8, 2) := by decide +kernel
theorem dX4_walkerHere_79 : decode cX4_walkerHere 79 = .ok (.invokevirtual 245, 3) := by decide +kernel
theorem dX4_walkerHere_82 : decode cX4_walkerHere 82 = .ok (.ifCond .ne 5, 3) := by decide +kernel
theorem dX4_walkerHere_85 : decode cX4_walkerHere 85 = .ok (.iconst 0, 1) := by decide +kernel
theorem dX4_walkerHere_86 : decode cX4_walkerHere 86 = .ok (.ireturn, 1) := by decide +kernel
theorem dX4_walkerHere_87 : decode cX4_walkerHere 87 = .ok (.aload_n 0, 1) := by decide +kernel
theorem dX4_walkerHere_88 : decode cX4_walkerHere 88 = .ok (.getfield 7, 3) := by decide +kernel
theorem dX4_walkerHere_91 : decode cX4_walkerHere 91 = .ok (.iload_n 2, 1) := by decide +kernel
theorem dX4_walkerHere_92 : decode cX4_walkerHere 92 = .ok (.iconst 1, 1) := by decide +kernel
theorem dX4_walkerHere_93 : decode cX4_walkerHere 93 = .ok (.invokestatic 76, 3) := by decide +kernel
theorem dX4_walkerHere_96 : decode cX4_walkerHere 96 = .ok (.aload_n 0, 1) := by decide +kernel
theorem dX4_walkerHere_97 : decode cX4_walkerHere 97 = .ok (.getfield 215, 3) := by decide +kernel
theorem dX4_walkerHere_100 : decode cX4_walkerHere 100 = .ok (.iastore, 1) := by decide +kernel
theorem dX4_walkerHere_101 : decode cX4_walkerHere 101 = .ok (.aload_n 0, 1) := by decide +kernel
theorem dX4_walkerHere_102 : decode cX4_walkerHere 102 = .ok (.invokevirtual 242, 3) := by decide +kernel
theorem dX4_walkerHere_105 : decode cX4_walkerHere 105 = .ok (.aload_n 0, 1) := by decide +kernel
theorem dX4_walkerHere_106 : decode cX4_walkerHere 106 = .ok (.bipush 98, 2) := by decide +kernel
theorem dX4_walkerHere_108 : decode cX4_walkerHere 108 = .ok (.bipush 97, 2) := by decide +kernel
theorem dX4_walkerHere_110 : decode cX4_walkerHere 110 = .ok (.bipush 99, 2) := by decide +kernel
theorem dX4_walkerHere_112 : decode cX4_walkerHere 112 = .ok (.bipush 107, 2) := by decide +kernel
theorem dX4_walkerHere_114 : decode cX4_walkerHere 114 = .ok (.invokevirtual 239, 3) := by decide +kernel
theorem dX4_walkerHere_117 : decode cX4_walkerHere 117 = .ok (.ifCond .eq 18, 3) := by decide +kernel
theorem dX4_walkerHere_120 : decode cX4_walkerHere 120 = .ok (.aload_n 0, 1) := by decide +kernel
theorem dX4_walkerHere_121 : decode cX4_walkerHere 121 = .ok (.getfield 7, 3) := by decide +kernel
theorem dX4_walkerHere_124 : decode cX4_walkerHere 124 = .ok (.iload_n 2, 1) := by decide +kernel
theorem dX4_walkerHere_125 : decode cX4_walkerHere 125 = .ok (.iconst 2, 1) := by decide +kernel
theorem dX4_walkerHere_126 : decode cX4_walkerHere 126 = .ok (.invokestatic 76, 3) := by decide +kernel
theorem dX4_walkerHere_129 : decode cX4_walkerHere 129 = .ok (.iconst 1, 1) := by decide +kernel
theorem dX4_walkerHere_130 : decode cX4_walkerHere 130 = .ok (.iastore, 1) := by decide +kernel
theorem dX4_walkerHere_131 : decode cX4_walkerHere 131 = .ok (.aload_n 0, 1) := by decide +kernel
theorem dX4_walkerHere_132 : decode cX4_walkerHere 132 = .ok (.invokevirtual 242, 3) := by decide +kernel
theorem dX4_walkerHere_135 : decode cX4_walkerHere 135 = .ok (.aload_n 0, 1) := by decide +kernel
theorem dX4_walkerHere_136 : decode cX4_walkerHere 136 = .ok (.bipush 109, 2) := by decide +kernel
theorem dX4_walkerHere_138 : decode cX4_walkerHere 138 = .ok (.bipush 111, 2) := by decide +kernel
theorem dX4_walkerHere_140 : decode cX4_walkerHere 140 = .ok (.bipush 111, 2) := by decide +kernel
theorem dX4_walkerHere_142 : decode cX4_walkerHere 142 = .ok (.bipush 100, 2) := by decide +kernel
theorem dX4_walkerHere_144 : decode cX4_walkerHere 144 = .ok (.invokevirtual 239, 3) := by decide +kernel
theorem dX4_walkerHere_147 : decode cX4_walkerHere 147 = .ok (.ifCond .eq 37, 3) := by decide +kernel
theorem dX4_walkerHere_150 : decode cX4_walkerHere 150 = .ok (.aload_n 0, 1) := by decide +kernel
theorem dX4_walkerHere_151 : decode cX4_walkerHere 151 = .ok (.invokevirtual 242, 3) := by decide +kernel
theorem dX4_walkerHere_154 : decode cX4_walkerHere 154 = .ok (.aload_n 0, 1) := by decide +kernel
theorem dX4_walkerHere_155 : decode cX4_walkerHere 155 = .ok (.iconst 0, 1) := by decide +kernel
theorem dX4_walkerHere_156 : decode cX4_walkerHere 156 = .ok (.bipush 9, 2) := by decide +kernel
theorem dX4_walkerHere_158 : decode cX4_walkerHere 158 = .ok (.invokevirtual 245, 3) := by decide +kernel
theorem dX4_walkerHere_161 : decode cX4_walkerHere 161 = .ok (.ifCond .ne 5, 3) := by decide +kernel
theorem dX4_walkerHere_164 : decode cX4_walkerHere 164 = .ok (.iconst 0, 1) := by decide +kernel
theorem dX4_walkerHere_165 : decode cX4_walkerHere 165 = .ok (.ireturn, 1) := by decide +kernel
theorem dX4_walkerHere_166 : decode cX4_walkerHere 166 = .ok (.aload_n 0, 1) := by decide +kernel
theorem dX4_walkerHere_167 : decode cX4_walkerHere 167 = .ok (.getfield 7, 3) := by decide +kernel
theorem dX4_walkerHere_170 : decode cX4_walkerHere 170 = .ok (.iload_n 2, 1) := by decide +kernel
theorem dX4_walkerHere_171 : decode cX4_walkerHere 171 = .ok (.iconst 3, 1) := by decide +kernel
theorem dX4_walkerHere_172 : decode cX4_walkerHere 172 = .ok (.invokestatic 76, 3) := by decide +kernel
theorem dX4_walkerHere_175 : decode cX4_walkerHere 175 = .ok (.aload_n 0, 1) := by decide +kernel
theorem dX4_walkerHere_176 : decode cX4_walkerHere 176 = .ok (.getfield 215, 3) := by decide +kernel
theorem dX4_walkerHere_179 : decode cX4_walkerHere 179 = .ok (.iastore, 1) := by decide +kernel
theorem dX4_walkerHere_180 : decode cX4_walkerHere 180 = .ok (.aload_n 0, 1) := by decide +kernel
theorem dX4_walkerHere_181 : decode cX4_walkerHere 181 = .ok (.invokevirtual 242, 3) := by decide +kernel
theorem dX4_walkerHere_184 : decode cX4_walkerHere 184 = .ok (.iconst 1, 1) := by decide +kernel
theorem dX4_walkerHere_185 : decode cX4_walkerHere 185 = .ok (.ireturn, 1) := by decide +kernel
theorem dX4_gateHere_0 : decode cX4_gateHere 0 = .ok (.aload_n 0, 1) := by decide +kernel
theorem dX4_gateHere_1 : decode cX4_gateHere 1 = .ok (.invokevirtual 242, 3) := by decide +kernel
theorem dX4_gateHere_4 : decode cX4_gateHere 4 = .ok (.aload_n 0, 1) := by decide +kernel
theorem dX4_gateHere_5 : decode cX4_gateHere 5 = .ok (.iconst 0, 1) := by decide +kernel
theorem dX4_gateHere_6 : decode cX4_gateHere 6 = .ok (.bipush 7, 2) := by decide +kernel
theorem dX4_gateHere_8 : decode cX4_gateHere 8 = .ok (.invokevirtual 245, 3) := by decide +kernel
theorem dX4_gateHere_11 : decode cX4_gateHere 11 = .ok (.ifCond .ne 5, 3) := by decide +kernel
theorem dX4_gateHere_14 : decode cX4_gateHere 14 = .ok (.iconst 0, 1) := by decide +kernel
theorem dX4_gateHere_15 : decode cX4_gateHere 15 = .ok (.ireturn, 1) := by decide +kernel
theorem dX4_gateHere_16 : decode cX4_gateHere 16 = .ok (.aload_n 0, 1) := by decide +kernel
theorem dX4_gateHere_17 : decode cX4_gateHere 17 = .ok (.getfield 7, 3) := by decide +kernel
theorem dX4_gateHere_20 : decode cX4_gateHere 20 = .ok (.bipush 13, 2) := by decide +kernel
theorem dX4_gateHere_22 : decode cX4_gateHere 22 = .ok (.aload_n 0, 1) := by decide +kernel
theorem dX4_gateHere_23 : decode cX4_gateHere 23 = .ok (.getfield 215, 3) := by decide +kernel
theorem dX4_gateHere_26 : decode cX4_gateHere 26 = .ok (.iadd, 1) := by decide +kernel
theorem dX4_gateHere_27 : decode cX4_gateHere 27 = .ok (.iload_n 1, 1) := by decide +kernel
theorem dX4_gateHere_28 : decode cX4_gateHere 28 = .ok (.iastore, 1) := by decide +kernel
theorem dX4_gateHere_29 : decode cX4_gateHere 29 = .ok (.aload_n 0, 1) := by decide +kernel
theorem dX4_gateHere_30 : decode cX4_gateHere 30 = .ok (.invokevirtual 242, 3) := by decide +kernel
theorem dX4_gateHere_33 : decode cX4_gateHere 33 = .ok (.iconst 1, 1) := by decide +kernel
theorem dX4_gateHere_34 : decode cX4_gateHere 34 = .ok (.ireturn, 1) := by decide +kernel
theorem dX4_beastsHere_0 : decode cX4_beastsHere 0 = .ok (.aload_n 0, 1) := by decide +kernel
theorem dX4_beastsHere_1 : decode cX4_beastsHere 1 = .ok (.invokevirtual 242, 3) := by decide +kernel
theorem dX4_beastsHere_4 : decode cX4_beastsHere 4 = .ok (.aload_n 0, 1) := by decide +kernel
theorem dX4_beastsHere_5 : decode cX4_beastsHere 5 = .ok (.iconst 0, 1) := by decide +kernel
theorem dX4_beastsHere_6 : decode cX4_beastsHere 6 = .ok (.bipush 8, 2) := by decide +kernel
theorem dX4_beastsHere_8 : decode cX4_beastsHere 8 = .ok (.invokevirtual 245, 3) := by decide +kernel
theorem dX4_beastsHere_11 : decode cX4_beastsHere 11 = .ok (.ifCond .ne 5, 3) := by decide +kernel
theorem dX4_beastsHere_14 : decode cX4_beastsHere 14 = .ok (.iconst 0, 1) := by decide +kernel
theorem dX4_beastsHere_15 : decode cX4_beastsHere 15 = .ok (.ireturn, 1) := by decide +kernel
theorem dX4_beastsHere_16 : decode cX4_beastsHere 16 = .ok (.aload_n 0, 1) := by decide +kernel
theorem dX4_beastsHere_17 : decode cX4_beastsHere 17 = .ok (.getfield 215, 3) := by decide +kernel
theorem dX4_beastsHere_20 : decode cX4_beastsHere 20 = .ok (.istore_n 1, 1) := by decide +kernel
theorem dX4_beastsHere_21 : decode cX4_beastsHere 21 = .ok (.aload_n 0, 1) := by decide +kernel
theorem dX4_beastsHere_22 : decode cX4_beastsHere 22 = .ok (.invokevirtual 242, 3) := by decide +kernel
theorem dX4_beastsHere_25 : decode cX4_beastsHere 25 = .ok (.aload_n 0, 1) := by decide +kernel
theorem dX4_beastsHere_26 : decode cX4_beastsHere 26 = .ok (.iconst 0, 1) := by decide +kernel
theorem dX4_beastsHere_27 : decode cX4_beastsHere 27 = .ok (.sipush 9999, 3) := by decide +kernel
theorem dX4_beastsHere_30 : decode cX4_beastsHere 30 = .ok (.invokevirtual 245, 3) := by decide +kernel
theorem dX4_beastsHere_33 : decode cX4_beastsHere 33 = .ok (.ifCond .ne 5, 3) := by decide +kernel
theorem dX4_beastsHere_36 : decode cX4_beastsHere 36 = .ok (.iconst 0, 1) := by decide +kernel
theorem dX4_beastsHere_37 : decode cX4_beastsHere 37 = .ok (.ireturn, 1) := by decide +kernel
theorem dX4_beastsHere_38 : decode cX4_beastsHere 38 = .ok (.aload_n 0, 1) := by decide +kernel
theorem dX4_beastsHere_39 : decode cX4_beastsHere 39 = .ok (.getfield 7, 3) := by decide +kernel
theorem dX4_beastsHere_42 : decode cX4_beastsHere 42 = .ok (.iconst 4, 1) := by decide +kernel
theorem dX4_beastsHere_43 : decode cX4_beastsHere 43 = .ok (.iload_n 1, 1) := by decide +kernel
theorem dX4_beastsHere_44 : decode cX4_beastsHere 44 = .ok (.iadd, 1) := by decide +kernel
theorem dX4_beastsHere_45 : decode cX4_beastsHere 45 = .ok (.aload_n 0, 1) := by decide +kernel
theorem dX4_beastsHere_46 : decode cX4_beastsHere 46 = .ok (.getfield 215, 3) := by decide +kernel
theorem dX4_beastsHere_49 : decode cX4_beastsHere 49 = .ok (.iastore, 1) := by decide +kernel
theorem dX4_beastsHere_50 : decode cX4_beastsHere 50 = .ok (.aload_n 0, 1) := by decide +kernel
theorem dX4_beastsHere_51 : decode cX4_beastsHere 51 = .ok (.invokevirtual 242, 3) := by decide +kernel
theorem dX4_beastsHere_54 : decode cX4_beastsHere 54 = .ok (.iconst 1, 1) := by decide +kernel
theorem dX4_beastsHere_55 : decode cX4_beastsHere 55 = .ok (.ireturn, 1) := by decide +kernel
theorem dX4_windHere_0 : decode cX4_windHere 0 = .ok (.aload_n 0, 1) := by decide +kernel
theorem dX4_windHere_1 : decode cX4_windHere 1 = .ok (.invokevirtual 242, 3) := by decide +kernel
theorem dX4_windHere_4 : decode cX4_windHere 4 = .ok (.aload_n 0, 1) := by decide +kernel
theorem dX4_windHere_5 : decode cX4_windHere 5 = .ok (.iconst 0, 1) := by decide +kernel
theorem dX4_windHere_6 : decode cX4_windHere 6 = .ok (.bipush 9, 2) := by decide +kernel
theorem dX4_windHere_8 : decode cX4_windHere 8 = .ok (.invokevirtual 245, 3) := by decide +kernel
theorem dX4_windHere_11 : decode cX4_windHere 11 = .ok (.ifCond .ne 5, 3) := by decide +kernel
theorem dX4_windHere_14 : decode cX4_windHere 14 = .ok (.iconst 0, 1) := by decide +kernel
theorem dX4_windHere_15 : decode cX4_windHere 15 = .ok (.ireturn, 1) := by decide +kernel
theorem dX4_windHere_16 : decode cX4_windHere 16 = .ok (.aload_n 0, 1) := by decide +kernel
theorem dX4_windHere_17 : decode cX4_windHere 17 = .ok (.getfield 7, 3) := by decide +kernel
theorem dX4_windHere_20 : decode cX4_windHere 20 = .ok (.iconst 3, 1) := by decide +kernel
theorem dX4_windHere_21 : decode cX4_windHere 21 = .ok (.aload_n 0, 1) := by decide +kernel
theorem dX4_windHere_22 : decode cX4_windHere 22 = .ok (.getfield 215, 3) := by decide +kernel
theorem dX4_windHere_25 : decode cX4_windHere 25 = .ok (.iastore, 1) := by decide +kernel
theorem dX4_windHere_26 : decode cX4_windHere 26 = .ok (.aload_n 0, 1) := by decide +kernel
theorem dX4_windHere_27 : decode cX4_windHere 27 = .ok (.invokevirtual 242, 3) := by decide +kernel
theorem dX4_windHere_30 : decode cX4_windHere 30 = .ok (.iconst 1, 1) := by decide +kernel
theorem dX4_windHere_31 : decode cX4_windHere 31 = .ok (.ireturn, 1) := by decide +kernel
theorem dX4_itemHere_0 : decode cX4_itemHere 0 = .ok (.aload_n 0, 1) := by decide +kernel
theorem dX4_itemHere_1 : decode cX4_itemHere 1 = .ok (.invokevirtual 248, 3) := by decide +kernel
theorem dX4_itemHere_4 : decode cX4_itemHere 4 = .ok (.istore_n 1, 1) := by decide +kernel
theorem dX4_itemHere_5 : decode cX4_itemHere 5 = .ok (.iload_n 1, 1) := by decide +kernel
theorem dX4_itemHere_6 : decode cX4_itemHere 6 = .ok (.ifCond .lt 9, 3) := by decide +kernel
theorem dX4_itemHere_9 : decode cX4_itemHere 9 = .ok (.aload_n 0, 1) := by decide +kernel
theorem dX4_itemHere_10 : decode cX4_itemHere 10 = .ok (.iload_n 1, 1) := by decide +kernel
theorem dX4_itemHere_11 : decode cX4_itemHere 11 = .ok (.invokevirtual 251, 3) := by decide +kernel
theorem dX4_itemHere_14 : decode cX4_itemHere 14 = .ok (.ireturn, 1) := by decide +kernel
theorem dX4_itemHere_15 : decode cX4_itemHere 15 = .ok (.aload_n 0, 1) := by decide +kernel
theorem dX4_itemHere_16 : decode cX4_itemHere 16 = .ok (.invokevirtual 254, 3) := by decide +kernel
theorem dX4_itemHere_19 : decode cX4_itemHere 19 = .ok (.istore_n 2, 1) := by decide +kernel
theorem dX4_itemHere_20 : decode cX4_itemHere 20 = .ok (.iload_n 2, 1) := by decide +kernel
theorem dX4_itemHere_21 : decode cX4_itemHere 21 = .ok (.ifCond .lt 9, 3) := by decide +kernel
theorem dX4_itemHere_24 : decode cX4_itemHere 24 = .ok (.aload_n 0, 1) := by decide +kernel
theorem dX4_itemHere_25 : decode cX4_itemHere 25 = .ok (.iload_n 2, 1) := by decide +kernel
theorem dX4_itemHere_26 : decode cX4_itemHere 26 = .ok (.invokevirtual 257, 3) := by decide +kernel
theorem dX4_itemHere_29 : decode cX4_itemHere 29 = .ok (.ireturn, 1) := by decide +kernel
theorem dX4_itemHere_30 : decode cX4_itemHere 30 = .ok (.aload_n 0, 1) := by decide +kernel
theorem dX4_itemHere_31 : decode cX4_itemHere 31 = .ok (.bipush 98, 2) := by decide +kernel
theorem dX4_itemHere_33 : decode cX4_itemHere 33 = .ok (.bipush 101, 2) := by decide +kernel
theorem dX4_itemHere_35 : decode cX4_itemHere 35 = .ok (.bipush 97, 2) := by decide +kernel
theorem dX4_itemHere_37 : decode cX4_itemHere 37 = .ok (.bipush 115, 2) := by decide +kernel
theorem dX4_itemHere_39 : decode cX4_itemHere 39 = .ok (.bipush 116, 2) := by decide +kernel
theorem dX4_itemHere_41 : decode cX4_itemHere 41 = .ok (.bipush 115, 2) := by decide +kernel
theorem dX4_itemHere_43 : decode cX4_itemHere 43 = .ok (.invokevirtual 231, 3) := by decide +kernel
theorem dX4_itemHere_46 : decode cX4_itemHere 46 = .ok (.ifCond .eq 8, 3) := by decide +kernel
theorem dX4_itemHere_49 : decode cX4_itemHere 49 = .ok (.aload_n 0, 1) := by decide +kernel
theorem dX4_itemHere_50 : decode cX4_itemHere 50 = .ok (.invokevirtual 260, 3) := by decide +kernel
theorem dX4_itemHere_53 : decode cX4_itemHere 53 = .ok (.ireturn, 1) := by decide +kernel
theorem dX4_itemHere_54 : decode cX4_itemHere 54 = .ok (.aload_n 0, 1) := by decide +kernel
theorem dX4_itemHere_55 : decode cX4_itemHere 55 = .ok (.bipush 119, 2) := by decide +kernel
theorem dX4_itemHere_57 : decode cX4_itemHere 57 = .ok (.bipush 105, 2) := by decide +kernel
theorem dX4_itemHere_59 : decode cX4_itemHere 59 = .ok (.bipush 110, 2) := by decide +kernel
theorem dX4_itemHere_61 : decode cX4_itemHere 61 = .ok (.bipush 100, 2) := by decide +kernel
theorem dX4_itemHere_63 : decode cX4_itemHere 63 = .ok (.invokevirtual 239, 3) := by decide +kernel
theorem dX4_itemHere_66 : decode cX4_itemHere 66 = .ok (.ifCond .eq 10, 3) := by decide +kernel
theorem dX4_itemHere_69 : decode cX4_itemHere 69 = .ok (.aload_n 0, 1) := by decide +kernel
theorem dX4_itemHere_70 : decode cX4_itemHere 70 = .ok (.invokevirtual 263, 3) := by decide +kernel
theorem dX4_itemHere_73 : decode cX4_itemHere 73 = .ok (.goto 7, 3) := by decide +kernel
theorem dX4_itemHere_76 : decode cX4_itemHere 76 = .ok (.aload_n 0, 1) := by decide +kernel
theorem dX4_itemHere_77 : decode cX4_itemHere 77 = .ok (.invokevirtual 227, 3) := by decide +kernel
theorem dX4_itemHere_80 : decode cX4_itemHere 80 = .ok (.ireturn, 1) := by decide +kernel
theorem dX4_text_0 : decode cX4_text 0 = .ok (.aload_n 0, 1) := by decide +kernel
theorem dX4_text_1 : decode cX4_text 1 = .ok (.getfield 7, 3) := by decide +kernel
theorem dX4_text_4 : decode cX4_text 4 = .ok (.aload_n 0, 1) := by decide +kernel
theorem dX4_text_5 : decode cX4_text 5 = .ok (.getfield 16, 3) := by decide +kernel
theorem dX4_text_8 : decode cX4_text 8 = .ok (.invokestatic 141, 3) := by decide +kernel
theorem dX4_text_11 : decode cX4_text 11 = .ok (.aload_n 0, 1) := by decide +kernel
theorem dX4_text_12 : decode cX4_text 12 = .ok (.iconst 0, 1) := by decide +kernel
theorem dX4_text_13 : decode cX4_text 13 = .ok (.putfield 197, 3) := by decide +kernel
theorem dX4_text_16 : decode cX4_text 16 = .ok (.aload_n 0, 1) := by decide +kernel
theorem dX4_text_17 : decode cX4_text 17 = .ok (.invokevirtual 242, 3) := by decide +kernel
theorem dX4_text_20 : decode cX4_text 20 = .ok (.iconst 1, 1) := by decide +kernel
theorem dX4_text_21 : decode cX4_text 21 = .ok (.istore_n 1, 1) := by decide +kernel
theorem dX4_text_22 : decode cX4_text 22 = .ok (.aload_n 0, 1) := by decide +kernel
theorem dX4_text_23 : decode cX4_text 23 = .ok (.invokevirtual 266, 3) := by decide +kernel
theorem dX4_text_26 : decode cX4_text 26 = .ok (.istore_n 2, 1) := by decide +kernel
theorem dX4_text_27 : decode cX4_text 27 = .ok (.iload_n 2, 1) := by decide +kernel
theorem dX4_text_28 : decode cX4_text 28 = .ok (.ifCond .eq 26, 3) := by decide +kernel
theorem dX4_text_31 : decode cX4_text 31 = .ok (.aload_n 0, 1) := by decide +kernel
theorem dX4_text_32 : decode cX4_text 32 = .ok (.getfield 212, 3) := by decide +kernel
theorem dX4_text_35 : decode cX4_text 35 = .ok (.iconst 3, 1) := by decide +kernel
theorem dX4_text_36 : decode cX4_text 36 = .ok (.if_icmp .ne 18, 3) := by decide +kernel
theorem dX4_text_39 : decode cX4_text 39 = .ok (.aload_n 0, 1) := by decide +kernel
theorem dX4_text_40 : decode cX4_text 40 = .ok (.invokevirtual 242, 3) := by decide +kernel
theorem dX4_text_43 : decode cX4_text 43 = .ok (.aload_n 0, 1) := by decide +kernel
theorem dX4_text_44 : decode cX4_text 44 = .ok (.invokevirtual 266, 3) := by decide +kernel
theorem dX4_text_47 : decode cX4_text 47 = .ok (.istore_n 2, 1) := by decide +kernel
theorem dX4_text_48 : decode cX4_text 48 = .ok (.iinc 1 1, 3) := by decide +kernel
theorem dX4_text_51 : decode cX4_text 51 = .ok (.goto (-24), 3) := by decide +kernel
theorem dX4_text_54 : decode cX4_text 54 = .ok (.iload_n 2, 1) := by decide +kernel
theorem dX4_text_55 : decode cX4_text 55 = .ok (.ifCond .eq 21, 3) := by decide +kernel
theorem dX4_text_58 : decode cX4_text 58 = .ok (.aload_n 0, 1) := by decide +kernel
theorem dX4_text_59 : decode cX4_text 59 = .ok (.getfield 212, 3) := by decide +kernel
theorem dX4_text_62 : decode cX4_text 62 = .ok (.ifCond .eq 10, 3) := by decide +kernel
theorem dX4_text_65 : decode cX4_text 65 = .ok (.aload_n 0, 1) := by decide +kernel
theorem dX4_text_66 : decode cX4_text 66 = .ok (.invokevirtual 227, 3) := by decide +kernel
theorem dX4_text_69 : decode cX4_text 69 = .ok (.ifCond .eq 7, 3) := by decide +kernel
theorem dX4_text_72 : decode cX4_text 72 = .ok (.iconst 1, 1) := by decide +kernel
theorem dX4_text_73 : decode cX4_text 73 = .ok (.goto 4, 3) := by decide +kernel
theorem dX4_text_76 : decode cX4_text 76 = .ok (.iconst 0, 1) := by decide +kernel
theorem dX4_text_77 : decode cX4_text 77 = .ok (.istore_n 2, 1) := by decide +kernel
theorem dX4_text_78 : decode cX4_text 78 = .ok (.aload_n 0, 1) := by decide +kernel
theorem dX4_text_79 : decode cX4_text 79 = .ok (.iconst 0, 1) := by decide +kernel
theorem dX4_text_80 : decode cX4_text 80 = .ok (.putfield 193, 3) := by decide +kernel
theorem dX4_text_83 : decode cX4_text 83 = .ok (.iload_n 2, 1) := by decide +kernel
theorem dX4_text_84 : decode cX4_text 84 = .ok (.ifCond .ne 14, 3) := by decide +kernel
theorem dX4_text_87 : decode cX4_text 87 = .ok (.aload_n 0, 1) := by decide +kernel
theorem dX4_text_88 : decode cX4_text 88 = .ok (.getfield 16, 3) := by decide +kernel
theorem dX4_text_91 : decode cX4_text 91 = .ok (.aload_n 0, 1) := by decide +kernel
theorem dX4_text_92 : decode cX4_text 92 = .ok (.getfield 7, 3) := by decide +kernel
theorem dX4_text_95 : decode cX4_text 95 = .ok (.invokestatic 141, 3) := by decide +kernel
theorem dX4_text_98 : decode cX4_text 98 = .ok (.iload_n 2, 1) := by decide +kernel
theorem dX4_text_99 : decode cX4_text 99 = .ok (.ifCond .eq 7, 3) := by decide +kernel
theorem dX4_text_102 : decode cX4_text 102 = .ok (.iload_n 1, 1) := by decide +kernel
theorem dX4_text_103 : decode cX4_text 103 = .ok (.goto 9, 3) := by decide +kernel
theorem dX4_text_106 : decode cX4_text 106 = .ok (.iconst (-1), 1) := by decide +kernel
theorem dX4_text_107 : decode cX4_text 107 = .ok (.aload_n 0, 1) := by decide +kernel
theorem dX4_text_108 : decode cX4_text 108 = .ok (.getfield 218, 3) := by decide +kernel
theorem dX4_text_111 : decode cX4_text 111 = .ok (.isub, 1) := by decide +kernel
theorem dX4_text_112 : decode cX4_text 112 = .ok (.ireturn, 1) := by decide +kernel
theorem dX4_hold_0 : decode cX4_hold 0 = .ok (.iload_n 1, 1) := by decide +kernel
theorem dX4_hold_1 : decode cX4_hold 1 = .ok (.i2l, 1) := by decide +kernel
theorem dX4_hold_2 : decode cX4_hold 2 = .ok (.lconst 0, 1) := by decide +kernel
theorem dX4_hold_3 : decode cX4_hold 3 = .ok (.ldc2_w 74, 3) := by decide +kernel
theorem dX4_hold_6 : decode cX4_hold 6 = .ok (.invokestatic 43, 3) := by decide +kernel
theorem dX4_hold_9 : decode cX4_hold 9 = .ok (.ifCond .eq 16, 3) := by decide +kernel
theorem dX4_hold_12 : decode cX4_hold 12 = .ok (.iload_n 2, 1) := by decide +kernel
theorem dX4_hold_13 : decode cX4_hold 13 = .ok (.iconst (-1), 1) := by decide +kernel
theorem dX4_hold_14 : decode cX4_hold 14 = .ok (.if_icmp .eq 18, 3) := by decide +kernel
theorem dX4_hold_17 : decode cX4_hold 17 = .ok (.aload_n 0, 1) := by decide +kernel
theorem dX4_hold_18 : decode cX4_hold 18 = .ok (.iload_n 2, 1) := by decide +kernel
theorem dX4_hold_19 : decode cX4_hold 19 = .ok (.invokevirtual 89, 3) := by decide +kernel
theorem dX4_hold_22 : decode cX4_hold 22 = .ok (.ifCond .ne 10, 3) := by decide +kernel
theorem dX4_hold_25 : decode cX4_hold 25 = .ok (.aload_n 0, 1) := by decide +kernel
theorem dX4_hold_26 : decode cX4_hold 26 = .ok (.ldc 40, 2) := by decide +kernel
theorem dX4_hold_28 : decode cX4_hold 28 = .ok (.invokevirtual 48, 3) := by decide +kernel
theorem dX4_hold_31 : decode cX4_hold 31 = .ok (.ireturn, 1) := by decide +kernel
theorem dX4_hold_32 : decode cX4_hold 32 = .ok (.aload_n 0, 1) := by decide +kernel
theorem dX4_hold_33 : decode cX4_hold 33 = .ok (.getfield 7, 3) := by decide +kernel
theorem dX4_hold_36 : decode cX4_hold 36 = .ok (.bipush 61, 2) := by decide +kernel
theorem dX4_hold_38 : decode cX4_hold 38 = .ok (.iload_n 1, 1) := by decide +kernel
theorem dX4_hold_39 : decode cX4_hold 39 = .ok (.iadd, 1) := by decide +kernel
theorem dX4_hold_40 : decode cX4_hold 40 = .ok (.iload_n 2, 1) := by decide +kernel
theorem dX4_hold_41 : decode cX4_hold 41 = .ok (.iastore, 1) := by decide +kernel
theorem dX4_hold_42 : decode cX4_hold 42 = .ok (.iconst 1, 1) := by decide +kernel
theorem dX4_hold_43 : decode cX4_hold 43 = .ok (.ireturn, 1) := by decide +kernel
theorem dX4_isUnder_0 : decode cX4_isUnder 0 = .ok (.iload_n 1, 1) := by decide +kernel
theorem dX4_isUnder_1 : decode cX4_isUnder 1 = .ok (.ifCond .eq 44, 3) := by decide +kernel
theorem dX4_isUnder_4 : decode cX4_isUnder 4 = .ok (.iload_n 0, 1) := by decide +kernel
theorem dX4_isUnder_5 : decode cX4_isUnder 5 = .ok (.iload_n 1, 1) := by decide +kernel
theorem dX4_isUnder_6 : decode cX4_isUnder 6 = .ok (.if_icmp .eq 39, 3) := by decide +kernel
theorem dX4_isUnder_9 : decode cX4_isUnder 9 = .ok (.iload_n 1, 1) := by decide +kernel
theorem dX4_isUnder_10 : decode cX4_isUnder 10 = .ok (.iconst 2, 1) := by decide +kernel
theorem dX4_isUnder_11 : decode cX4_isUnder 11 = .ok (.if_icmp .ne 13, 3) := by decide +kernel
theorem dX4_isUnder_14 : decode cX4_isUnder 14 = .ok (.iload_n 0, 1) := by decide +kernel
theorem dX4_isUnder_15 : decode cX4_isUnder 15 = .ok (.iconst 3, 1) := by decide +kernel
theorem dX4_isUnder_16 : decode cX4_isUnder 16 = .ok (.if_icmp .eq 29, 3) := by decide +kernel
theorem dX4_isUnder_19 : decode cX4_isUnder 19 = .ok (.iload_n 0, 1) := by decide +kernel
theorem dX4_isUnder_20 : decode cX4_isUnder 20 = .ok (.iconst 4, 1) := by decide +kernel
theorem dX4_isUnder_21 : decode cX4_isUnder 21 = .ok (.if_icmp .eq 24, 3) := by decide +kernel
theorem dX4_isUnder_24 : decode cX4_isUnder 24 = .ok (.iload_n 1, 1) := by decide +kernel
theorem dX4_isUnder_25 : decode cX4_isUnder 25 = .ok (.iconst 3, 1) := by decide +kernel
theorem dX4_isUnder_26 : decode cX4_isUnder 26 = .ok (.if_icmp .ne 8, 3) := by decide +kernel
theorem dX4_isUnder_29 : decode cX4_isUnder 29 = .ok (.iload_n 0, 1) := by decide +kernel
theorem dX4_isUnder_30 : decode cX4_isUnder 30 = .ok (.iconst 4, 1) := by decide +kernel
theorem dX4_isUnder_31 : decode cX4_isUnder 31 = .ok (.if_icmp .eq 14, 3) := by decide +kernel
theorem dX4_isUnder_34 : decode cX4_isUnder 34 = .ok (.iload_n 1, 1) := by decide +kernel
theorem dX4_isUnder_35 : decode cX4_isUnder 35 = .ok (.iconst 1, 1) := by decide +kernel
theorem dX4_isUnder_36 : decode cX4_isUnder 36 = .ok (.if_icmp .ne 13, 3) := by decide +kernel
theorem dX4_isUnder_39 : decode cX4_isUnder 39 = .ok (.iload_n 0, 1) := by decide +kernel
theorem dX4_isUnder_40 : decode cX4_isUnder 40 = .ok (.bipush 6, 2) := by decide +kernel
theorem dX4_isUnder_42 : decode cX4_isUnder 42 = .ok (.if_icmp .ne 7, 3) := by decide +kernel
theorem dX4_isUnder_45 : decode cX4_isUnder 45 = .ok (.iconst 1, 1) := by decide +kernel
theorem dX4_isUnder_46 : decode cX4_isUnder 46 = .ok (.goto 4, 3) := by decide +kernel
theorem dX4_isUnder_49 : decode cX4_isUnder 49 = .ok (.iconst 0, 1) := by decide +kernel
theorem dX4_isUnder_50 : decode cX4_isUnder 50 = .ok (.ireturn, 1) := by decide +kernel
theorem dX4_as_0 : decode cX4_as 0 = .ok (.iload_n 1, 1) := by decide +kernel
theorem dX4_as_1 : decode cX4_as 1 = .ok (.i2l, 1) := by decide +kernel
theorem dX4_as_2 : decode cX4_as 2 = .ok (.lconst 0, 1) := by decide +kernel
theorem dX4_as_3 : decode cX4_as 3 = .ok (.ldc2_w 74, 3) := by decide +kernel
theorem dX4_as_6 : decode cX4_as 6 = .ok (.invokestatic 43, 3) := by decide +kernel
theorem dX4_as_9 : decode cX4_as 9 = .ok (.ifCond .eq 15, 3) := by decide +kernel
theorem dX4_as_12 : decode cX4_as 12 = .ok (.iload_n 2, 1) := by decide +kernel
theorem dX4_as_13 : decode cX4_as 13 = .ok (.i2l, 1) := by decide +kernel
theorem dX4_as_14 : decode cX4_as 14 = .ok (.lconst 0, 1) := by decide +kernel
theorem dX4_as_15 : decode cX4_as 15 = .ok (.ldc2_w 79, 3) := by decide +kernel
theorem dX4_as_18 : decode cX4_as 18 = .ok (.invokestatic 43, 3) := by decide +kernel
theorem dX4_as_21 : decode cX4_as 21 = .ok (.ifCond .ne 10, 3) := by decide +kernel
theorem dX4_as_24 : decode cX4_as 24 = .ok (.aload_n 0, 1) := by decide +kernel
theorem dX4_as_25 : decode cX4_as 25 = .ok (.ldc 40, 2) := by decide +kernel
theorem dX4_as_27 : decode cX4_as 27 = .ok (.invokevirtual 48, 3) := by decide +kernel
theorem dX4_as_30 : decode cX4_as 30 = .ok (.ireturn, 1) := by decide +kernel
theorem dX4_as_31 : decode cX4_as 31 = .ok (.aload_n 0, 1) := by decide +kernel
theorem dX4_as_32 : decode cX4_as 32 = .ok (.getfield 7, 3) := by decide +kernel
theorem dX4_as_35 : decode cX4_as 35 = .ok (.bipush 61, 2) := by decide +kernel
theorem dX4_as_37 : decode cX4_as 37 = .ok (.iload_n 1, 1) := by decide +kernel
theorem dX4_as_38 : decode cX4_as 38 = .ok (.iadd, 1) := by decide +kernel
theorem dX4_as_39 : decode cX4_as 39 = .ok (.iaload, 1) := by decide +kernel
theorem dX4_as_40 : decode cX4_as 40 = .ok (.istore_n 3, 1) := by decide +kernel
theorem dX4_as_41 : decode cX4_as 41 = .ok (.iload_n 3, 1) := by decide +kernel
theorem dX4_as_42 : decode cX4_as 42 = .ok (.ifCond .ge 11, 3) := by decide +kernel
theorem dX4_as_45 : decode cX4_as 45 = .ok (.aload_n 0, 1) := by decide +kernel
theorem dX4_as_46 : decode cX4_as 46 = .ok (.ldc_w 269, 3) := by decide +kernel
theorem dX4_as_49 : decode cX4_as 49 = .ok (.invokevirtual 48, 3) := by decide +kernel
theorem dX4_as_52 : decode cX4_as 52 = .ok (.ireturn, 1) := by decide +kernel
theorem dX4_as_53 : decode cX4_as 53 = .ok (.aload_n 0, 1) := by decide +kernel
theorem dX4_as_54 : decode cX4_as 54 = .ok (.iload_n 3, 1) := by decide +kernel
theorem dX4_as_55 : decode cX4_as 55 = .ok (.iconst 0, 1) := by decide +kernel
theorem dX4_as_56 : decode cX4_as 56 = .ok (.invokevirtual 62, 3) := by decide +kernel
theorem dX4_as_59 : decode cX4_as 59 = .ok (.iload_n 2, 1) := by decide +kernel
theorem dX4_as_60 : decode cX4_as 60 = .ok (.invokestatic 270, 3) := by decide +kernel
theorem dX4_as_63 : decode cX4_as 63 = .ok (.ifCond .eq 7, 3) := by decide +kernel
theorem dX4_as_66 : decode cX4_as 66 = .ok (.iload_n 3, 1) := by decide +kernel
theorem dX4_as_67 : decode cX4_as 67 = .ok (.goto 10, 3) := by decide +kernel
theorem dX4_as_70 : decode cX4_as 70 = .ok (.aload_n 0, 1) := by decide +kernel
theorem dX4_as_71 : decode cX4_as 71 = .ok (.ldc_w 273, 3) := by decide +kernel
theorem dX4_as_74 : decode cX4_as 74 = .ok (.invokevirtual 48, 3) := by decide +kernel
theorem dX4_as_77 : decode cX4_as 77 = .ok (.ireturn, 1) := by decide +kernel
theorem dX4_isSheet_0 : decode cX4_isSheet 0 = .ok (.iload_n 0, 1) := by decide +kernel
theorem dX4_isSheet_1 : decode cX4_isSheet 1 = .ok (.ifCond .lt 12, 3) := by decide +kernel
theorem dX4_isSheet_4 : decode cX4_isSheet 4 = .ok (.iload_n 0, 1) := by decide +kernel
theorem dX4_isSheet_5 : decode cX4_isSheet 5 = .ok (.iconst 4, 1) := by decide +kernel
theorem dX4_isSheet_6 : decode cX4_isSheet 6 = .ok (.if_icmp .ge 7, 3) := by decide +kernel
theorem dX4_isSheet_9 : decode cX4_isSheet 9 = .ok (.iconst 1, 1) := by decide +kernel
theorem dX4_isSheet_10 : decode cX4_isSheet 10 = .ok (.goto 4, 3) := by decide +kernel
theorem dX4_isSheet_13 : decode cX4_isSheet 13 = .ok (.iconst 0, 1) := by decide +kernel
theorem dX4_isSheet_14 : decode cX4_isSheet 14 = .ok (.ireturn, 1) := by decide +kernel
theorem dX4_sheet_0 : decode cX4_sheet 0 = .ok (.iload_n 1, 1) := by decide +kernel
theorem dX4_sheet_1 : decode cX4_sheet 1 = .ok (.invokestatic 274, 3) := by decide +kernel
theorem dX4_sheet_4 : decode cX4_sheet 4 = .ok (.ifCond .eq 25, 3) := by decide +kernel
theorem dX4_sheet_7 : decode cX4_sheet 7 = .ok (.iload_n 2, 1) := by decide +kernel
theorem dX4_sheet_8 : decode cX4_sheet 8 = .ok (.ifCond .eq 28, 3) := by decide +kernel
theorem dX4_sheet_11 : decode cX4_sheet 11 = .ok (.iload_n 2, 1) := by decide +kernel
theorem dX4_sheet_12 : decode cX4_sheet 12 = .ok (.bipush 8, 2) := by decide +kernel
theorem dX4_sheet_14 : decode cX4_sheet 14 = .ok (.if_icmp .eq 22, 3) := by decide +kernel
theorem dX4_sheet_17 : decode cX4_sheet 17 = .ok (.iload_n 2, 1) := by decide +kernel
theorem dX4_sheet_18 : decode cX4_sheet 18 = .ok (.bipush 16, 2) := by decide +kernel
theorem dX4_sheet_20 : decode cX4_sheet 20 = .ok (.if_icmp .eq 16, 3) := by decide +kernel
theorem dX4_sheet_23 : decode cX4_sheet 23 = .ok (.iload_n 2, 1) := by decide +kernel
theorem dX4_sheet_24 : decode cX4_sheet 24 = .ok (.bipush 32, 2) := by decide +kernel
theorem dX4_sheet_26 : decode cX4_sheet 26 = .ok (.if_icmp .eq 10, 3) := by decide +kernel
theorem dX4_sheet_29 : decode cX4_sheet 29 = .ok (.aload_n 0, 1) := by decide +kernel
theorem dX4_sheet_30 : decode cX4_sheet 30 = .ok (.ldc 40, 2) := by decide +kernel
theorem dX4_sheet_32 : decode cX4_sheet 32 = .ok (.invokevirtual 48, 3) := by decide +kernel
theorem dX4_sheet_35 : decode cX4_sheet 35 = .ok (.ireturn, 1) := by decide +kernel
theorem dX4_sheet_36 : decode cX4_sheet 36 = .ok (.iload_n 3, 1) := by decide +kernel
theorem dX4_sheet_37 : decode cX4_sheet 37 = .ok (.ifCond .ge 11, 3) := by decide +kernel
theorem dX4_sheet_40 : decode cX4_sheet 40 = .ok (.aload_n 0, 1) := by decide +kernel
theorem dX4_sheet_41 : decode cX4_sheet 41 = .ok (.ldc_w 277, 3) := by decide +kernel
theorem dX4_sheet_44 : decode cX4_sheet 44 = .ok (.invokevirtual 48, 3) := by decide +kernel
theorem dX4_sheet_47 : decode cX4_sheet 47 = .ok (.ireturn, 1) := by decide +kernel
theorem dX4_sheet_48 : decode cX4_sheet 48 = .ok (.iload_n 3, 1) := by decide +kernel
theorem dX4_sheet_49 : decode cX4_sheet 49 = .ok (.bipush 40, 2) := by decide +kernel
theorem dX4_sheet_51 : decode cX4_sheet 51 = .ok (.if_icmp .le 10, 3) := by decide +kernel
theorem dX4_sheet_54 : decode cX4_sheet 54 = .ok (.aload_n 0, 1) := by decide +kernel
theorem dX4_sheet_55 : decode cX4_sheet 55 = .ok (.ldc 40, 2) := by decide +kernel
theorem dX4_sheet_57 : decode cX4_sheet 57 = .ok (.invokevirtual 48, 3) := by decide +kernel
theorem dX4_sheet_60 : decode cX4_sheet 60 = .ok (.ireturn, 1) := by decide +kernel
theorem dX4_sheet_61 : decode cX4_sheet 61 = .ok (.aload_n 0, 1) := by decide +kernel
theorem dX4_sheet_62 : decode cX4_sheet 62 = .ok (.getfield 28, 3) := by decide +kernel
theorem dX4_sheet_65 : decode cX4_sheet 65 = .ok (.iload_n 1, 1) := by decide +kernel
theorem dX4_sheet_66 : decode cX4_sheet 66 = .ok (.iload_n 2, 1) := by decide +kernel
theorem dX4_sheet_67 : decode cX4_sheet 67 = .ok (.ifCond .ne 7, 3) := by decide +kernel
theorem dX4_sheet_70 : decode cX4_sheet 70 = .ok (.iconst (-1), 1) := by decide +kernel
theorem dX4_sheet_71 : decode cX4_sheet 71 = .ok (.goto 4, 3) := by decide +kernel
theorem dX4_sheet_74 : decode cX4_sheet 74 = .ok (.iload_n 2, 1) := by decide +kernel
theorem dX4_sheet_75 : decode cX4_sheet 75 = .ok (.iastore, 1) := by decide +kernel
theorem dX4_sheet_76 : decode cX4_sheet 76 = .ok (.aload_n 0, 1) := by decide +kernel
theorem dX4_sheet_77 : decode cX4_sheet 77 = .ok (.getfield 31, 3) := by decide +kernel
theorem dX4_sheet_80 : decode cX4_sheet 80 = .ok (.iload_n 1, 1) := by decide +kernel
theorem dX4_sheet_81 : decode cX4_sheet 81 = .ok (.iload_n 2, 1) := by decide +kernel
theorem dX4_sheet_82 : decode cX4_sheet 82 = .ok (.ifCond .ne 7, 3) := by decide +kernel
theorem dX4_sheet_85 : decode cX4_sheet 85 = .ok (.iconst 0, 1) := by decide +kernel
theorem dX4_sheet_86 : decode cX4_sheet 86 = .ok (.goto 4, 3) := by decide +kernel
theorem dX4_sheet_89 : decode cX4_sheet 89 = .ok (.iload_n 3, 1) := by decide +kernel
theorem dX4_sheet_90 : decode cX4_sheet 90 = .ok (.iastore, 1) := by decide +kernel
theorem dX4_sheet_91 : decode cX4_sheet 91 = .ok (.iconst 0, 1) := by decide +kernel
theorem dX4_sheet_92 : decode cX4_sheet 92 = .ok (.istore 4, 2) := by decide +kernel
theorem dX4_sheet_94 : decode cX4_sheet 94 = .ok (.iload 4, 2) := by decide +kernel
theorem dX4_sheet_96 : decode cX4_sheet 96 = .ok (.bipush 40, 2) := by decide +kernel
theorem dX4_sheet_98 : decode cX4_sheet 98 = .ok (.if_icmp .ge 22, 3) := by decide +kernel
theorem dX4_sheet_101 : decode cX4_sheet 101 = .ok (.aload_n 0, 1) := by decide +kernel
theorem dX4_sheet_102 : decode cX4_sheet 102 = .ok (.getfield 34, 3) := by decide +kernel
theorem dX4_sheet_105 : decode cX4_sheet 105 = .ok (.bipush 40, 2) := by decide +kernel
theorem dX4_sheet_107 : decode cX4_sheet 107 = .ok (.iload_n 1, 1) := by decide +kernel
theorem dX4_sheet_108 : decode cX4_sheet 108 = .ok (.imul, 1) := by decide +kernel
theorem dX4_sheet_109 : decode cX4_sheet 109 = .ok (.iload 4, 2) := by decide +kernel
theorem dX4_sheet_111 : decode cX4_sheet 111 = .ok (.iadd, 1) := by decide +kernel
theorem dX4_sheet_112 : decode cX4_sheet 112 = .ok (.iconst 0, 1) := by decide +kernel
theorem dX4_sheet_113 : decode cX4_sheet 113 = .ok (.iastore, 1) := by decide +kernel
theorem dX4_sheet_114 : decode cX4_sheet 114 = .ok (.iinc 4 1, 3) := by decide +kernel
theorem dX4_sheet_117 : decode cX4_sheet 117 = .ok (.goto (-23), 3) := by decide +kernel
theorem dX4_sheet_120 : decode cX4_sheet 120 = .ok (.aload_n 0, 1) := by decide +kernel
theorem dX4_sheet_121 : decode cX4_sheet 121 = .ok (.getfield 31, 3) := by decide +kernel
theorem dX4_sheet_124 : decode cX4_sheet 124 = .ok (.iload_n 1, 1) := by decide +kernel
theorem dX4_sheet_125 : decode cX4_sheet 125 = .ok (.iaload, 1) := by decide +kernel
theorem dX4_sheet_126 : decode cX4_sheet 126 = .ok (.ireturn, 1) := by decide +kernel
theorem dX4_write_0 : decode cX4_write 0 = .ok (.iload_n 1, 1) := by decide +kernel
theorem dX4_write_1 : decode cX4_write 1 = .ok (.invokestatic 274, 3) := by decide +kernel
theorem dX4_write_4 : decode cX4_write 4 = .ok (.ifCond .ne 10, 3) := by decide +kernel
theorem dX4_write_7 : decode cX4_write 7 = .ok (.aload_n 0, 1) := by decide +kernel
theorem dX4_write_8 : decode cX4_write 8 = .ok (.ldc 40, 2) := by decide +kernel
theorem dX4_write_10 : decode cX4_write 10 = .ok (.invokevirtual 48, 3) := by decide +kernel
theorem dX4_write_13 : decode cX4_write 13 = .ok (.ireturn, 1) := by decide +kernel
theorem dX4_write_14 : decode cX4_write 14 = .ok (.aload_n 0, 1) := by decide +kernel
theorem dX4_write_15 : decode cX4_write 15 = .ok (.getfield 28, 3) := by decide +kernel
theorem dX4_write_18 : decode cX4_write 18 = .ok (.iload_n 1, 1) := by decide +kernel
theorem dX4_write_19 : decode cX4_write 19 = .ok (.iaload, 1) := by decide +kernel
theorem dX4_write_20 : decode cX4_write 20 = .ok (.ifCond .ge 11, 3) := by decide +kernel
theorem dX4_write_23 : decode cX4_write 23 = .ok (.aload_n 0, 1) := by decide +kernel
theorem dX4_write_24 : decode cX4_write 24 = .ok (.ldc_w 269, 3) := by decide +kernel
theorem dX4_write_27 : decode cX4_write 27 = .ok (.invokevirtual 48, 3) := by decide +kernel
theorem dX4_write_30 : decode cX4_write 30 = .ok (.ireturn, 1) := by decide +kernel
theorem dX4_write_31 : decode cX4_write 31 = .ok (.iload_n 2, 1) := by decide +kernel
theorem dX4_write_32 : decode cX4_write 32 = .ok (.i2l, 1) := by decide +kernel
theorem dX4_write_33 : decode cX4_write 33 = .ok (.lconst 0, 1) := by decide +kernel
theorem dX4_write_34 : decode cX4_write 34 = .ok (.aload_n 0, 1) := by decide +kernel
theorem dX4_write_35 : decode cX4_write 35 = .ok (.getfield 31, 3) := by decide +kernel
theorem dX4_write_38 : decode cX4_write 38 = .ok (.iload_n 1, 1) := by decide +kernel
theorem dX4_write_39 : decode cX4_write 39 = .ok (.iaload, 1) := by decide +kernel
theorem dX4_write_40 : decode cX4_write 40 = .ok (.iconst 1, 1) := by decide +kernel
theorem dX4_write_41 : decode cX4_write 41 = .ok (.isub, 1) := by decide +kernel
theorem dX4_write_42 : decode cX4_write 42 = .ok (.i2l, 1) := by decide +kernel
theorem dX4_write_43 : decode cX4_write 43 = .ok (.invokestatic 43, 3) := by decide +kernel
theorem dX4_write_46 : decode cX4_write 46 = .ok (.ifCond .ne 10, 3) := by decide +kernel
theorem dX4_write_49 : decode cX4_write 49 = .ok (.aload_n 0, 1) := by decide +kernel
theorem dX4_write_50 : decode cX4_write 50 = .ok (.ldc 40, 2) := by decide +kernel
theorem dX4_write_52 : decode cX4_write 52 = .ok (.invokevirtual 48, 3) := by decide +kernel
theorem dX4_write_55 : decode cX4_write 55 = .ok (.ireturn, 1) := by decide +kernel
theorem dX4_write_56 : decode cX4_write 56 = .ok (.aload_n 0, 1) := by decide +kernel
theorem dX4_write_57 : decode cX4_write 57 = .ok (.getfield 34, 3) := by decide +kernel
theorem dX4_write_60 : decode cX4_write 60 = .ok (.bipush 40, 2) := by decide +kernel
theorem dX4_write_62 : decode cX4_write 62 = .ok (.iload_n 1, 1) := by decide +kernel
theorem dX4_write_63 : decode cX4_write 63 = .ok (.imul, 1) := by decide +kernel
theorem dX4_write_64 : decode cX4_write 64 = .ok (.iload_n 2, 1) := by decide +kernel
theorem dX4_write_65 : decode cX4_write 65 = .ok (.iadd, 1) := by decide +kernel
theorem dX4_write_66 : decode cX4_write 66 = .ok (.aload_n 0, 1) := by decide +kernel
theorem dX4_write_67 : decode cX4_write 67 = .ok (.getfield 28, 3) := by decide +kernel
theorem dX4_write_70 : decode cX4_write 70 = .ok (.iload_n 1, 1) := by decide +kernel
theorem dX4_write_71 : decode cX4_write 71 = .ok (.iaload, 1) := by decide +kernel
theorem dX4_write_72 : decode cX4_write 72 = .ok (.bipush 8, 2) := by decide +kernel
theorem dX4_write_74 : decode cX4_write 74 = .ok (.if_icmp .ne 8, 3) := by decide +kernel
theorem dX4_write_77 : decode cX4_write 77 = .ok (.iload_n 3, 1) := by decide +kernel
theorem dX4_write_78 : decode cX4_write 78 = .ok (.i2b, 1) := by decide +kernel
theorem dX4_write_79 : decode cX4_write 79 = .ok (.goto 20, 3) := by decide +kernel
theorem dX4_write_82 : decode cX4_write 82 = .ok (.aload_n 0, 1) := by decide +kernel
theorem dX4_write_83 : decode cX4_write 83 = .ok (.getfield 28, 3) := by decide +kernel
theorem dX4_write_86 : decode cX4_write 86 = .ok (.iload_n 1, 1) := by decide +kernel
theorem dX4_write_87 : decode cX4_write 87 = .ok (.iaload, 1) := by decide +kernel
theorem dX4_write_88 : decode cX4_write 88 = .ok (.bipush 16, 2) := by decide +kernel
theorem dX4_write_90 : decode cX4_write 90 = .ok (.if_icmp .ne 8, 3) := by decide +kernel
theorem dX4_write_93 : decode cX4_write 93 = .ok (.iload_n 3, 1) := by decide +kernel
theorem dX4_write_94 : decode cX4_write 94 = .ok (.i2s, 1) := by decide +kernel
theorem dX4_write_95 : decode cX4_write 95 = .ok (.goto 4, 3) := by decide +kernel
theorem dX4_write_98 : decode cX4_write 98 = .ok (.iload_n 3, 1) := by decide +kernel
theorem dX4_write_99 : decode cX4_write 99 = .ok (.iastore, 1) := by decide +kernel
theorem dX4_write_100 : decode cX4_write 100 = .ok (.iconst 1, 1) := by decide +kernel
theorem dX4_write_101 : decode cX4_write 101 = .ok (.ireturn, 1) := by decide +kernel
theorem dX4_copy_0 : decode cX4_copy 0 = .ok (.iload_n 1, 1) := by decide +kernel
theorem dX4_copy_1 : decode cX4_copy 1 = .ok (.invokestatic 274, 3) := by decide +kernel
theorem dX4_copy_4 : decode cX4_copy 4 = .ok (.ifCond .eq 10, 3) := by decide +kernel
theorem dX4_copy_7 : decode cX4_copy 7 = .ok (.iload_n 3, 1) := by decide +kernel
theorem dX4_copy_8 : decode cX4_copy 8 = .ok (.invokestatic 274, 3) := by decide +kernel
theorem dX4_copy_11 : decode cX4_copy 11 = .ok (.ifCond .ne 10, 3) := by decide +kernel
theorem dX4_copy_14 : decode cX4_copy 14 = .ok (.aload_n 0, 1) := by decide +kernel
theorem dX4_copy_15 : decode cX4_copy 15 = .ok (.ldc 40, 2) := by decide +kernel
theorem dX4_copy_17 : decode cX4_copy 17 = .ok (.invokevirtual 48, 3) := by decide +kernel
theorem dX4_copy_20 : decode cX4_copy 20 = .ok (.ireturn, 1) := by decide +kernel
theorem dX4_copy_21 : decode cX4_copy 21 = .ok (.aload_n 0, 1) := by decide +kernel
theorem dX4_copy_22 : decode cX4_copy 22 = .ok (.getfield 28, 3) := by decide +kernel
theorem dX4_copy_25 : decode cX4_copy 25 = .ok (.iload_n 1, 1) := by decide +kernel
theorem dX4_copy_26 : decode cX4_copy 26 = .ok (.iaload, 1) := by decide +kernel
theorem dX4_copy_27 : decode cX4_copy 27 = .ok (.ifCond .lt 12, 3) := by decide +kernel
theorem dX4_copy_30 : decode cX4_copy 30 = .ok (.aload_n 0, 1) := by decide +kernel
theorem dX4_copy_31 : decode cX4_copy 31 = .ok (.getfield 28, 3) := by decide +kernel
theorem dX4_copy_34 : decode cX4_copy 34 = .ok (.iload_n 3, 1) := by decide +kernel
theorem dX4_copy_35 : decode cX4_copy 35 = .ok (.iaload, 1) := by decide +kernel
theorem dX4_copy_36 : decode cX4_copy 36 = .ok (.ifCond .ge 11, 3) := by decide +kernel
theorem dX4_copy_39 : decode cX4_copy 39 = .ok (.aload_n 0, 1) := by decide +kernel
theorem dX4_copy_40 : decode cX4_copy 40 = .ok (.ldc_w 269, 3) := by decide +kernel
theorem dX4_copy_43 : decode cX4_copy 43 = .ok (.invokevirtual 48, 3) := by decide +kernel
theorem dX4_copy_46 : decode cX4_copy 46 = .ok (.ireturn, 1) := by decide +kernel
theorem dX4_copy_47 : decode cX4_copy 47 = .ok (.aload_n 0, 1) := by decide +kernel
theorem dX4_copy_48 : decode cX4_copy 48 = .ok (.getfield 28, 3) := by decide +kernel
theorem dX4_copy_51 : decode cX4_copy 51 = .ok (.iload_n 1, 1) := by decide +kernel
theorem dX4_copy_52 : decode cX4_copy 52 = .ok (.iaload, 1) := by decide +kernel
theorem dX4_copy_53 : decode cX4_copy 53 = .ok (.aload_n 0, 1) := by decide +kernel
theorem dX4_copy_54 : decode cX4_copy 54 = .ok (.getfield 28, 3) := by decide +kernel
theorem dX4_copy_57 : decode cX4_copy 57 = .ok (.iload_n 3, 1) := by decide +kernel
theorem dX4_copy_58 : decode cX4_copy 58 = .ok (.iaload, 1) := by decide +kernel
theorem dX4_copy_59 : decode cX4_copy 59 = .ok (.if_icmp .eq 11, 3) := by decide +kernel
theorem dX4_copy_62 : decode cX4_copy 62 = .ok (.aload_n 0, 1) := by decide +kernel
theorem dX4_copy_63 : decode cX4_copy 63 = .ok (.ldc_w 273, 3) := by decide +kernel
theorem dX4_copy_66 : decode cX4_copy 66 = .ok (.invokevirtual 48, 3) := by decide +kernel
theorem dX4_copy_69 : decode cX4_copy 69 = .ok (.ireturn, 1) := by decide +kernel
theorem dX4_copy_70 : decode cX4_copy 70 = .ok (.iload_n 2, 1) := by decide +kernel
theorem dX4_copy_71 : decode cX4_copy 71 = .ok (.ifCond .lt 40, 3) := by decide +kernel
theorem dX4_copy_74 : decode cX4_copy 74 = .ok (.iload 4, 2) := by decide +kernel
theorem dX4_copy_76 : decode cX4_copy 76 = .ok (.ifCond .lt 35, 3) := by decide +kernel
theorem dX4_copy_79 : decode cX4_copy 79 = .ok (.iload 5, 2) := by decide +kernel
theorem dX4_copy_81 : decode cX4_copy 81 = .ok (.ifCond .lt 30, 3) := by decide +kernel
theorem dX4_copy_84 : decode cX4_copy 84 = .ok (.iload 5, 2) := by decide +kernel
theorem dX4_copy_86 : decode cX4_copy 86 = .ok (.aload_n 0, 1) := by decide +kernel
theorem dX4_copy_87 : decode cX4_copy 87 = .ok (.getfield 31, 3) := by decide +kernel
theorem dX4_copy_90 : decode cX4_copy 90 = .ok (.iload_n 1, 1) := by decide +kernel
theorem dX4_copy_91 : decode cX4_copy 91 = .ok (.iaload, 1) := by decide +kernel
theorem dX4_copy_92 : decode cX4_copy 92 = .ok (.iload_n 2, 1) := by decide +kernel
theorem dX4_copy_93 : decode cX4_copy 93 = .ok (.isub, 1) := by decide +kernel
theorem dX4_copy_94 : decode cX4_copy 94 = .ok (.if_icmp .gt 17, 3) := by decide +kernel
theorem dX4_copy_97 : decode cX4_copy 97 = .ok (.iload 5, 2) := by decide +kernel
theorem dX4_copy_99 : decode cX4_copy 99 = .ok (.aload_n 0, 1) := by decide +kernel
theorem dX4_copy_100 : decode cX4_copy 100 = .ok (.getfield 31, 3) := by decide +kernel
theorem dX4_copy_103 : decode cX4_copy 103 = .ok (.iload_n 3, 1) := by decide +kernel
theorem dX4_copy_104 : decode cX4_copy 104 = .ok (.iaload, 1) := by decide +kernel
theorem dX4_copy_105 : decode cX4_copy 105 = .ok (.iload 4, 2) := by decide +kernel
theorem dX4_copy_107 : decode cX4_copy 107 = .ok (.isub, 1) := by decide +kernel
theorem dX4_copy_108 : decode cX4_copy 108 = .ok (.if_icmp .le 10, 3) := by decide +kernel
theorem dX4_copy_111 : decode cX4_copy 111 = .ok (.aload_n 0, 1) := by decide +kernel
theorem dX4_copy_112 : decode cX4_copy 112 = .ok (.ldc 40, 2) := by decide +kernel
theorem dX4_copy_114 : decode cX4_copy 114 = .ok (.invokevirtual 48, 3) := by decide +kernel
theorem dX4_copy_117 : decode cX4_copy 117 = .ok (.ireturn, 1) := by decide +kernel
theorem dX4_copy_118 : decode cX4_copy 118 = .ok (.bipush 40, 2) := by decide +kernel
theorem dX4_copy_120 : decode cX4_copy 120 = .ok (.iload_n 1, 1) := by decide +kernel
theorem dX4_copy_121 : decode cX4_copy 121 = .ok (.imul, 1) := by decide +kernel
theorem dX4_copy_122 : decode cX4_copy 122 = .ok (.iload_n 2, 1) := by decide +kernel
theorem dX4_copy_123 : decode cX4_copy 123 = .ok (.iadd, 1) := by decide +kernel
theorem dX4_copy_124 : decode cX4_copy 124 = .ok (.istore 6, 2) := by decide +kernel
theorem dX4_copy_126 : decode cX4_copy 126 = .ok (.bipush 40, 2) := by decide +kernel
theorem dX4_copy_128 : decode cX4_copy 128 = .ok (.iload_n 3, 1) := by decide +kernel
theorem dX4_copy_129 : decode cX4_copy 129 = .ok (.imul, 1) := by decide +kernel
theorem dX4_copy_130 : decode cX4_copy 130 = .ok (.iload 4, 2) := by decide +kernel
theorem dX4_copy_132 : decode cX4_copy 132 = .ok (.iadd, 1) := by decide +kernel
theorem dX4_copy_133 : decode cX4_copy 133 = .ok (.istore 7, 2) := by decide +kernel
theorem dX4_copy_135 : decode cX4_copy 135 = .ok (.iconst 0, 1) := by decide +kernel
theorem dX4_copy_136 : decode cX4_copy 136 = .ok (.istore 8, 2) := by decide +kernel
theorem dX4_copy_138 : decode cX4_copy 138 = .ok (.iload 8, 2) := by decide +kernel
theorem dX4_copy_140 : decode cX4_copy 140 = .ok (.iload 5, 2) := by decide +kernel
theorem dX4_copy_142 : decode cX4_copy 142 = .ok (.if_icmp .ge 50, 3) := by decide +kernel
theorem dX4_copy_145 : decode cX4_copy 145 = .ok (.iload 6, 2) := by decide +kernel
theorem dX4_copy_147 : decode cX4_copy 147 = .ok (.iload 7, 2) := by decide +kernel
theorem dX4_copy_149 : decode cX4_copy 149 = .ok (.if_icmp .ge 13, 3) := by decide +kernel
theorem dX4_copy_152 : decode cX4_copy 152 = .ok (.iload 5, 2) := by decide +kernel
theorem dX4_copy_154 : decode cX4_copy 154 = .ok (.iconst 1, 1) := by decide +kernel
theorem dX4_copy_155 : decode cX4_copy 155 = .ok (.isub, 1) := by decide +kernel
theorem dX4_copy_156 : decode cX4_copy 156 = .ok (.iload 8, 2) := by decide +kernel
theorem dX4_copy_158 : decode cX4_copy 158 = .ok (.isub, 1) := by decide +kernel
theorem dX4_copy_159 : decode cX4_copy 159 = .ok (.goto 5, 3) := by decide +kernel
theorem dX4_copy_162 : decode cX4_copy 162 = .ok (.iload 8, 2) := by decide +kernel
theorem dX4_copy_164 : decode cX4_copy 164 = .ok (.istore 9, 2) := by decide +kernel
theorem dX4_copy_166 : decode cX4_copy 166 = .ok (.aload_n 0, 1) := by decide +kernel
theorem dX4_copy_167 : decode cX4_copy 167 = .ok (.getfield 34, 3) := by decide +kernel
theorem dX4_copy_170 : decode cX4_copy 170 = .ok (.iload 7, 2) := by decide +kernel
theorem dX4_copy_172 : decode cX4_copy 172 = .ok (.iload 9, 2) := by decide +kernel
theorem dX4_copy_174 : decode cX4_copy 174 = .ok (.iadd, 1) := by decide +kernel
theorem dX4_copy_175 : decode cX4_copy 175 = .ok (.aload_n 0, 1) := by decide +kernel
theorem dX4_copy_176 : decode cX4_copy 176 = .ok (.getfield 34, 3) := by decide +kernel
theorem dX4_copy_179 : decode cX4_copy 179 = .ok (.iload 6, 2) := by decide +kernel
theorem dX4_copy_181 : decode cX4_copy 181 = .ok (.iload 9, 2) := by decide +kernel
theorem dX4_copy_183 : decode cX4_copy 183 = .ok (.iadd, 1) := by decide +kernel
theorem dX4_copy_184 : decode cX4_copy 184 = .ok (.iaload, 1) := by decide +kernel
theorem dX4_copy_185 : decode cX4_copy 185 = .ok (.iastore, 1) := by decide +kernel
theorem dX4_copy_186 : decode cX4_copy 186 = .ok (.iinc 8 1, 3) := by decide +kernel
theorem dX4_copy_189 : decode cX4_copy 189 = .ok (.goto (-51), 3) := by decide +kernel
theorem dX4_copy_192 : decode cX4_copy 192 = .ok (.iload 5, 2) := by decide +kernel
theorem dX4_copy_194 : decode cX4_copy 194 = .ok (.ireturn, 1) := by decide +kernel
theorem dX4_wants_0 : decode cX4_wants 0 = .ok (.iload_n 1, 1) := by decide +kernel
theorem dX4_wants_1 : decode cX4_wants 1 = .ok (.invokestatic 274, 3) := by decide +kernel
theorem dX4_wants_4 : decode cX4_wants 4 = .ok (.ifCond .ne 8, 3) := by decide +kernel
theorem dX4_wants_7 : decode cX4_wants 7 = .ok (.ldc 40, 2) := by decide +kernel
theorem dX4_wants_9 : decode cX4_wants 9 = .ok (.goto 19, 3) := by decide +kernel
theorem dX4_wants_12 : decode cX4_wants 12 = .ok (.aload_n 0, 1) := by decide +kernel
theorem dX4_wants_13 : decode cX4_wants 13 = .ok (.getfield 28, 3) := by decide +kernel
theorem dX4_wants_16 : decode cX4_wants 16 = .ok (.iload_n 1, 1) := by decide +kernel
theorem dX4_wants_17 : decode cX4_wants 17 = .ok (.iaload, 1) := by decide +kernel
theorem dX4_wants_18 : decode cX4_wants 18 = .ok (.ifCond .ge 9, 3) := by decide +kernel
theorem dX4_wants_21 : decode cX4_wants 21 = .ok (.ldc_w 269, 3) := by decide +kernel
theorem dX4_wants_24 : decode cX4_wants 24 = .ok (.goto 4, 3) := by decide +kernel
theorem dX4_wants_27 : decode cX4_wants 27 = .ok (.iconst 0, 1) := by decide +kernel
theorem dX4_wants_28 : decode cX4_wants 28 = .ok (.ireturn, 1) := by decide +kernel
theorem dX4_load_0 : decode cX4_load 0 = .ok (.aload_n 0, 1) := by decide +kernel
theorem dX4_load_1 : decode cX4_load 1 = .ok (.iload_n 1, 1) := by decide +kernel
theorem dX4_load_2 : decode cX4_load 2 = .ok (.invokevirtual 171, 3) := by decide +kernel
theorem dX4_load_5 : decode cX4_load 5 = .ok (.ifCond .eq 13, 3) := by decide +kernel
theorem dX4_load_8 : decode cX4_load 8 = .ok (.aload_n 0, 1) := by decide +kernel
theorem dX4_load_9 : decode cX4_load 9 = .ok (.aload_n 0, 1) := by decide +kernel
theorem dX4_load_10 : decode cX4_load 10 = .ok (.iload_n 1, 1) := by decide +kernel
theorem dX4_load_11 : decode cX4_load 11 = .ok (.invokevirtual 171, 3) := by decide +kernel
theorem dX4_load_14 : decode cX4_load 14 = .ok (.invokevirtual 48, 3) := by decide +kernel
theorem dX4_load_17 : decode cX4_load 17 = .ok (.ireturn, 1) := by decide +kernel
theorem dX4_load_18 : decode cX4_load 18 = .ok (.iconst 0, 1) := by decide +kernel
theorem dX4_load_19 : decode cX4_load 19 = .ok (.istore_n 2, 1) := by decide +kernel
theorem dX4_load_20 : decode cX4_load 20 = .ok (.iload_n 2, 1) := by decide +kernel
theorem dX4_load_21 : decode cX4_load 21 = .ok (.aload_n 0, 1) := by decide +kernel
theorem dX4_load_22 : decode cX4_load 22 = .ok (.getfield 31, 3) := by decide +kernel
theorem dX4_load_25 : decode cX4_load 25 = .ok (.iload_n 1, 1) := by decide +kernel
theorem dX4_load_26 : decode cX4_load 26 = .ok (.iaload, 1) := by decide +kernel
theorem dX4_load_27 : decode cX4_load 27 = .ok (.if_icmp .ge 56, 3) := by decide +kernel
theorem dX4_load_30 : decode cX4_load 30 = .ok (.iload_n 2, 1) := by decide +kernel
theorem dX4_load_31 : decode cX4_load 31 = .ok (.bipush 9, 2) := by decide +kernel
theorem dX4_load_33 : decode cX4_load 33 = .ok (.if_icmp .ge 50, 3) := by decide +kernel
theorem dX4_load_36 : decode cX4_load 36 = .ok (.aload_n 0, 1) := by decide +kernel
theorem dX4_load_37 : decode cX4_load 37 = .ok (.getfield 34, 3) := by decide +kernel
theorem dX4_load_40 : decode cX4_load 40 = .ok (.bipush 40, 2) := by decide +kernel
theorem dX4_load_42 : decode cX4_load 42 = .ok (.iload_n 1, 1) := by decide +kernel
theorem dX4_load_43 : decode cX4_load 43 = .ok (.imul, 1) := by decide +kernel
theorem dX4_load_44 : decode cX4_load 44 = .ok (.iload_n 2, 1) := by decide +kernel
theorem dX4_load_45 : decode cX4_load 45 = .ok (.iadd, 1) := by decide +kernel
theorem dX4_load_46 : decode cX4_load 46 = .ok (.iaload, 1) := by decide +kernel
theorem dX4_load_47 : decode cX4_load 47 = .ok (.i2l, 1) := by decide +kernel
theorem dX4_load_48 : decode cX4_load 48 = .ok (.lconst 0, 1) := by decide +kernel
theorem dX4_load_49 : decode cX4_load 49 = .ok (.ldc2_w 56, 3) := by decide +kernel
theorem dX4_load_52 : decode cX4_load 52 = .ok (.invokestatic 43, 3) := by decide +kernel
theorem dX4_load_55 : decode cX4_load 55 = .ok (.ifCond .eq 28, 3) := by decide +kernel
theorem dX4_load_58 : decode cX4_load 58 = .ok (.aload_n 0, 1) := by decide +kernel
theorem dX4_load_59 : decode cX4_load 59 = .ok (.getfield 7, 3) := by decide +kernel
theorem dX4_load_62 : decode cX4_load 62 = .ok (.iconst 4, 1) := by decide +kernel
theorem dX4_load_63 : decode cX4_load 63 = .ok (.iload_n 2, 1) := by decide +kernel
theorem dX4_load_64 : decode cX4_load 64 = .ok (.iadd, 1) := by decide +kernel
theorem dX4_load_65 : decode cX4_load 65 = .ok (.aload_n 0, 1) := by decide +kernel
theorem dX4_load_66 : decode cX4_load 66 = .ok (.getfield 34, 3) := by decide +kernel
theorem dX4_load_69 : decode cX4_load 69 = .ok (.bipush 40, 2) := by decide +kernel
theorem dX4_load_71 : decode cX4_load 71 = .ok (.iload_n 1, 1) := by decide +kernel
theorem dX4_load_72 : decode cX4_load 72 = .ok (.imul, 1) := by decide +kernel
theorem dX4_load_73 : decode cX4_load 73 = .ok (.iload_n 2, 1) := by decide +kernel
theorem dX4_load_74 : decode cX4_load 74 = .ok (.iadd, 1) := by decide +kernel
theorem dX4_load_75 : decode cX4_load 75 = .ok (.iaload, 1) := by decide +kernel
theorem dX4_load_76 : decode cX4_load 76 = .ok (.iastore, 1) := by decide +kernel
theorem dX4_load_77 : decode cX4_load 77 = .ok (.iinc 2 1, 3) := by decide +kernel
theorem dX4_load_80 : decode cX4_load 80 = .ok (.goto (-60), 3) := by decide +kernel
theorem dX4_load_83 : decode cX4_load 83 = .ok (.iload_n 2, 1) := by decide +kernel
theorem dX4_load_84 : decode cX4_load 84 = .ok (.ireturn, 1) := by decide +kernel
theorem dX4_judge_0 : decode cX4_judge 0 = .ok (.aload_n 0, 1) := by decide +kernel
theorem dX4_judge_1 : decode cX4_judge 1 = .ok (.iload_n 1, 1) := by decide +kernel
theorem dX4_judge_2 : decode cX4_judge 2 = .ok (.invokevirtual 171, 3) := by decide +kernel
theorem dX4_judge_5 : decode cX4_judge 5 = .ok (.ifCond .eq 13, 3) := by decide +kernel
theorem dX4_judge_8 : decode cX4_judge 8 = .ok (.aload_n 0, 1) := by decide +kernel
theorem dX4_judge_9 : decode cX4_judge 9 = .ok (.aload_n 0, 1) := by decide +kernel
theorem dX4_judge_10 : decode cX4_judge 10 = .ok (.iload_n 1, 1) := by decide +kernel
theorem dX4_judge_11 : decode cX4_judge 11 = .ok (.invokevirtual 171, 3) := by decide +kernel
theorem dX4_judge_14 : decode cX4_judge 14 = .ok (.invokevirtual 48, 3) := by decide +kernel
theorem dX4_judge_17 : decode cX4_judge 17 = .ok (.ireturn, 1) := by decide +kernel
theorem dX4_judge_18 : decode cX4_judge 18 = .ok (.iconst 0, 1) := by decide +kernel
theorem dX4_judge_19 : decode cX4_judge 19 = .ok (.istore_n 2, 1) := by decide +kernel
theorem dX4_judge_20 : decode cX4_judge 20 = .ok (.iload_n 2, 1) := by decide +kernel
theorem dX4_judge_21 : decode cX4_judge 21 = .ok (.aload_n 0, 1) := by decide +kernel
theorem dX4_judge_22 : decode cX4_judge 22 = .ok (.getfield 31, 3) := by decide +kernel
theorem dX4_judge_25 : decode cX4_judge 25 = .ok (.iload_n 1, 1) := by decide +kernel
theorem dX4_judge_26 : decode cX4_judge 26 = .ok (.iaload, 1) := by decide +kernel
theorem dX4_judge_27 : decode cX4_judge 27 = .ok (.if_icmp .ge 38, 3) := by decide +kernel
theorem dX4_judge_30 : decode cX4_judge 30 = .ok (.iload_n 2, 1) := by decide +kernel
theorem dX4_judge_31 : decode cX4_judge 31 = .ok (.bipush 8, 2) := by decide +kernel
theorem dX4_judge_33 : decode cX4_judge 33 = .ok (.if_icmp .ge 32, 3) := by decide +kernel
theorem dX4_judge_36 : decode cX4_judge 36 = .ok (.aload_n 0, 1) := by decide +kernel
theorem dX4_judge_37 : decode cX4_judge 37 = .ok (.getfield 34, 3) := by decide +kernel
theorem dX4_judge_40 : decode cX4_judge 40 = .ok (.bipush 40, 2) := by decide +kernel
theorem dX4_judge_42 : decode cX4_judge 42 = .ok (.iload_n 1, 1) := by decide +kernel
theorem dX4_judge_43 : decode cX4_judge 43 = .ok (.imul, 1) := by decide +kernel
theorem dX4_judge_44 : decode cX4_judge 44 = .ok (.iload_n 2, 1) := by decide +kernel
theorem dX4_judge_45 : decode cX4_judge 45 = .ok (.iadd, 1) := by decide +kernel
theorem dX4_judge_46 : decode cX4_judge 46 = .ok (.iaload, 1) := by decide +kernel
theorem dX4_judge_47 : decode cX4_judge 47 = .ok (.aload_n 0, 1) := by decide +kernel
theorem dX4_judge_48 : decode cX4_judge 48 = .ok (.getfield 7, 3) := by decide +kernel
theorem dX4_judge_51 : decode cX4_judge 51 = .ok (.bipush 13, 2) := by decide +kernel
theorem dX4_judge_53 : decode cX4_judge 53 = .ok (.iload_n 2, 1) := by decide +kernel
theorem dX4_judge_54 : decode cX4_judge 54 = .ok (.iadd, 1) := by decide +kernel
theorem dX4_judge_55 : decode cX4_judge 55 = .ok (.iaload, 1) := by decide +kernel
theorem dX4_judge_56 : decode cX4_judge 56 = .ok (.if_icmp .ne 9, 3) := by decide +kernel
theorem dX4_judge_59 : decode cX4_judge 59 = .ok (.iinc 2 1, 3) := by decide +kernel
theorem dX4_judge_62 : decode cX4_judge 62 = .ok (.goto (-42), 3) := by decide +kernel
theorem dX4_judge_65 : decode cX4_judge 65 = .ok (.iload_n 2, 1) := by decide +kernel
theorem dX4_judge_66 : decode cX4_judge 66 = .ok (.aload_n 0, 1) := by decide +kernel
theorem dX4_judge_67 : decode cX4_judge 67 = .ok (.getfield 31, 3) := by decide +kernel
theorem dX4_judge_70 : decode cX4_judge 70 = .ok (.iload_n 1, 1) := by decide +kernel
theorem dX4_judge_71 : decode cX4_judge 71 = .ok (.iaload, 1) := by decide +kernel
theorem dX4_judge_72 : decode cX4_judge 72 = .ok (.if_icmp .ge 9, 3) := by decide +kernel
theorem dX4_judge_75 : decode cX4_judge 75 = .ok (.iconst 1, 1) := by decide +kernel
theorem dX4_judge_76 : decode cX4_judge 76 = .ok (.iload_n 2, 1) := by decide +kernel
theorem dX4_judge_77 : decode cX4_judge 77 = .ok (.iadd, 1) := by decide +kernel
theorem dX4_judge_78 : decode cX4_judge 78 = .ok (.goto 4, 3) := by decide +kernel
theorem dX4_judge_81 : decode cX4_judge 81 = .ok (.iconst 0, 1) := by decide +kernel
theorem dX4_judge_82 : decode cX4_judge 82 = .ok (.ireturn, 1) := by decide +kernel
theorem dX4_image_0 : decode cX4_image 0 = .ok (.aload_n 0, 1) := by decide +kernel
theorem dX4_image_1 : decode cX4_image 1 = .ok (.getfield 7, 3) := by decide +kernel
theorem dX4_image_4 : decode cX4_image 4 = .ok (.aload_n 0, 1) := by decide +kernel
theorem dX4_image_5 : decode cX4_image 5 = .ok (.getfield 13, 3) := by decide +kernel
theorem dX4_image_8 : decode cX4_image 8 = .ok (.invokestatic 141, 3) := by decide +kernel
theorem dX4_image_11 : decode cX4_image 11 = .ok (.aload_n 0, 1) := by decide +kernel
theorem dX4_image_12 : decode cX4_image 12 = .ok (.iconst 1, 1) := by decide +kernel
theorem dX4_image_13 : decode cX4_image 13 = .ok (.putfield 278, 3) := by decide +kernel
theorem dX4_image_16 : decode cX4_image 16 = .ok (.iconst 1, 1) := by decide +kernel
theorem dX4_image_17 : decode cX4_image 17 = .ok (.ireturn, 1) := by decide +kernel
theorem dX4_undo_0 : decode cX4_undo 0 = .ok (.aload_n 0, 1) := by decide +kernel
theorem dX4_undo_1 : decode cX4_undo 1 = .ok (.getfield 278, 3) := by decide +kernel
theorem dX4_undo_4 : decode cX4_undo 4 = .ok (.ifCond .ne 10, 3) := by decide +kernel
theorem dX4_undo_7 : decode cX4_undo 7 = .ok (.aload_n 0, 1) := by decide +kernel
theorem dX4_undo_8 : decode cX4_undo 8 = .ok (.ldc 47, 2) := by decide +kernel
theorem dX4_undo_10 : decode cX4_undo 10 = .ok (.invokevirtual 48, 3) := by decide +kernel
theorem dX4_undo_13 : decode cX4_undo 13 = .ok (.ireturn, 1) := by decide +kernel
theorem dX4_undo_14 : decode cX4_undo 14 = .ok (.aload_n 0, 1) := by decide +kernel
theorem dX4_undo_15 : decode cX4_undo 15 = .ok (.getfield 13, 3) := by decide +kernel
theorem dX4_undo_18 : decode cX4_undo 18 = .ok (.aload_n 0, 1) := by decide +kernel
theorem dX4_undo_19 : decode cX4_undo 19 = .ok (.getfield 7, 3) := by decide +kernel
theorem dX4_undo_22 : decode cX4_undo 22 = .ok (.invokestatic 141, 3) := by decide +kernel
theorem dX4_undo_25 : decode cX4_undo 25 = .ok (.aload_n 0, 1) := by decide +kernel
theorem dX4_undo_26 : decode cX4_undo 26 = .ok (.getfield 7, 3) := by decide +kernel
theorem dX4_undo_29 : decode cX4_undo 29 = .ok (.iconst 1, 1) := by decide +kernel
theorem dX4_undo_30 : decode cX4_undo 30 = .ok (.iaload, 1) := by decide +kernel
theorem dX4_undo_31 : decode cX4_undo 31 = .ok (.ireturn, 1) := by decide +kernel
theorem dX4_tear_0 : decode cX4_tear 0 = .ok (.aload_n 0, 1) := by decide +kernel
theorem dX4_tear_1 : decode cX4_tear 1 = .ok (.getfield 278, 3) := by decide +kernel
theorem dX4_tear_4 : decode cX4_tear 4 = .ok (.istore_n 1, 1) := by decide +kernel
theorem dX4_tear_5 : decode cX4_tear 5 = .ok (.aload_n 0, 1) := by decide +kernel
theorem dX4_tear_6 : decode cX4_tear 6 = .ok (.iconst 0, 1) := by decide +kernel
theorem dX4_tear_7 : decode cX4_tear 7 = .ok (.putfield 278, 3) := by decide +kernel
theorem dX4_tear_10 : decode cX4_tear 10 = .ok (.iload_n 1, 1) := by decide +kernel
theorem dX4_tear_11 : decode cX4_tear 11 = .ok (.ifCond .eq 7, 3) := by decide +kernel
theorem dX4_tear_14 : decode cX4_tear 14 = .ok (.iconst 1, 1) := by decide +kernel
theorem dX4_tear_15 : decode cX4_tear 15 = .ok (.goto 4, 3) := by decide +kernel
theorem dX4_tear_18 : decode cX4_tear 18 = .ok (.iconst 0, 1) := by decide +kernel
theorem dX4_tear_19 : decode cX4_tear 19 = .ok (.ireturn, 1) := by decide +kernel
theorem dX4_count_0 : decode cX4_count 0 = .ok (.iconst 0, 1) := by decide +kernel
theorem dX4_count_1 : decode cX4_count 1 = .ok (.istore_n 2, 1) := by decide +kernel
theorem dX4_count_2 : decode cX4_count 2 = .ok (.iload_n 1, 1) := by decide +kernel
theorem dX4_count_3 : decode cX4_count 3 = .ok (.tableswitch 125 0 7 #[45, 52, 59, 67, 72, 77, 82, 89], 45) := by decide +kernel
theorem dX4_count_48 : decode cX4_count 48 = .ok (.aload_n 0, 1) := by decide +kernel
theorem dX4_count_49 : decode cX4_count 49 = .ok (.getfield 7, 3) := by decide +kernel
theorem dX4_count_52 : decode cX4_count 52 = .ok (.iconst 1, 1) := by decide +kernel
theorem dX4_count_53 : decode cX4_count 53 = .ok (.iaload, 1) := by decide +kernel
theorem dX4_count_54 : decode cX4_count 54 = .ok (.ireturn, 1) := by decide +kernel
theorem dX4_count_55 : decode cX4_count 55 = .ok (.aload_n 0, 1) := by decide +kernel
theorem dX4_count_56 : decode cX4_count 56 = .ok (.getfield 7, 3) := by decide +kernel
theorem dX4_count_59 : decode cX4_count 59 = .ok (.iconst 0, 1) := by decide +kernel
theorem dX4_count_60 : decode cX4_count 60 = .ok (.iaload, 1) := by decide +kernel
theorem dX4_count_61 : decode cX4_count 61 = .ok (.ireturn, 1) := by decide +kernel
theorem dX4_count_62 : decode cX4_count 62 = .ok (.aload_n 0, 1) := by decide +kernel
theorem dX4_count_63 : decode cX4_count 63 = .ok (.invokevirtual 132, 3) := by decide +kernel
theorem dX4_count_66 : decode cX4_count 66 = .ok (.invokestatic 168, 3) := by decide +kernel
theorem dX4_count_69 : decode cX4_count 69 = .ok (.ireturn, 1) := by decide +kernel
theorem dX4_count_70 : decode cX4_count 70 = .ok (.aload_n 0, 1) := by decide +kernel
theorem dX4_count_71 : decode cX4_count 71 = .ok (.invokevirtual 129, 3) := by decide +kernel
theorem dX4_count_74 : decode cX4_count 74 = .ok (.ireturn, 1) := by decide +kernel
theorem dX4_count_75 : decode cX4_count 75 = .ok (.aload_n 0, 1) := by decide +kernel
theorem dX4_count_76 : decode cX4_count 76 = .ok (.invokevirtual 135, 3) := by decide +kernel
theorem dX4_count_79 : decode cX4_count 79 = .ok (.ireturn, 1) := by decide +kernel
theorem dX4_count_80 : decode cX4_count 80 = .ok (.aload_n 0, 1) := by decide +kernel
theorem dX4_count_81 : decode cX4_count 81 = .ok (.getfield 193, 3) := by decide +kernel
theorem dX4_count_84 : decode cX4_count 84 = .ok (.ireturn, 1) := by decide +kernel
theorem dX4_count_85 : decode cX4_count 85 = .ok (.aload_n 0, 1) := by decide +kernel
theorem dX4_count_86 : decode cX4_count 86 = .ok (.getfield 7, 3) := by decide +kernel
theorem dX4_count_89 : decode cX4_count 89 = .ok (.iconst 2, 1) := by decide +kernel
theorem dX4_count_90 : decode cX4_count 90 = .ok (.iaload, 1) := by decide +kernel
theorem dX4_count_91 : decode cX4_count 91 = .ok (.ireturn, 1) := by decide +kernel
theorem dX4_count_92 : decode cX4_count 92 = .ok (.iconst 0, 1) := by decide +kernel
theorem dX4_count_93 : decode cX4_count 93 = .ok (.istore_n 3, 1) := by decide +kernel
theorem dX4_count_94 : decode cX4_count 94 = .ok (.iload_n 3, 1) := by decide +kernel
theorem dX4_count_95 : decode cX4_count 95 = .ok (.bipush 10, 2) := by decide +kernel
theorem dX4_count_97 : decode cX4_count 97 = .ok (.if_icmp .ge 29, 3) := by decide +kernel
theorem dX4_count_100 : decode cX4_count 100 = .ok (.iload_n 2, 1) := by decide +kernel
theorem dX4_count_101 : decode cX4_count 101 = .ok (.aload_n 0, 1) := by decide +kernel
theorem dX4_count_102 : decode cX4_count 102 = .ok (.getfield 7, 3) := by decide +kernel
theorem dX4_count_105 : decode cX4_count 105 = .ok (.bipush 61, 2) := by decide +kernel
theorem dX4_count_107 : decode cX4_count 107 = .ok (.iload_n 3, 1) := by decide +kernel
theorem dX4_count_108 : decode cX4_count 108 = .ok (.iadd, 1) := by decide +kernel
theorem dX4_count_109 : decode cX4_count 109 = .ok (.iaload, 1) := by decide +kernel
theorem dX4_count_110 : decode cX4_count 110 = .ok (.ifCond .ge 7, 3) := by decide +kernel
theorem dX4_count_113 : decode cX4_count 113 = .ok (.iconst 0, 1) := by decide +kernel
theorem dX4_count_114 : decode cX4_count 114 = .ok (.goto 4, 3) := by decide +kernel
theorem dX4_count_117 : decode cX4_count 117 = .ok (.iconst 1, 1) := by decide +kernel
theorem dX4_count_118 : decode cX4_count 118 = .ok (.iadd, 1) := by decide +kernel
theorem dX4_count_119 : decode cX4_count 119 = .ok (.istore_n 2, 1) := by decide +kernel
theorem dX4_count_120 : decode cX4_count 120 = .ok (.iinc 3 1, 3) := by decide +kernel
theorem dX4_count_123 : decode cX4_count 123 = .ok (.goto (-29), 3) := by decide +kernel
theorem dX4_count_126 : decode cX4_count 126 = .ok (.iload_n 2, 1) := by decide +kernel
theorem dX4_count_127 : decode cX4_count 127 = .ok (.ireturn, 1) := by decide +kernel
theorem dX4_count_128 : decode cX4_count 128 = .ok (.aload_n 0, 1) := by decide +kernel
theorem dX4_count_129 : decode cX4_count 129 = .ok (.ldc 40, 2) := by decide +kernel
theorem dX4_count_131 : decode cX4_count 131 = .ok (.invokevirtual 48, 3) := by decide +kernel
theorem dX4_count_134 : decode cX4_count 134 = .ok (.ireturn, 1) := by decide +kernel
theorem dX4_status_0 : decode cX4_status 0 = .ok (.iload_n 1, 1) := by decide +kernel
theorem dX4_status_1 : decode cX4_status 1 = .ok (.i2l, 1) := by decide +kernel
theorem dX4_status_2 : decode cX4_status 2 = .ok (.ldc2_w 282, 3) := by decide +kernel
theorem dX4_status_5 : decode cX4_status 5 = .ok (.ldc2_w 79, 3) := by decide +kernel
theorem dX4_status_8 : decode cX4_status 8 = .ok (.invokestatic 43, 3) := by decide +kernel
theorem dX4_status_11 : decode cX4_status 11 = .ok (.ifCond .eq 14, 3) := by decide +kernel
theorem dX4_status_14 : decode cX4_status 14 = .ok (.aload_n 0, 1) := by decide +kernel
theorem dX4_status_15 : decode cX4_status 15 = .ok (.getfield 22, 3) := by decide +kernel
theorem dX4_status_18 : decode cX4_status 18 = .ok (.iload_n 1, 1) := by decide +kernel
theorem dX4_status_19 : decode cX4_status 19 = .ok (.iconst 1, 1) := by decide +kernel
theorem dX4_status_20 : decode cX4_status 20 = .ok (.iadd, 1) := by decide +kernel
theorem dX4_status_21 : decode cX4_status 21 = .ok (.iaload, 1) := by decide +kernel
theorem dX4_status_22 : decode cX4_status 22 = .ok (.goto 9, 3) := by decide +kernel
theorem dX4_status_25 : decode cX4_status 25 = .ok (.aload_n 0, 1) := by decide +kernel
theorem dX4_status_26 : decode cX4_status 26 = .ok (.ldc 40, 2) := by decide +kernel
theorem dX4_status_28 : decode cX4_status 28 = .ok (.invokevirtual 48, 3) := by decide +kernel
theorem dX4_status_31 : decode cX4_status 31 = .ok (.ireturn, 1) := by decide +kernel
