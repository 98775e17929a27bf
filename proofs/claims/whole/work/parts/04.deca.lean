theorem dX0_init_0 : decode cX0_init 0 = .ok (.aload_n 0, 1) := by decide +kernel
theorem dX0_init_1 : decode cX0_init 1 = .ok (.invokespecial 3, 3) := by decide +kernel
theorem dX0_init_4 : decode cX0_init 4 = .ok (.aload_n 0, 1) := by decide +kernel
theorem dX0_init_5 : decode cX0_init 5 = .ok (.bipush 9, 2) := by decide +kernel
theorem dX0_init_7 : decode cX0_init 7 = .ok (.newarray .int, 2) := by decide +kernel
theorem dX0_init_9 : decode cX0_init 9 = .ok (.putfield 9, 3) := by decide +kernel
theorem dX0_init_12 : decode cX0_init 12 = .ok (.aload_n 0, 1) := by decide +kernel
theorem dX0_init_13 : decode cX0_init 13 = .ok (.bipush 8, 2) := by decide +kernel
theorem dX0_init_15 : decode cX0_init 15 = .ok (.newarray .int, 2) := by decide +kernel
theorem dX0_init_17 : decode cX0_init 17 = .ok (.putfield 15, 3) := by decide +kernel
theorem dX0_init_20 : decode cX0_init 20 = .ok (.aload_n 0, 1) := by decide +kernel
theorem dX0_init_21 : decode cX0_init 21 = .ok (.iconst 5, 1) := by decide +kernel
theorem dX0_init_22 : decode cX0_init 22 = .ok (.bipush 8, 2) := by decide +kernel
theorem dX0_init_24 : decode cX0_init 24 = .ok (.multianewarray 18 2, 4) := by decide +kernel
theorem dX0_init_28 : decode cX0_init 28 = .ok (.putfield 20, 3) := by decide +kernel
theorem dX0_init_31 : decode cX0_init 31 = .ok (.aload_n 0, 1) := by decide +kernel
theorem dX0_init_32 : decode cX0_init 32 = .ok (.bipush 10, 2) := by decide +kernel
theorem dX0_init_34 : decode cX0_init 34 = .ok (.newarray .int, 2) := by decide +kernel
theorem dX0_init_36 : decode cX0_init 36 = .ok (.putfield 23, 3) := by decide +kernel
theorem dX0_init_39 : decode cX0_init 39 = .ok (.aload_n 0, 1) := by decide +kernel
theorem dX0_init_40 : decode cX0_init 40 = .ok (.iconst 0, 1) := by decide +kernel
theorem dX0_init_41 : decode cX0_init 41 = .ok (.putfield 26, 3) := by decide +kernel
theorem dX0_init_44 : decode cX0_init 44 = .ok (.aload_n 0, 1) := by decide +kernel
theorem dX0_init_45 : decode cX0_init 45 = .ok (.iconst 0, 1) := by decide +kernel
theorem dX0_init_46 : decode cX0_init 46 = .ok (.putfield 30, 3) := by decide +kernel
theorem dX0_init_49 : decode cX0_init 49 = .ok (.aload_n 0, 1) := by decide +kernel
theorem dX0_init_50 : decode cX0_init 50 = .ok (.iconst 0, 1) := by decide +kernel
theorem dX0_init_51 : decode cX0_init 51 = .ok (.putfield 33, 3) := by decide +kernel
theorem dX0_init_54 : decode cX0_init 54 = .ok (.aload_n 0, 1) := by decide +kernel
theorem dX0_init_55 : decode cX0_init 55 = .ok (.iconst 1, 1) := by decide +kernel
theorem dX0_init_56 : decode cX0_init 56 = .ok (.putfield 36, 3) := by decide +kernel
theorem dX0_init_59 : decode cX0_init 59 = .ok (.iconst 0, 1) := by decide +kernel
theorem dX0_init_60 : decode cX0_init 60 = .ok (.istore_n 1, 1) := by decide +kernel
theorem dX0_init_61 : decode cX0_init 61 = .ok (.iload_n 1, 1) := by decide +kernel
theorem dX0_init_62 : decode cX0_init 62 = .ok (.bipush 10, 2) := by decide +kernel
theorem dX0_init_64 : decode cX0_init 64 = .ok (.if_icmp .ge 16, 3) := by decide +kernel
theorem dX0_init_67 : decode cX0_init 67 = .ok (.aload_n 0, 1) := by decide +kernel
theorem dX0_init_68 : decode cX0_init 68 = .ok (.getfield 23, 3) := by decide +kernel
theorem dX0_init_71 : decode cX0_init 71 = .ok (.iload_n 1, 1) := by decide +kernel
theorem dX0_init_72 : decode cX0_init 72 = .ok (.iconst (-1), 1) := by decide +kernel
theorem dX0_init_73 : decode cX0_init 73 = .ok (.iastore, 1) := by decide +kernel
theorem dX0_init_74 : decode cX0_init 74 = .ok (.iinc 1 1, 3) := by decide +kernel
theorem dX0_init_77 : decode cX0_init 77 = .ok (.goto (-16), 3) := by decide +kernel
theorem dX0_init_80 : decode cX0_init 80 = .ok (.return_, 1) := by decide +kernel
theorem dX0_become_0 : decode cX0_become 0 = .ok (.aload_n 1, 1) := by decide +kernel
theorem dX0_become_1 : decode cX0_become 1 = .ok (.getfield 9, 3) := by decide +kernel
theorem dX0_become_4 : decode cX0_become 4 = .ok (.iconst 0, 1) := by decide +kernel
theorem dX0_become_5 : decode cX0_become 5 = .ok (.aload_n 0, 1) := by decide +kernel
theorem dX0_become_6 : decode cX0_become 6 = .ok (.getfield 9, 3) := by decide +kernel
theorem dX0_become_9 : decode cX0_become 9 = .ok (.iconst 0, 1) := by decide +kernel
theorem dX0_become_10 : decode cX0_become 10 = .ok (.bipush 9, 2) := by decide +kernel
theorem dX0_become_12 : decode cX0_become 12 = .ok (.invokestatic 39, 3) := by decide +kernel
theorem dX0_become_15 : decode cX0_become 15 = .ok (.aload_n 1, 1) := by decide +kernel
theorem dX0_become_16 : decode cX0_become 16 = .ok (.getfield 15, 3) := by decide +kernel
theorem dX0_become_19 : decode cX0_become 19 = .ok (.iconst 0, 1) := by decide +kernel
theorem dX0_become_20 : decode cX0_become 20 = .ok (.aload_n 0, 1) := by decide +kernel
theorem dX0_become_21 : decode cX0_become 21 = .ok (.getfield 15, 3) := by decide +kernel
theorem dX0_become_24 : decode cX0_become 24 = .ok (.iconst 0, 1) := by decide +kernel
theorem dX0_become_25 : decode cX0_become 25 = .ok (.bipush 8, 2) := by decide +kernel
theorem dX0_become_27 : decode cX0_become 27 = .ok (.invokestatic 39, 3) := by decide +kernel
theorem dX0_become_30 : decode cX0_become 30 = .ok (.iconst 0, 1) := by decide +kernel
theorem dX0_become_31 : decode cX0_become 31 = .ok (.istore_n 2, 1) := by decide +kernel
theorem dX0_become_32 : decode cX0_become 32 = .ok (.iload_n 2, 1) := by decide +kernel
theorem dX0_become_33 : decode cX0_become 33 = .ok (.iconst 5, 1) := by decide +kernel
theorem dX0_become_34 : decode cX0_become 34 = .ok (.if_icmp .ge 28, 3) := by decide +kernel
theorem dX0_become_37 : decode cX0_become 37 = .ok (.aload_n 1, 1) := by decide +kernel
theorem dX0_become_38 : decode cX0_become 38 = .ok (.getfield 20, 3) := by decide +kernel
theorem dX0_become_41 : decode cX0_become 41 = .ok (.iload_n 2, 1) := by decide +kernel
theorem dX0_become_42 : decode cX0_become 42 = .ok (.aaload, 1) := by decide +kernel
theorem dX0_become_43 : decode cX0_become 43 = .ok (.iconst 0, 1) := by decide +kernel
theorem dX0_become_44 : decode cX0_become 44 = .ok (.aload_n 0, 1) := by decide +kernel
theorem dX0_become_45 : decode cX0_become 45 = .ok (.getfield 20, 3) := by decide +kernel
theorem dX0_become_48 : decode cX0_become 48 = .ok (.iload_n 2, 1) := by decide +kernel
theorem dX0_become_49 : decode cX0_become 49 = .ok (.aaload, 1) := by decide +kernel
theorem dX0_become_50 : decode cX0_become 50 = .ok (.iconst 0, 1) := by decide +kernel
theorem dX0_become_51 : decode cX0_become 51 = .ok (.bipush 8, 2) := by decide +kernel
theorem dX0_become_53 : decode cX0_become 53 = .ok (.invokestatic 39, 3) := by decide +kernel
theorem dX0_become_56 : decode cX0_become 56 = .ok (.iinc 2 1, 3) := by decide +kernel
theorem dX0_become_59 : decode cX0_become 59 = .ok (.goto (-27), 3) := by decide +kernel
theorem dX0_become_62 : decode cX0_become 62 = .ok (.aload_n 1, 1) := by decide +kernel
theorem dX0_become_63 : decode cX0_become 63 = .ok (.getfield 23, 3) := by decide +kernel
theorem dX0_become_66 : decode cX0_become 66 = .ok (.iconst 0, 1) := by decide +kernel
theorem dX0_become_67 : decode cX0_become 67 = .ok (.aload_n 0, 1) := by decide +kernel
theorem dX0_become_68 : decode cX0_become 68 = .ok (.getfield 23, 3) := by decide +kernel
theorem dX0_become_71 : decode cX0_become 71 = .ok (.iconst 0, 1) := by decide +kernel
theorem dX0_become_72 : decode cX0_become 72 = .ok (.bipush 10, 2) := by decide +kernel
theorem dX0_become_74 : decode cX0_become 74 = .ok (.invokestatic 39, 3) := by decide +kernel
theorem dX0_become_77 : decode cX0_become 77 = .ok (.aload_n 0, 1) := by decide +kernel
theorem dX0_become_78 : decode cX0_become 78 = .ok (.aload_n 1, 1) := by decide +kernel
theorem dX0_become_79 : decode cX0_become 79 = .ok (.getfield 26, 3) := by decide +kernel
theorem dX0_become_82 : decode cX0_become 82 = .ok (.putfield 26, 3) := by decide +kernel
theorem dX0_become_85 : decode cX0_become 85 = .ok (.aload_n 0, 1) := by decide +kernel
theorem dX0_become_86 : decode cX0_become 86 = .ok (.aload_n 1, 1) := by decide +kernel
theorem dX0_become_87 : decode cX0_become 87 = .ok (.getfield 30, 3) := by decide +kernel
theorem dX0_become_90 : decode cX0_become 90 = .ok (.putfield 30, 3) := by decide +kernel
theorem dX0_become_93 : decode cX0_become 93 = .ok (.aload_n 0, 1) := by decide +kernel
theorem dX0_become_94 : decode cX0_become 94 = .ok (.aload_n 1, 1) := by decide +kernel
theorem dX0_become_95 : decode cX0_become 95 = .ok (.getfield 33, 3) := by decide +kernel
theorem dX0_become_98 : decode cX0_become 98 = .ok (.putfield 33, 3) := by decide +kernel
theorem dX0_become_101 : decode cX0_become 101 = .ok (.aload_n 0, 1) := by decide +kernel
theorem dX0_become_102 : decode cX0_become 102 = .ok (.aload_n 1, 1) := by decide +kernel
theorem dX0_become_103 : decode cX0_become 103 = .ok (.getfield 36, 3) := by decide +kernel
theorem dX0_become_106 : decode cX0_become 106 = .ok (.putfield 36, 3) := by decide +kernel
theorem dX0_become_109 : decode cX0_become 109 = .ok (.return_, 1) := by decide +kernel
theorem dX0_addWalker_0 : decode cX0_addWalker 0 = .ok (.aload_n 0, 1) := by decide +kernel
theorem dX0_addWalker_1 : decode cX0_addWalker 1 = .ok (.getfield 26, 3) := by decide +kernel
theorem dX0_addWalker_4 : decode cX0_addWalker 4 = .ok (.bipush 8, 2) := by decide +kernel
theorem dX0_addWalker_6 : decode cX0_addWalker 6 = .ok (.if_icmp .lt 5, 3) := by decide +kernel
theorem dX0_addWalker_9 : decode cX0_addWalker 9 = .ok (.iconst (-1), 1) := by decide +kernel
theorem dX0_addWalker_10 : decode cX0_addWalker 10 = .ok (.ireturn, 1) := by decide +kernel
theorem dX0_addWalker_11 : decode cX0_addWalker 11 = .ok (.aload_n 0, 1) := by decide +kernel
theorem dX0_addWalker_12 : decode cX0_addWalker 12 = .ok (.getfield 26, 3) := by decide +kernel
theorem dX0_addWalker_15 : decode cX0_addWalker 15 = .ok (.istore_n 3, 1) := by decide +kernel
theorem dX0_addWalker_16 : decode cX0_addWalker 16 = .ok (.aload_n 0, 1) := by decide +kernel
theorem dX0_addWalker_17 : decode cX0_addWalker 17 = .ok (.dup, 1) := by decide +kernel
theorem dX0_addWalker_18 : decode cX0_addWalker 18 = .ok (.getfield 26, 3) := by decide +kernel
theorem dX0_addWalker_21 : decode cX0_addWalker 21 = .ok (.iconst 1, 1) := by decide +kernel
theorem dX0_addWalker_22 : decode cX0_addWalker 22 = .ok (.iadd, 1) := by decide +kernel
theorem dX0_addWalker_23 : decode cX0_addWalker 23 = .ok (.putfield 26, 3) := by decide +kernel
theorem dX0_addWalker_26 : decode cX0_addWalker 26 = .ok (.aload_n 0, 1) := by decide +kernel
theorem dX0_addWalker_27 : decode cX0_addWalker 27 = .ok (.getfield 20, 3) := by decide +kernel
theorem dX0_addWalker_30 : decode cX0_addWalker 30 = .ok (.iconst 0, 1) := by decide +kernel
theorem dX0_addWalker_31 : decode cX0_addWalker 31 = .ok (.aaload, 1) := by decide +kernel
theorem dX0_addWalker_32 : decode cX0_addWalker 32 = .ok (.iload_n 3, 1) := by decide +kernel
theorem dX0_addWalker_33 : decode cX0_addWalker 33 = .ok (.iload_n 1, 1) := by decide +kernel
theorem dX0_addWalker_34 : decode cX0_addWalker 34 = .ok (.iastore, 1) := by decide +kernel
theorem dX0_addWalker_35 : decode cX0_addWalker 35 = .ok (.aload_n 0, 1) := by decide +kernel
theorem dX0_addWalker_36 : decode cX0_addWalker 36 = .ok (.getfield 20, 3) := by decide +kernel
theorem dX0_addWalker_39 : decode cX0_addWalker 39 = .ok (.iconst 1, 1) := by decide +kernel
theorem dX0_addWalker_40 : decode cX0_addWalker 40 = .ok (.aaload, 1) := by decide +kernel
theorem dX0_addWalker_41 : decode cX0_addWalker 41 = .ok (.iload_n 3, 1) := by decide +kernel
theorem dX0_addWalker_42 : decode cX0_addWalker 42 = .ok (.iload_n 2, 1) := by decide +kernel
theorem dX0_addWalker_43 : decode cX0_addWalker 43 = .ok (.iastore, 1) := by decide +kernel
theorem dX0_addWalker_44 : decode cX0_addWalker 44 = .ok (.aload_n 0, 1) := by decide +kernel
theorem dX0_addWalker_45 : decode cX0_addWalker 45 = .ok (.getfield 20, 3) := by decide +kernel
theorem dX0_addWalker_48 : decode cX0_addWalker 48 = .ok (.iconst 2, 1) := by decide +kernel
theorem dX0_addWalker_49 : decode cX0_addWalker 49 = .ok (.aaload, 1) := by decide +kernel
theorem dX0_addWalker_50 : decode cX0_addWalker 50 = .ok (.iload_n 3, 1) := by decide +kernel
theorem dX0_addWalker_51 : decode cX0_addWalker 51 = .ok (.iconst 0, 1) := by decide +kernel
theorem dX0_addWalker_52 : decode cX0_addWalker 52 = .ok (.iastore, 1) := by decide +kernel
theorem dX0_addWalker_53 : decode cX0_addWalker 53 = .ok (.aload_n 0, 1) := by decide +kernel
theorem dX0_addWalker_54 : decode cX0_addWalker 54 = .ok (.getfield 20, 3) := by decide +kernel
theorem dX0_addWalker_57 : decode cX0_addWalker 57 = .ok (.iconst 3, 1) := by decide +kernel
theorem dX0_addWalker_58 : decode cX0_addWalker 58 = .ok (.aaload, 1) := by decide +kernel
theorem dX0_addWalker_59 : decode cX0_addWalker 59 = .ok (.iload_n 3, 1) := by decide +kernel
theorem dX0_addWalker_60 : decode cX0_addWalker 60 = .ok (.iconst 3, 1) := by decide +kernel
theorem dX0_addWalker_61 : decode cX0_addWalker 61 = .ok (.iastore, 1) := by decide +kernel
theorem dX0_addWalker_62 : decode cX0_addWalker 62 = .ok (.aload_n 0, 1) := by decide +kernel
theorem dX0_addWalker_63 : decode cX0_addWalker 63 = .ok (.getfield 20, 3) := by decide +kernel
theorem dX0_addWalker_66 : decode cX0_addWalker 66 = .ok (.iconst 4, 1) := by decide +kernel
theorem dX0_addWalker_67 : decode cX0_addWalker 67 = .ok (.aaload, 1) := by decide +kernel
theorem dX0_addWalker_68 : decode cX0_addWalker 68 = .ok (.iload_n 3, 1) := by decide +kernel
theorem dX0_addWalker_69 : decode cX0_addWalker 69 = .ok (.iconst 0, 1) := by decide +kernel
theorem dX0_addWalker_70 : decode cX0_addWalker 70 = .ok (.iastore, 1) := by decide +kernel
theorem dX0_addWalker_71 : decode cX0_addWalker 71 = .ok (.iload_n 3, 1) := by decide +kernel
theorem dX0_addWalker_72 : decode cX0_addWalker 72 = .ok (.ireturn, 1) := by decide +kernel
theorem dX0_leftBy_0 : decode cX0_leftBy 0 = .ok (.aload_n 0, 1) := by decide +kernel
theorem dX0_leftBy_1 : decode cX0_leftBy 1 = .ok (.getfield 30, 3) := by decide +kernel
theorem dX0_leftBy_4 : decode cX0_leftBy 4 = .ok (.iconst 5, 1) := by decide +kernel
theorem dX0_leftBy_5 : decode cX0_leftBy 5 = .ok (.if_icmp .lt 7, 3) := by decide +kernel
theorem dX0_leftBy_8 : decode cX0_leftBy 8 = .ok (.iconst 0, 1) := by decide +kernel
theorem dX0_leftBy_9 : decode cX0_leftBy 9 = .ok (.goto 4, 3) := by decide +kernel
theorem dX0_leftBy_12 : decode cX0_leftBy 12 = .ok (.iload_n 2, 1) := by decide +kernel
theorem dX0_leftBy_13 : decode cX0_leftBy 13 = .ok (.istore_n 3, 1) := by decide +kernel
theorem dX0_leftBy_14 : decode cX0_leftBy 14 = .ok (.iload_n 3, 1) := by decide +kernel
theorem dX0_leftBy_15 : decode cX0_leftBy 15 = .ok (.iconst 1, 1) := by decide +kernel
theorem dX0_leftBy_16 : decode cX0_leftBy 16 = .ok (.if_icmp .ne 7, 3) := by decide +kernel
theorem dX0_leftBy_19 : decode cX0_leftBy 19 = .ok (.iconst 2, 1) := by decide +kernel
theorem dX0_leftBy_20 : decode cX0_leftBy 20 = .ok (.goto 4, 3) := by decide +kernel
theorem dX0_leftBy_23 : decode cX0_leftBy 23 = .ok (.iload_n 3, 1) := by decide +kernel
theorem dX0_leftBy_24 : decode cX0_leftBy 24 = .ok (.istore 4, 2) := by decide +kernel
theorem dX0_leftBy_26 : decode cX0_leftBy 26 = .ok (.iload 4, 2) := by decide +kernel
theorem dX0_leftBy_28 : decode cX0_leftBy 28 = .ok (.aload_n 0, 1) := by decide +kernel
theorem dX0_leftBy_29 : decode cX0_leftBy 29 = .ok (.getfield 20, 3) := by decide +kernel
theorem dX0_leftBy_32 : decode cX0_leftBy 32 = .ok (.iconst 3, 1) := by decide +kernel
theorem dX0_leftBy_33 : decode cX0_leftBy 33 = .ok (.aaload, 1) := by decide +kernel
theorem dX0_leftBy_34 : decode cX0_leftBy 34 = .ok (.iload_n 1, 1) := by decide +kernel
theorem dX0_leftBy_35 : decode cX0_leftBy 35 = .ok (.iaload, 1) := by decide +kernel
theorem dX0_leftBy_36 : decode cX0_leftBy 36 = .ok (.iadd, 1) := by decide +kernel
theorem dX0_leftBy_37 : decode cX0_leftBy 37 = .ok (.iconst 4, 1) := by decide +kernel
theorem dX0_leftBy_38 : decode cX0_leftBy 38 = .ok (.irem, 1) := by decide +kernel
theorem dX0_leftBy_39 : decode cX0_leftBy 39 = .ok (.istore 5, 2) := by decide +kernel
theorem dX0_leftBy_41 : decode cX0_leftBy 41 = .ok (.aload_n 0, 1) := by decide +kernel
theorem dX0_leftBy_42 : decode cX0_leftBy 42 = .ok (.getfield 20, 3) := by decide +kernel
theorem dX0_leftBy_45 : decode cX0_leftBy 45 = .ok (.iconst 0, 1) := by decide +kernel
theorem dX0_leftBy_46 : decode cX0_leftBy 46 = .ok (.aaload, 1) := by decide +kernel
theorem dX0_leftBy_47 : decode cX0_leftBy 47 = .ok (.iload_n 1, 1) := by decide +kernel
theorem dX0_leftBy_48 : decode cX0_leftBy 48 = .ok (.iaload, 1) := by decide +kernel
theorem dX0_leftBy_49 : decode cX0_leftBy 49 = .ok (.tableswitch 64 1 6 #[39, 51, 54, 57, 62, 41], 39) := by decide +kernel
theorem dX0_leftBy_88 : decode cX0_leftBy 88 = .ok (.iconst 3, 1) := by decide +kernel
theorem dX0_leftBy_89 : decode cX0_leftBy 89 = .ok (.ireturn, 1) := by decide +kernel
theorem dX0_leftBy_90 : decode cX0_leftBy 90 = .ok (.iload_n 2, 1) := by decide +kernel
theorem dX0_leftBy_91 : decode cX0_leftBy 91 = .ok (.ifCond .ne 7, 3) := by decide +kernel
theorem dX0_leftBy_94 : decode cX0_leftBy 94 = .ok (.iconst 1, 1) := by decide +kernel
theorem dX0_leftBy_95 : decode cX0_leftBy 95 = .ok (.goto 4, 3) := by decide +kernel
theorem dX0_leftBy_98 : decode cX0_leftBy 98 = .ok (.iconst 3, 1) := by decide +kernel
theorem dX0_leftBy_99 : decode cX0_leftBy 99 = .ok (.ireturn, 1) := by decide +kernel
theorem dX0_leftBy_100 : decode cX0_leftBy 100 = .ok (.iload 4, 2) := by decide +kernel
theorem dX0_leftBy_102 : decode cX0_leftBy 102 = .ok (.ireturn, 1) := by decide +kernel
theorem dX0_leftBy_103 : decode cX0_leftBy 103 = .ok (.iload 5, 2) := by decide +kernel
theorem dX0_leftBy_105 : decode cX0_leftBy 105 = .ok (.ireturn, 1) := by decide +kernel
theorem dX0_leftBy_106 : decode cX0_leftBy 106 = .ok (.iconst 3, 1) := by decide +kernel
theorem dX0_leftBy_107 : decode cX0_leftBy 107 = .ok (.iload 5, 2) := by decide +kernel
theorem dX0_leftBy_109 : decode cX0_leftBy 109 = .ok (.isub, 1) := by decide +kernel
theorem dX0_leftBy_110 : decode cX0_leftBy 110 = .ok (.ireturn, 1) := by decide +kernel
theorem dX0_leftBy_111 : decode cX0_leftBy 111 = .ok (.iconst 0, 1) := by decide +kernel
theorem dX0_leftBy_112 : decode cX0_leftBy 112 = .ok (.ireturn, 1) := by decide +kernel
theorem dX0_leftBy_113 : decode cX0_leftBy 113 = .ok (.iload_n 3, 1) := by decide +kernel
theorem dX0_leftBy_114 : decode cX0_leftBy 114 = .ok (.ireturn, 1) := by decide +kernel
theorem dX0_feltBy_0 : decode cX0_feltBy 0 = .ok (.aload_n 0, 1) := by decide +kernel
theorem dX0_feltBy_1 : decode cX0_feltBy 1 = .ok (.getfield 20, 3) := by decide +kernel
theorem dX0_feltBy_4 : decode cX0_feltBy 4 = .ok (.iconst 3, 1) := by decide +kernel
theorem dX0_feltBy_5 : decode cX0_feltBy 5 = .ok (.aaload, 1) := by decide +kernel
theorem dX0_feltBy_6 : decode cX0_feltBy 6 = .ok (.iload_n 1, 1) := by decide +kernel
theorem dX0_feltBy_7 : decode cX0_feltBy 7 = .ok (.iaload, 1) := by decide +kernel
theorem dX0_feltBy_8 : decode cX0_feltBy 8 = .ok (.istore_n 3, 1) := by decide +kernel
theorem dX0_feltBy_9 : decode cX0_feltBy 9 = .ok (.bipush 9, 2) := by decide +kernel
theorem dX0_feltBy_11 : decode cX0_feltBy 11 = .ok (.istore 4, 2) := by decide +kernel
theorem dX0_feltBy_13 : decode cX0_feltBy 13 = .ok (.iload_n 3, 1) := by decide +kernel
theorem dX0_feltBy_14 : decode cX0_feltBy 14 = .ok (.iload_n 2, 1) := by decide +kernel
theorem dX0_feltBy_15 : decode cX0_feltBy 15 = .ok (.iadd, 1) := by decide +kernel
theorem dX0_feltBy_16 : decode cX0_feltBy 16 = .ok (.bipush 9, 2) := by decide +kernel
theorem dX0_feltBy_18 : decode cX0_feltBy 18 = .ok (.invokestatic 45, 3) := by decide +kernel
theorem dX0_feltBy_21 : decode cX0_feltBy 21 = .ok (.istore 5, 2) := by decide +kernel
theorem dX0_feltBy_23 : decode cX0_feltBy 23 = .ok (.iload 5, 2) := by decide +kernel
theorem dX0_feltBy_25 : decode cX0_feltBy 25 = .ok (.iconst 1, 1) := by decide +kernel
theorem dX0_feltBy_26 : decode cX0_feltBy 26 = .ok (.iadd, 1) := by decide +kernel
theorem dX0_feltBy_27 : decode cX0_feltBy 27 = .ok (.bipush 9, 2) := by decide +kernel
theorem dX0_feltBy_29 : decode cX0_feltBy 29 = .ok (.invokestatic 45, 3) := by decide +kernel
theorem dX0_feltBy_32 : decode cX0_feltBy 32 = .ok (.istore 6, 2) := by decide +kernel
theorem dX0_feltBy_34 : decode cX0_feltBy 34 = .ok (.aload_n 0, 1) := by decide +kernel
theorem dX0_feltBy_35 : decode cX0_feltBy 35 = .ok (.getfield 20, 3) := by decide +kernel
theorem dX0_feltBy_38 : decode cX0_feltBy 38 = .ok (.iconst 0, 1) := by decide +kernel
theorem dX0_feltBy_39 : decode cX0_feltBy 39 = .ok (.aaload, 1) := by decide +kernel
theorem dX0_feltBy_40 : decode cX0_feltBy 40 = .ok (.iload_n 1, 1) := by decide +kernel
theorem dX0_feltBy_41 : decode cX0_feltBy 41 = .ok (.iaload, 1) := by decide +kernel
theorem dX0_feltBy_42 : decode cX0_feltBy 42 = .ok (.tableswitch 65 1 6 #[38, 46, 49, 52, 57, 41], 38) := by decide +kernel
theorem dX0_feltBy_80 : decode cX0_feltBy 80 = .ok (.iload 4, 2) := by decide +kernel
theorem dX0_feltBy_82 : decode cX0_feltBy 82 = .ok (.ireturn, 1) := by decide +kernel
theorem dX0_feltBy_83 : decode cX0_feltBy 83 = .ok (.iload 4, 2) := by decide +kernel
theorem dX0_feltBy_85 : decode cX0_feltBy 85 = .ok (.iload_n 2, 1) := by decide +kernel
theorem dX0_feltBy_86 : decode cX0_feltBy 86 = .ok (.isub, 1) := by decide +kernel
theorem dX0_feltBy_87 : decode cX0_feltBy 87 = .ok (.ireturn, 1) := by decide +kernel
theorem dX0_feltBy_88 : decode cX0_feltBy 88 = .ok (.iload 5, 2) := by decide +kernel
theorem dX0_feltBy_90 : decode cX0_feltBy 90 = .ok (.ireturn, 1) := by decide +kernel
theorem dX0_feltBy_91 : decode cX0_feltBy 91 = .ok (.iload 6, 2) := by decide +kernel
theorem dX0_feltBy_93 : decode cX0_feltBy 93 = .ok (.ireturn, 1) := by decide +kernel
theorem dX0_feltBy_94 : decode cX0_feltBy 94 = .ok (.iload 6, 2) := by decide +kernel
theorem dX0_feltBy_96 : decode cX0_feltBy 96 = .ok (.iconst 2, 1) := by decide +kernel
theorem dX0_feltBy_97 : decode cX0_feltBy 97 = .ok (.idiv, 1) := by decide +kernel
theorem dX0_feltBy_98 : decode cX0_feltBy 98 = .ok (.ireturn, 1) := by decide +kernel
theorem dX0_feltBy_99 : decode cX0_feltBy 99 = .ok (.iload_n 3, 1) := by decide +kernel
theorem dX0_feltBy_100 : decode cX0_feltBy 100 = .ok (.iconst 1, 1) := by decide +kernel
theorem dX0_feltBy_101 : decode cX0_feltBy 101 = .ok (.isub, 1) := by decide +kernel
theorem dX0_feltBy_102 : decode cX0_feltBy 102 = .ok (.iconst 0, 1) := by decide +kernel
theorem dX0_feltBy_103 : decode cX0_feltBy 103 = .ok (.invokestatic 51, 3) := by decide +kernel
theorem dX0_feltBy_106 : decode cX0_feltBy 106 = .ok (.ireturn, 1) := by decide +kernel
theorem dX0_feltBy_107 : decode cX0_feltBy 107 = .ok (.iload_n 3, 1) := by decide +kernel
theorem dX0_feltBy_108 : decode cX0_feltBy 108 = .ok (.ireturn, 1) := by decide +kernel
theorem dX0_goesOf_0 : decode cX0_goesOf 0 = .ok (.aload_n 0, 1) := by decide +kernel
theorem dX0_goesOf_1 : decode cX0_goesOf 1 = .ok (.getfield 20, 3) := by decide +kernel
theorem dX0_goesOf_4 : decode cX0_goesOf 4 = .ok (.iconst 3, 1) := by decide +kernel
theorem dX0_goesOf_5 : decode cX0_goesOf 5 = .ok (.aaload, 1) := by decide +kernel
theorem dX0_goesOf_6 : decode cX0_goesOf 6 = .ok (.iload_n 1, 1) := by decide +kernel
theorem dX0_goesOf_7 : decode cX0_goesOf 7 = .ok (.iaload, 1) := by decide +kernel
theorem dX0_goesOf_8 : decode cX0_goesOf 8 = .ok (.iconst 5, 1) := by decide +kernel
theorem dX0_goesOf_9 : decode cX0_goesOf 9 = .ok (.if_icmp .lt 7, 3) := by decide +kernel
theorem dX0_goesOf_12 : decode cX0_goesOf 12 = .ok (.iconst 3, 1) := by decide +kernel
theorem dX0_goesOf_13 : decode cX0_goesOf 13 = .ok (.goto 4, 3) := by decide +kernel
theorem dX0_goesOf_16 : decode cX0_goesOf 16 = .ok (.iconst 1, 1) := by decide +kernel
theorem dX0_goesOf_17 : decode cX0_goesOf 17 = .ok (.istore_n 2, 1) := by decide +kernel
theorem dX0_goesOf_18 : decode cX0_goesOf 18 = .ok (.aload_n 0, 1) := by decide +kernel
theorem dX0_goesOf_19 : decode cX0_goesOf 19 = .ok (.getfield 20, 3) := by decide +kernel
theorem dX0_goesOf_22 : decode cX0_goesOf 22 = .ok (.iconst 0, 1) := by decide +kernel
theorem dX0_goesOf_23 : decode cX0_goesOf 23 = .ok (.aaload, 1) := by decide +kernel
theorem dX0_goesOf_24 : decode cX0_goesOf 24 = .ok (.iload_n 1, 1) := by decide +kernel
theorem dX0_goesOf_25 : decode cX0_goesOf 25 = .ok (.iaload, 1) := by decide +kernel
theorem dX0_goesOf_26 : decode cX0_goesOf 26 = .ok (.tableswitch 46 1 6 #[38, 40, 42, 42, 46, 38], 38) := by decide +kernel
theorem dX0_goesOf_64 : decode cX0_goesOf 64 = .ok (.iconst 2, 1) := by decide +kernel
theorem dX0_goesOf_65 : decode cX0_goesOf 65 = .ok (.ireturn, 1) := by decide +kernel
theorem dX0_goesOf_66 : decode cX0_goesOf 66 = .ok (.iload_n 2, 1) := by decide +kernel
theorem dX0_goesOf_67 : decode cX0_goesOf 67 = .ok (.ireturn, 1) := by decide +kernel
theorem dX0_goesOf_68 : decode cX0_goesOf 68 = .ok (.iload_n 2, 1) := by decide +kernel
theorem dX0_goesOf_69 : decode cX0_goesOf 69 = .ok (.iconst 1, 1) := by decide +kernel
theorem dX0_goesOf_70 : decode cX0_goesOf 70 = .ok (.isub, 1) := by decide +kernel
theorem dX0_goesOf_71 : decode cX0_goesOf 71 = .ok (.ireturn, 1) := by decide +kernel
theorem dX0_goesOf_72 : decode cX0_goesOf 72 = .ok (.iconst 1, 1) := by decide +kernel
theorem dX0_goesOf_73 : decode cX0_goesOf 73 = .ok (.ireturn, 1) := by decide +kernel
theorem dX0_passHours_0 : decode cX0_passHours 0 = .ok (.iconst 0, 1) := by decide +kernel
theorem dX0_passHours_1 : decode cX0_passHours 1 = .ok (.istore_n 3, 1) := by decide +kernel
theorem dX0_passHours_2 : decode cX0_passHours 2 = .ok (.iload_n 3, 1) := by decide +kernel
theorem dX0_passHours_3 : decode cX0_passHours 3 = .ok (.iload_n 1, 1) := by decide +kernel
theorem dX0_passHours_4 : decode cX0_passHours 4 = .ok (.if_icmp .ge 66, 3) := by decide +kernel
theorem dX0_passHours_7 : decode cX0_passHours 7 = .ok (.iconst 0, 1) := by decide +kernel
theorem dX0_passHours_8 : decode cX0_passHours 8 = .ok (.istore 4, 2) := by decide +kernel
theorem dX0_passHours_10 : decode cX0_passHours 10 = .ok (.iload 4, 2) := by decide +kernel
theorem dX0_passHours_12 : decode cX0_passHours 12 = .ok (.aload_n 0, 1) := by decide +kernel
theorem dX0_passHours_13 : decode cX0_passHours 13 = .ok (.getfield 26, 3) := by decide +kernel
theorem dX0_passHours_16 : decode cX0_passHours 16 = .ok (.if_icmp .ge 25, 3) := by decide +kernel
theorem dX0_passHours_19 : decode cX0_passHours 19 = .ok (.iload_n 2, 1) := by decide +kernel
theorem dX0_passHours_20 : decode cX0_passHours 20 = .ok (.iload 4, 2) := by decide +kernel
theorem dX0_passHours_22 : decode cX0_passHours 22 = .ok (.ishr, 1) := by decide +kernel
theorem dX0_passHours_23 : decode cX0_passHours 23 = .ok (.iconst 1, 1) := by decide +kernel
theorem dX0_passHours_24 : decode cX0_passHours 24 = .ok (.iand, 1) := by decide +kernel
theorem dX0_passHours_25 : decode cX0_passHours 25 = .ok (.iconst 1, 1) := by decide +kernel
theorem dX0_passHours_26 : decode cX0_passHours 26 = .ok (.if_icmp .ne 9, 3) := by decide +kernel
theorem dX0_passHours_29 : decode cX0_passHours 29 = .ok (.aload_n 0, 1) := by decide +kernel
theorem dX0_passHours_30 : decode cX0_passHours 30 = .ok (.iload 4, 2) := by decide +kernel
theorem dX0_passHours_32 : decode cX0_passHours 32 = .ok (.invokevirtual 54, 3) := by decide +kernel
theorem dX0_passHours_35 : decode cX0_passHours 35 = .ok (.iinc 4 1, 3) := by decide +kernel
theorem dX0_passHours_38 : decode cX0_passHours 38 = .ok (.goto (-28), 3) := by decide +kernel
theorem dX0_passHours_41 : decode cX0_passHours 41 = .ok (.aload_n 0, 1) := by decide +kernel
theorem dX0_passHours_42 : decode cX0_passHours 42 = .ok (.invokevirtual 58, 3) := by decide +kernel
theorem dX0_passHours_45 : decode cX0_passHours 45 = .ok (.aload_n 0, 1) := by decide +kernel
theorem dX0_passHours_46 : decode cX0_passHours 46 = .ok (.invokevirtual 61, 3) := by decide +kernel
theorem dX0_passHours_49 : decode cX0_passHours 49 = .ok (.aload_n 0, 1) := by decide +kernel
theorem dX0_passHours_50 : decode cX0_passHours 50 = .ok (.aload_n 0, 1) := by decide +kernel
theorem dX0_passHours_51 : decode cX0_passHours 51 = .ok (.getfield 33, 3) := by decide +kernel
theorem dX0_passHours_54 : decode cX0_passHours 54 = .ok (.iconst 1, 1) := by decide +kernel
theorem dX0_passHours_55 : decode cX0_passHours 55 = .ok (.iadd, 1) := by decide +kernel
theorem dX0_passHours_56 : decode cX0_passHours 56 = .ok (.ldc 64, 2) := by decide +kernel
theorem dX0_passHours_58 : decode cX0_passHours 58 = .ok (.invokestatic 45, 3) := by decide +kernel
theorem dX0_passHours_61 : decode cX0_passHours 61 = .ok (.putfield 33, 3) := by decide +kernel
theorem dX0_passHours_64 : decode cX0_passHours 64 = .ok (.iinc 3 1, 3) := by decide +kernel
theorem dX0_passHours_67 : decode cX0_passHours 67 = .ok (.goto (-65), 3) := by decide +kernel
theorem dX0_passHours_70 : decode cX0_passHours 70 = .ok (.return_, 1) := by decide +kernel
theorem dX0_letGo_0 : decode cX0_letGo 0 = .ok (.aload_n 0, 1) := by decide +kernel
theorem dX0_letGo_1 : decode cX0_letGo 1 = .ok (.iload_n 1, 1) := by decide +kernel
theorem dX0_letGo_2 : decode cX0_letGo 2 = .ok (.invokevirtual 65, 3) := by decide +kernel
theorem dX0_letGo_5 : decode cX0_letGo 5 = .ok (.istore_n 2, 1) := by decide +kernel
theorem dX0_letGo_6 : decode cX0_letGo 6 = .ok (.iconst 0, 1) := by decide +kernel
theorem dX0_letGo_7 : decode cX0_letGo 7 = .ok (.istore_n 3, 1) := by decide +kernel
theorem dX0_letGo_8 : decode cX0_letGo 8 = .ok (.iload_n 3, 1) := by decide +kernel
theorem dX0_letGo_9 : decode cX0_letGo 9 = .ok (.iload_n 2, 1) := by decide +kernel
theorem dX0_letGo_10 : decode cX0_letGo 10 = .ok (.if_icmp .ge 14, 3) := by decide +kernel
theorem dX0_letGo_13 : decode cX0_letGo 13 = .ok (.aload_n 0, 1) := by decide +kernel
theorem dX0_letGo_14 : decode cX0_letGo 14 = .ok (.iload_n 1, 1) := by decide +kernel
theorem dX0_letGo_15 : decode cX0_letGo 15 = .ok (.invokevirtual 69, 3) := by decide +kernel
theorem dX0_letGo_18 : decode cX0_letGo 18 = .ok (.iinc 3 1, 3) := by decide +kernel
theorem dX0_letGo_21 : decode cX0_letGo 21 = .ok (.goto (-13), 3) := by decide +kernel
theorem dX0_letGo_24 : decode cX0_letGo 24 = .ok (.return_, 1) := by decide +kernel
theorem dX0_passOrTurn_0 : decode cX0_passOrTurn 0 = .ok (.aload_n 0, 1) := by decide +kernel
theorem dX0_passOrTurn_1 : decode cX0_passOrTurn 1 = .ok (.getfield 20, 3) := by decide +kernel
theorem dX0_passOrTurn_4 : decode cX0_passOrTurn 4 = .ok (.iconst 2, 1) := by decide +kernel
theorem dX0_passOrTurn_5 : decode cX0_passOrTurn 5 = .ok (.aaload, 1) := by decide +kernel
theorem dX0_passOrTurn_6 : decode cX0_passOrTurn 6 = .ok (.iload_n 1, 1) := by decide +kernel
theorem dX0_passOrTurn_7 : decode cX0_passOrTurn 7 = .ok (.iaload, 1) := by decide +kernel
theorem dX0_passOrTurn_8 : decode cX0_passOrTurn 8 = .ok (.ifCond .ne 7, 3) := by decide +kernel
theorem dX0_passOrTurn_11 : decode cX0_passOrTurn 11 = .ok (.iconst 1, 1) := by decide +kernel
theorem dX0_passOrTurn_12 : decode cX0_passOrTurn 12 = .ok (.goto 4, 3) := by decide +kernel
theorem dX0_passOrTurn_15 : decode cX0_passOrTurn 15 = .ok (.iconst 0, 1) := by decide +kernel
theorem dX0_passOrTurn_16 : decode cX0_passOrTurn 16 = .ok (.istore_n 2, 1) := by decide +kernel
theorem dX0_passOrTurn_17 : decode cX0_passOrTurn 17 = .ok (.iload_n 2, 1) := by decide +kernel
theorem dX0_passOrTurn_18 : decode cX0_passOrTurn 18 = .ok (.ifCond .eq 14, 3) := by decide +kernel
theorem dX0_passOrTurn_21 : decode cX0_passOrTurn 21 = .ok (.aload_n 0, 1) := by decide +kernel
theorem dX0_passOrTurn_22 : decode cX0_passOrTurn 22 = .ok (.getfield 20, 3) := by decide +kernel
theorem dX0_passOrTurn_25 : decode cX0_passOrTurn 25 = .ok (.iconst 1, 1) := by decide +kernel
theorem dX0_passOrTurn_26 : decode cX0_passOrTurn 26 = .ok (.aaload, 1) := by decide +kernel
theorem dX0_passOrTurn_27 : decode cX0_passOrTurn 27 = .ok (.iload_n 1, 1) := by decide +kernel
theorem dX0_passOrTurn_28 : decode cX0_passOrTurn 28 = .ok (.iaload, 1) := by decide +kernel
theorem dX0_passOrTurn_29 : decode cX0_passOrTurn 29 = .ok (.goto 13, 3) := by decide +kernel
theorem dX0_passOrTurn_32 : decode cX0_passOrTurn 32 = .ok (.aload_n 0, 1) := by decide +kernel
theorem dX0_passOrTurn_33 : decode cX0_passOrTurn 33 = .ok (.getfield 20, 3) := by decide +kernel
theorem dX0_passOrTurn_36 : decode cX0_passOrTurn 36 = .ok (.iconst 1, 1) := by decide +kernel
theorem dX0_passOrTurn_37 : decode cX0_passOrTurn 37 = .ok (.aaload, 1) := by decide +kernel
theorem dX0_passOrTurn_38 : decode cX0_passOrTurn 38 = .ok (.iload_n 1, 1) := by decide +kernel
theorem dX0_passOrTurn_39 : decode cX0_passOrTurn 39 = .ok (.iaload, 1) := by decide +kernel
theorem dX0_passOrTurn_40 : decode cX0_passOrTurn 40 = .ok (.iconst 1, 1) := by decide +kernel
theorem dX0_passOrTurn_41 : decode cX0_passOrTurn 41 = .ok (.isub, 1) := by decide +kernel
theorem dX0_passOrTurn_42 : decode cX0_passOrTurn 42 = .ok (.istore_n 3, 1) := by decide +kernel
theorem dX0_passOrTurn_43 : decode cX0_passOrTurn 43 = .ok (.iload_n 3, 1) := by decide +kernel
theorem dX0_passOrTurn_44 : decode cX0_passOrTurn 44 = .ok (.ifCond .lt 9, 3) := by decide +kernel
theorem dX0_passOrTurn_47 : decode cX0_passOrTurn 47 = .ok (.iload_n 3, 1) := by decide +kernel
theorem dX0_passOrTurn_48 : decode cX0_passOrTurn 48 = .ok (.bipush 8, 2) := by decide +kernel
theorem dX0_passOrTurn_50 : decode cX0_passOrTurn 50 = .ok (.if_icmp .lt 22, 3) := by decide +kernel
theorem dX0_passOrTurn_53 : decode cX0_passOrTurn 53 = .ok (.aload_n 0, 1) := by decide +kernel
theorem dX0_passOrTurn_54 : decode cX0_passOrTurn 54 = .ok (.getfield 20, 3) := by decide +kernel
theorem dX0_passOrTurn_57 : decode cX0_passOrTurn 57 = .ok (.iconst 2, 1) := by decide +kernel
theorem dX0_passOrTurn_58 : decode cX0_passOrTurn 58 = .ok (.aaload, 1) := by decide +kernel
theorem dX0_passOrTurn_59 : decode cX0_passOrTurn 59 = .ok (.iload_n 1, 1) := by decide +kernel
theorem dX0_passOrTurn_60 : decode cX0_passOrTurn 60 = .ok (.iconst 1, 1) := by decide +kernel
theorem dX0_passOrTurn_61 : decode cX0_passOrTurn 61 = .ok (.aload_n 0, 1) := by decide +kernel
theorem dX0_passOrTurn_62 : decode cX0_passOrTurn 62 = .ok (.getfield 20, 3) := by decide +kernel
theorem dX0_passOrTurn_65 : decode cX0_passOrTurn 65 = .ok (.iconst 2, 1) := by decide +kernel
theorem dX0_passOrTurn_66 : decode cX0_passOrTurn 66 = .ok (.aaload, 1) := by decide +kernel
theorem dX0_passOrTurn_67 : decode cX0_passOrTurn 67 = .ok (.iload_n 1, 1) := by decide +kernel
theorem dX0_passOrTurn_68 : decode cX0_passOrTurn 68 = .ok (.iaload, 1) := by decide +kernel
theorem dX0_passOrTurn_69 : decode cX0_passOrTurn 69 = .ok (.isub, 1) := by decide +kernel
theorem dX0_passOrTurn_70 : decode cX0_passOrTurn 70 = .ok (.iastore, 1) := by decide +kernel
theorem dX0_passOrTurn_71 : decode cX0_passOrTurn 71 = .ok (.return_, 1) := by decide +kernel
theorem dX0_passOrTurn_72 : decode cX0_passOrTurn 72 = .ok (.aload_n 0, 1) := by decide +kernel
theorem dX0_passOrTurn_73 : decode cX0_passOrTurn 73 = .ok (.getfield 15, 3) := by decide +kernel
theorem dX0_passOrTurn_76 : decode cX0_passOrTurn 76 = .ok (.iload_n 3, 1) := by decide +kernel
theorem dX0_passOrTurn_77 : decode cX0_passOrTurn 77 = .ok (.iaload, 1) := by decide +kernel
theorem dX0_passOrTurn_78 : decode cX0_passOrTurn 78 = .ok (.istore 4, 2) := by decide +kernel
theorem dX0_passOrTurn_80 : decode cX0_passOrTurn 80 = .ok (.aload_n 0, 1) := by decide +kernel
theorem dX0_passOrTurn_81 : decode cX0_passOrTurn 81 = .ok (.getfield 15, 3) := by decide +kernel
theorem dX0_passOrTurn_84 : decode cX0_passOrTurn 84 = .ok (.iload_n 3, 1) := by decide +kernel
theorem dX0_passOrTurn_85 : decode cX0_passOrTurn 85 = .ok (.aload_n 0, 1) := by decide +kernel
theorem dX0_passOrTurn_86 : decode cX0_passOrTurn 86 = .ok (.iload_n 1, 1) := by decide +kernel
theorem dX0_passOrTurn_87 : decode cX0_passOrTurn 87 = .ok (.iload 4, 2) := by decide +kernel
theorem dX0_passOrTurn_89 : decode cX0_passOrTurn 89 = .ok (.invokevirtual 72, 3) := by decide +kernel
theorem dX0_passOrTurn_92 : decode cX0_passOrTurn 92 = .ok (.iastore, 1) := by decide +kernel
theorem dX0_passOrTurn_93 : decode cX0_passOrTurn 93 = .ok (.aload_n 0, 1) := by decide +kernel
theorem dX0_passOrTurn_94 : decode cX0_passOrTurn 94 = .ok (.getfield 20, 3) := by decide +kernel
theorem dX0_passOrTurn_97 : decode cX0_passOrTurn 97 = .ok (.iconst 3, 1) := by decide +kernel
theorem dX0_passOrTurn_98 : decode cX0_passOrTurn 98 = .ok (.aaload, 1) := by decide +kernel
theorem dX0_passOrTurn_99 : decode cX0_passOrTurn 99 = .ok (.iload_n 1, 1) := by decide +kernel
theorem dX0_passOrTurn_100 : decode cX0_passOrTurn 100 = .ok (.aload_n 0, 1) := by decide +kernel
theorem dX0_passOrTurn_101 : decode cX0_passOrTurn 101 = .ok (.iload_n 1, 1) := by decide +kernel
theorem dX0_passOrTurn_102 : decode cX0_passOrTurn 102 = .ok (.iload 4, 2) := by decide +kernel
theorem dX0_passOrTurn_104 : decode cX0_passOrTurn 104 = .ok (.invokevirtual 75, 3) := by decide +kernel
theorem dX0_passOrTurn_107 : decode cX0_passOrTurn 107 = .ok (.iastore, 1) := by decide +kernel
theorem dX0_passOrTurn_108 : decode cX0_passOrTurn 108 = .ok (.aload_n 0, 1) := by decide +kernel
theorem dX0_passOrTurn_109 : decode cX0_passOrTurn 109 = .ok (.getfield 20, 3) := by decide +kernel
theorem dX0_passOrTurn_112 : decode cX0_passOrTurn 112 = .ok (.iconst 1, 1) := by decide +kernel
theorem dX0_passOrTurn_113 : decode cX0_passOrTurn 113 = .ok (.aaload, 1) := by decide +kernel
theorem dX0_passOrTurn_114 : decode cX0_passOrTurn 114 = .ok (.iload_n 1, 1) := by decide +kernel
theorem dX0_passOrTurn_115 : decode cX0_passOrTurn 115 = .ok (.iload_n 2, 1) := by decide +kernel
theorem dX0_passOrTurn_116 : decode cX0_passOrTurn 116 = .ok (.ifCond .eq 9, 3) := by decide +kernel
theorem dX0_passOrTurn_119 : decode cX0_passOrTurn 119 = .ok (.iload_n 3, 1) := by decide +kernel
theorem dX0_passOrTurn_120 : decode cX0_passOrTurn 120 = .ok (.iconst 1, 1) := by decide +kernel
theorem dX0_passOrTurn_121 : decode cX0_passOrTurn 121 = .ok (.iadd, 1) := by decide +kernel
theorem dX0_passOrTurn_122 : decode cX0_passOrTurn 122 = .ok (.goto 4, 3) := by decide +kernel
theorem dX0_passOrTurn_125 : decode cX0_passOrTurn 125 = .ok (.iload_n 3, 1) := by decide +kernel
theorem dX0_passOrTurn_126 : decode cX0_passOrTurn 126 = .ok (.iastore, 1) := by decide +kernel
theorem dX0_passOrTurn_127 : decode cX0_passOrTurn 127 = .ok (.aload_n 0, 1) := by decide +kernel
theorem dX0_passOrTurn_128 : decode cX0_passOrTurn 128 = .ok (.getfield 20, 3) := by decide +kernel
theorem dX0_passOrTurn_131 : decode cX0_passOrTurn 131 = .ok (.iconst 4, 1) := by decide +kernel
theorem dX0_passOrTurn_132 : decode cX0_passOrTurn 132 = .ok (.aaload, 1) := by decide +kernel
theorem dX0_passOrTurn_133 : decode cX0_passOrTurn 133 = .ok (.iload_n 1, 1) := by decide +kernel
theorem dX0_passOrTurn_134 : decode cX0_passOrTurn 134 = .ok (.aload_n 0, 1) := by decide +kernel
theorem dX0_passOrTurn_135 : decode cX0_passOrTurn 135 = .ok (.getfield 20, 3) := by decide +kernel
theorem dX0_passOrTurn_138 : decode cX0_passOrTurn 138 = .ok (.iconst 4, 1) := by decide +kernel
theorem dX0_passOrTurn_139 : decode cX0_passOrTurn 139 = .ok (.aaload, 1) := by decide +kernel
theorem dX0_passOrTurn_140 : decode cX0_passOrTurn 140 = .ok (.iload_n 1, 1) := by decide +kernel
theorem dX0_passOrTurn_141 : decode cX0_passOrTurn 141 = .ok (.iaload, 1) := by decide +kernel
theorem dX0_passOrTurn_142 : decode cX0_passOrTurn 142 = .ok (.iconst 1, 1) := by decide +kernel
theorem dX0_passOrTurn_143 : decode cX0_passOrTurn 143 = .ok (.iadd, 1) := by decide +kernel
theorem dX0_passOrTurn_144 : decode cX0_passOrTurn 144 = .ok (.sipush 9999, 3) := by decide +kernel
theorem dX0_passOrTurn_147 : decode cX0_passOrTurn 147 = .ok (.invokestatic 45, 3) := by decide +kernel
theorem dX0_passOrTurn_150 : decode cX0_passOrTurn 150 = .ok (.iastore, 1) := by decide +kernel
theorem dX0_passOrTurn_151 : decode cX0_passOrTurn 151 = .ok (.return_, 1) := by decide +kernel
theorem dX0_moveBeasts_0 : decode cX0_moveBeasts 0 = .ok (.aload_n 0, 1) := by decide +kernel
theorem dX0_moveBeasts_1 : decode cX0_moveBeasts 1 = .ok (.getfield 9, 3) := by decide +kernel
theorem dX0_moveBeasts_4 : decode cX0_moveBeasts 4 = .ok (.iconst 0, 1) := by decide +kernel
theorem dX0_moveBeasts_5 : decode cX0_moveBeasts 5 = .ok (.iaload, 1) := by decide +kernel
theorem dX0_moveBeasts_6 : decode cX0_moveBeasts 6 = .ok (.istore_n 1, 1) := by decide +kernel
theorem dX0_moveBeasts_7 : decode cX0_moveBeasts 7 = .ok (.iconst 0, 1) := by decide +kernel
theorem dX0_moveBeasts_8 : decode cX0_moveBeasts 8 = .ok (.istore_n 2, 1) := by decide +kernel
theorem dX0_moveBeasts_9 : decode cX0_moveBeasts 9 = .ok (.iload_n 2, 1) := by decide +kernel
theorem dX0_moveBeasts_10 : decode cX0_moveBeasts 10 = .ok (.bipush 8, 2) := by decide +kernel
theorem dX0_moveBeasts_12 : decode cX0_moveBeasts 12 = .ok (.if_icmp .ge 58, 3) := by decide +kernel
theorem dX0_moveBeasts_15 : decode cX0_moveBeasts 15 = .ok (.aload_n 0, 1) := by decide +kernel
theorem dX0_moveBeasts_16 : decode cX0_moveBeasts 16 = .ok (.getfield 9, 3) := by decide +kernel
theorem dX0_moveBeasts_19 : decode cX0_moveBeasts 19 = .ok (.iload_n 2, 1) := by decide +kernel
theorem dX0_moveBeasts_20 : decode cX0_moveBeasts 20 = .ok (.iconst 1, 1) := by decide +kernel
theorem dX0_moveBeasts_21 : decode cX0_moveBeasts 21 = .ok (.iadd, 1) := by decide +kernel
theorem dX0_moveBeasts_22 : decode cX0_moveBeasts 22 = .ok (.iaload, 1) := by decide +kernel
theorem dX0_moveBeasts_23 : decode cX0_moveBeasts 23 = .ok (.istore_n 3, 1) := by decide +kernel
theorem dX0_moveBeasts_24 : decode cX0_moveBeasts 24 = .ok (.aload_n 0, 1) := by decide +kernel
theorem dX0_moveBeasts_25 : decode cX0_moveBeasts 25 = .ok (.getfield 15, 3) := by decide +kernel
theorem dX0_moveBeasts_28 : decode cX0_moveBeasts 28 = .ok (.iload_n 2, 1) := by decide +kernel
theorem dX0_moveBeasts_29 : decode cX0_moveBeasts 29 = .ok (.iaload, 1) := by decide +kernel
theorem dX0_moveBeasts_30 : decode cX0_moveBeasts 30 = .ok (.iload_n 1, 1) := by decide +kernel
theorem dX0_moveBeasts_31 : decode cX0_moveBeasts 31 = .ok (.iload_n 3, 1) := by decide +kernel
theorem dX0_moveBeasts_32 : decode cX0_moveBeasts 32 = .ok (.isub, 1) := by decide +kernel
theorem dX0_moveBeasts_33 : decode cX0_moveBeasts 33 = .ok (.invokestatic 78, 3) := by decide +kernel
theorem dX0_moveBeasts_36 : decode cX0_moveBeasts 36 = .ok (.istore 4, 2) := by decide +kernel
theorem dX0_moveBeasts_38 : decode cX0_moveBeasts 38 = .ok (.aload_n 0, 1) := by decide +kernel
theorem dX0_moveBeasts_39 : decode cX0_moveBeasts 39 = .ok (.getfield 9, 3) := by decide +kernel
theorem dX0_moveBeasts_42 : decode cX0_moveBeasts 42 = .ok (.iload_n 2, 1) := by decide +kernel
theorem dX0_moveBeasts_43 : decode cX0_moveBeasts 43 = .ok (.dup2, 1) := by decide +kernel
theorem dX0_moveBeasts_44 : decode cX0_moveBeasts 44 = .ok (.iaload, 1) := by decide +kernel
theorem dX0_moveBeasts_45 : decode cX0_moveBeasts 45 = .ok (.iload 4, 2) := by decide +kernel
theorem dX0_moveBeasts_47 : decode cX0_moveBeasts 47 = .ok (.isub, 1) := by decide +kernel
theorem dX0_moveBeasts_48 : decode cX0_moveBeasts 48 = .ok (.iastore, 1) := by decide +kernel
theorem dX0_moveBeasts_49 : decode cX0_moveBeasts 49 = .ok (.aload_n 0, 1) := by decide +kernel
theorem dX0_moveBeasts_50 : decode cX0_moveBeasts 50 = .ok (.getfield 9, 3) := by decide +kernel
theorem dX0_moveBeasts_53 : decode cX0_moveBeasts 53 = .ok (.iload_n 2, 1) := by decide +kernel
theorem dX0_moveBeasts_54 : decode cX0_moveBeasts 54 = .ok (.iconst 1, 1) := by decide +kernel
theorem dX0_moveBeasts_55 : decode cX0_moveBeasts 55 = .ok (.iadd, 1) := by decide +kernel
theorem dX0_moveBeasts_56 : decode cX0_moveBeasts 56 = .ok (.dup2, 1) := by decide +kernel
theorem dX0_moveBeasts_57 : decode cX0_moveBeasts 57 = .ok (.iaload, 1) := by decide +kernel
theorem dX0_moveBeasts_58 : decode cX0_moveBeasts 58 = .ok (.iload 4, 2) := by decide +kernel
theorem dX0_moveBeasts_60 : decode cX0_moveBeasts 60 = .ok (.iadd, 1) := by decide +kernel
theorem dX0_moveBeasts_61 : decode cX0_moveBeasts 61 = .ok (.iastore, 1) := by decide +kernel
theorem dX0_moveBeasts_62 : decode cX0_moveBeasts 62 = .ok (.iload_n 3, 1) := by decide +kernel
theorem dX0_moveBeasts_63 : decode cX0_moveBeasts 63 = .ok (.istore_n 1, 1) := by decide +kernel
theorem dX0_moveBeasts_64 : decode cX0_moveBeasts 64 = .ok (.iinc 2 1, 3) := by decide +kernel
theorem dX0_moveBeasts_67 : decode cX0_moveBeasts 67 = .ok (.goto (-58), 3) := by decide +kernel
theorem dX0_moveBeasts_70 : decode cX0_moveBeasts 70 = .ok (.return_, 1) := by decide +kernel
theorem dX0_through_0 : decode cX0_through 0 = .ok (.iload_n 0, 1) := by decide +kernel
theorem dX0_through_1 : decode cX0_through 1 = .ok (.ifCond .ne 5, 3) := by decide +kernel
theorem dX0_through_4 : decode cX0_through 4 = .ok (.iconst 0, 1) := by decide +kernel
theorem dX0_through_5 : decode cX0_through 5 = .ok (.ireturn, 1) := by decide +kernel
theorem dX0_through_6 : decode cX0_through 6 = .ok (.iload_n 0, 1) := by decide +kernel
theorem dX0_through_7 : decode cX0_through 7 = .ok (.iconst 1, 1) := by decide +kernel
theorem dX0_through_8 : decode cX0_through 8 = .ok (.if_icmp .ne 10, 3) := by decide +kernel
theorem dX0_through_11 : decode cX0_through 11 = .ok (.iload_n 1, 1) := by decide +kernel
theorem dX0_through_12 : decode cX0_through 12 = .ok (.bipush 16, 2) := by decide +kernel
theorem dX0_through_14 : decode cX0_through 14 = .ok (.idiv, 1) := by decide +kernel
theorem dX0_through_15 : decode cX0_through 15 = .ok (.goto 6, 3) := by decide +kernel
theorem dX0_through_18 : decode cX0_through 18 = .ok (.iload_n 1, 1) := by decide +kernel
theorem dX0_through_19 : decode cX0_through 19 = .ok (.iconst 4, 1) := by decide +kernel
theorem dX0_through_20 : decode cX0_through 20 = .ok (.idiv, 1) := by decide +kernel
theorem dX0_through_21 : decode cX0_through 21 = .ok (.ireturn, 1) := by decide +kernel
theorem dX0_blowShut_0 : decode cX0_blowShut 0 = .ok (.iconst 0, 1) := by decide +kernel
theorem dX0_blowShut_1 : decode cX0_blowShut 1 = .ok (.istore_n 1, 1) := by decide +kernel
theorem dX0_blowShut_2 : decode cX0_blowShut 2 = .ok (.iload_n 1, 1) := by decide +kernel
theorem dX0_blowShut_3 : decode cX0_blowShut 3 = .ok (.bipush 8, 2) := by decide +kernel
theorem dX0_blowShut_5 : decode cX0_blowShut 5 = .ok (.if_icmp .ge 35, 3) := by decide +kernel
theorem dX0_blowShut_8 : decode cX0_blowShut 8 = .ok (.aload_n 0, 1) := by decide +kernel
theorem dX0_blowShut_9 : decode cX0_blowShut 9 = .ok (.getfield 30, 3) := by decide +kernel
theorem dX0_blowShut_12 : decode cX0_blowShut 12 = .ok (.bipush 7, 2) := by decide +kernel
theorem dX0_blowShut_14 : decode cX0_blowShut 14 = .ok (.if_icmp .lt 20, 3) := by decide +kernel
theorem dX0_blowShut_17 : decode cX0_blowShut 17 = .ok (.aload_n 0, 1) := by decide +kernel
theorem dX0_blowShut_18 : decode cX0_blowShut 18 = .ok (.getfield 15, 3) := by decide +kernel
theorem dX0_blowShut_21 : decode cX0_blowShut 21 = .ok (.iload_n 1, 1) := by decide +kernel
theorem dX0_blowShut_22 : decode cX0_blowShut 22 = .ok (.iaload, 1) := by decide +kernel
theorem dX0_blowShut_23 : decode cX0_blowShut 23 = .ok (.iconst 3, 1) := by decide +kernel
theorem dX0_blowShut_24 : decode cX0_blowShut 24 = .ok (.if_icmp .eq 10, 3) := by decide +kernel
theorem dX0_blowShut_27 : decode cX0_blowShut 27 = .ok (.aload_n 0, 1) := by decide +kernel
theorem dX0_blowShut_28 : decode cX0_blowShut 28 = .ok (.getfield 15, 3) := by decide +kernel
theorem dX0_blowShut_31 : decode cX0_blowShut 31 = .ok (.iload_n 1, 1) := by decide +kernel
theorem dX0_blowShut_32 : decode cX0_blowShut 32 = .ok (.iconst 0, 1) := by decide +kernel
theorem dX0_blowShut_33 : decode cX0_blowShut 33 = .ok (.iastore, 1) := by decide +kernel
theorem dX0_blowShut_34 : decode cX0_blowShut 34 = .ok (.iinc 1 1, 3) := by decide +kernel
theorem dX0_blowShut_37 : decode cX0_blowShut 37 = .ok (.goto (-35), 3) := by decide +kernel
theorem dX0_blowShut_40 : decode cX0_blowShut 40 = .ok (.return_, 1) := by decide +kernel
theorem dX0_draw_0 : decode cX0_draw 0 = .ok (.aload_n 0, 1) := by decide +kernel
theorem dX0_draw_1 : decode cX0_draw 1 = .ok (.aload_n 0, 1) := by decide +kernel
theorem dX0_draw_2 : decode cX0_draw 2 = .ok (.getfield 36, 3) := by decide +kernel
theorem dX0_draw_5 : decode cX0_draw 5 = .ok (.ldc 81, 2) := by decide +kernel
theorem dX0_draw_7 : decode cX0_draw 7 = .ok (.imul, 1) := by decide +kernel
theorem dX0_draw_8 : decode cX0_draw 8 = .ok (.sipush 12345, 3) := by decide +kernel
theorem dX0_draw_11 : decode cX0_draw 11 = .ok (.iadd, 1) := by decide +kernel
theorem dX0_draw_12 : decode cX0_draw 12 = .ok (.putfield 36, 3) := by decide +kernel
theorem dX0_draw_15 : decode cX0_draw 15 = .ok (.aload_n 0, 1) := by decide +kernel
theorem dX0_draw_16 : decode cX0_draw 16 = .ok (.getfield 36, 3) := by decide +kernel
theorem dX0_draw_19 : decode cX0_draw 19 = .ok (.bipush 8, 2) := by decide +kernel
theorem dX0_draw_21 : decode cX0_draw 21 = .ok (.iushr, 1) := by decide +kernel
theorem dX0_draw_22 : decode cX0_draw 22 = .ok (.ireturn, 1) := by decide +kernel
theorem dX0_standsAsTold_0 : decode cX0_standsAsTold 0 = .ok (.iconst 0, 1) := by decide +kernel
theorem dX0_standsAsTold_1 : decode cX0_standsAsTold 1 = .ok (.istore_n 2, 1) := by decide +kernel
theorem dX0_standsAsTold_2 : decode cX0_standsAsTold 2 = .ok (.iload_n 2, 1) := by decide +kernel
theorem dX0_standsAsTold_3 : decode cX0_standsAsTold 3 = .ok (.aload_n 1, 1) := by decide +kernel
theorem dX0_standsAsTold_4 : decode cX0_standsAsTold 4 = .ok (.getfield 82, 3) := by decide +kernel
theorem dX0_standsAsTold_7 : decode cX0_standsAsTold 7 = .ok (.if_icmp .ge 42, 3) := by decide +kernel
theorem dX0_standsAsTold_10 : decode cX0_standsAsTold 10 = .ok (.iload_n 2, 1) := by decide +kernel
theorem dX0_standsAsTold_11 : decode cX0_standsAsTold 11 = .ok (.bipush 8, 2) := by decide +kernel
theorem dX0_standsAsTold_13 : decode cX0_standsAsTold 13 = .ok (.if_icmp .ge 36, 3) := by decide +kernel
theorem dX0_standsAsTold_16 : decode cX0_standsAsTold 16 = .ok (.aload_n 1, 1) := by decide +kernel
theorem dX0_standsAsTold_17 : decode cX0_standsAsTold 17 = .ok (.getfield 87, 3) := by decide +kernel
theorem dX0_standsAsTold_20 : decode cX0_standsAsTold 20 = .ok (.iload_n 2, 1) := by decide +kernel
theorem dX0_standsAsTold_21 : decode cX0_standsAsTold 21 = .ok (.iaload, 1) := by decide +kernel
theorem dX0_standsAsTold_22 : decode cX0_standsAsTold 22 = .ok (.iconst (-1), 1) := by decide +kernel
theorem dX0_standsAsTold_23 : decode cX0_standsAsTold 23 = .ok (.if_icmp .eq 20, 3) := by decide +kernel
theorem dX0_standsAsTold_26 : decode cX0_standsAsTold 26 = .ok (.aload_n 1, 1) := by decide +kernel
theorem dX0_standsAsTold_27 : decode cX0_standsAsTold 27 = .ok (.getfield 87, 3) := by decide +kernel
theorem dX0_standsAsTold_30 : decode cX0_standsAsTold 30 = .ok (.iload_n 2, 1) := by decide +kernel
theorem dX0_standsAsTold_31 : decode cX0_standsAsTold 31 = .ok (.iaload, 1) := by decide +kernel
theorem dX0_standsAsTold_32 : decode cX0_standsAsTold 32 = .ok (.aload_n 0, 1) := by decide +kernel
theorem dX0_standsAsTold_33 : decode cX0_standsAsTold 33 = .ok (.getfield 15, 3) := by decide +kernel
theorem dX0_standsAsTold_36 : decode cX0_standsAsTold 36 = .ok (.iload_n 2, 1) := by decide +kernel
theorem dX0_standsAsTold_37 : decode cX0_standsAsTold 37 = .ok (.iaload, 1) := by decide +kernel
theorem dX0_standsAsTold_38 : decode cX0_standsAsTold 38 = .ok (.if_icmp .eq 5, 3) := by decide +kernel
theorem dX0_standsAsTold_41 : decode cX0_standsAsTold 41 = .ok (.iconst 0, 1) := by decide +kernel
theorem dX0_standsAsTold_42 : decode cX0_standsAsTold 42 = .ok (.ireturn, 1) := by decide +kernel
theorem dX0_standsAsTold_43 : decode cX0_standsAsTold 43 = .ok (.iinc 2 1, 3) := by decide +kernel
theorem dX0_standsAsTold_46 : decode cX0_standsAsTold 46 = .ok (.goto (-44), 3) := by decide +kernel
theorem dX0_standsAsTold_49 : decode cX0_standsAsTold 49 = .ok (.iconst 1, 1) := by decide +kernel
theorem dX0_standsAsTold_50 : decode cX0_standsAsTold 50 = .ok (.ireturn, 1) := by decide +kernel
theorem dX0_walkersIn_0 : decode cX0_walkersIn 0 = .ok (.iconst 0, 1) := by decide +kernel
theorem dX0_walkersIn_1 : decode cX0_walkersIn 1 = .ok (.istore_n 2, 1) := by decide +kernel
theorem dX0_walkersIn_2 : decode cX0_walkersIn 2 = .ok (.iconst 0, 1) := by decide +kernel
theorem dX0_walkersIn_3 : decode cX0_walkersIn 3 = .ok (.istore_n 3, 1) := by decide +kernel
theorem dX0_walkersIn_4 : decode cX0_walkersIn 4 = .ok (.iload_n 3, 1) := by decide +kernel
theorem dX0_walkersIn_5 : decode cX0_walkersIn 5 = .ok (.aload_n 0, 1) := by decide +kernel
theorem dX0_walkersIn_6 : decode cX0_walkersIn 6 = .ok (.getfield 26, 3) := by decide +kernel
theorem dX0_walkersIn_9 : decode cX0_walkersIn 9 = .ok (.if_icmp .ge 27, 3) := by decide +kernel
theorem dX0_walkersIn_12 : decode cX0_walkersIn 12 = .ok (.aload_n 0, 1) := by decide +kernel
theorem dX0_walkersIn_13 : decode cX0_walkersIn 13 = .ok (.getfield 20, 3) := by decide +kernel
theorem dX0_walkersIn_16 : decode cX0_walkersIn 16 = .ok (.iconst 1, 1) := by decide +kernel
theorem dX0_walkersIn_17 : decode cX0_walkersIn 17 = .ok (.aaload, 1) := by decide +kernel
theorem dX0_walkersIn_18 : decode cX0_walkersIn 18 = .ok (.iload_n 3, 1) := by decide +kernel
theorem dX0_walkersIn_19 : decode cX0_walkersIn 19 = .ok (.iaload, 1) := by decide +kernel
theorem dX0_walkersIn_20 : decode cX0_walkersIn 20 = .ok (.iload_n 1, 1) := by decide +kernel
theorem dX0_walkersIn_21 : decode cX0_walkersIn 21 = .ok (.if_icmp .ne 9, 3) := by decide +kernel
theorem dX0_walkersIn_24 : decode cX0_walkersIn 24 = .ok (.iload_n 2, 1) := by decide +kernel
theorem dX0_walkersIn_25 : decode cX0_walkersIn 25 = .ok (.iconst 1, 1) := by decide +kernel
theorem dX0_walkersIn_26 : decode cX0_walkersIn 26 = .ok (.iload_n 3, 1) := by decide +kernel
theorem dX0_walkersIn_27 : decode cX0_walkersIn 27 = .ok (.ishl, 1) := by decide +kernel
theorem dX0_walkersIn_28 : decode cX0_walkersIn 28 = .ok (.ior, 1) := by decide +kernel
theorem dX0_walkersIn_29 : decode cX0_walkersIn 29 = .ok (.istore_n 2, 1) := by decide +kernel
theorem dX0_walkersIn_30 : decode cX0_walkersIn 30 = .ok (.iinc 3 1, 3) := by decide +kernel
theorem dX0_walkersIn_33 : decode cX0_walkersIn 33 = .ok (.goto (-29), 3) := by decide +kernel
theorem dX0_walkersIn_36 : decode cX0_walkersIn 36 = .ok (.iload_n 2, 1) := by decide +kernel
theorem dX0_walkersIn_37 : decode cX0_walkersIn 37 = .ok (.ireturn, 1) := by decide +kernel
theorem dX0_standingByFour_0 : decode cX0_standingByFour 0 = .ok (.iconst 0, 1) := by decide +kernel
theorem dX0_standingByFour_1 : decode cX0_standingByFour 1 = .ok (.istore_n 1, 1) := by decide +kernel
theorem dX0_standingByFour_2 : decode cX0_standingByFour 2 = .ok (.bipush 7, 2) := by decide +kernel
theorem dX0_standingByFour_4 : decode cX0_standingByFour 4 = .ok (.istore_n 2, 1) := by decide +kernel
theorem dX0_standingByFour_5 : decode cX0_standingByFour 5 = .ok (.iload_n 2, 1) := by decide +kernel
theorem dX0_standingByFour_6 : decode cX0_standingByFour 6 = .ok (.ifCond .lt 20, 3) := by decide +kernel
theorem dX0_standingByFour_9 : decode cX0_standingByFour 9 = .ok (.iload_n 1, 1) := by decide +kernel
theorem dX0_standingByFour_10 : decode cX0_standingByFour 10 = .ok (.iconst 4, 1) := by decide +kernel
theorem dX0_standingByFour_11 : decode cX0_standingByFour 11 = .ok (.imul, 1) := by decide +kernel
theorem dX0_standingByFour_12 : decode cX0_standingByFour 12 = .ok (.aload_n 0, 1) := by decide +kernel
theorem dX0_standingByFour_13 : decode cX0_standingByFour 13 = .ok (.getfield 15, 3) := by decide +kernel
theorem dX0_standingByFour_16 : decode cX0_standingByFour 16 = .ok (.iload_n 2, 1) := by decide +kernel
theorem dX0_standingByFour_17 : decode cX0_standingByFour 17 = .ok (.iaload, 1) := by decide +kernel
theorem dX0_standingByFour_18 : decode cX0_standingByFour 18 = .ok (.iadd, 1) := by decide +kernel
theorem dX0_standingByFour_19 : decode cX0_standingByFour 19 = .ok (.istore_n 1, 1) := by decide +kernel
theorem dX0_standingByFour_20 : decode cX0_standingByFour 20 = .ok (.iinc 2 (-1), 3) := by decide +kernel
theorem dX0_standingByFour_23 : decode cX0_standingByFour 23 = .ok (.goto (-18), 3) := by decide +kernel
theorem dX0_standingByFour_26 : decode cX0_standingByFour 26 = .ok (.iload_n 1, 1) := by decide +kernel
theorem dX0_standingByFour_27 : decode cX0_standingByFour 27 = .ok (.ireturn, 1) := by decide +kernel
theorem dX0_notShut_0 : decode cX0_notShut 0 = .ok (.iconst 0, 1) := by decide +kernel
theorem dX0_notShut_1 : decode cX0_notShut 1 = .ok (.istore_n 1, 1) := by decide +kernel
theorem dX0_notShut_2 : decode cX0_notShut 2 = .ok (.iconst 0, 1) := by decide +kernel
theorem dX0_notShut_3 : decode cX0_notShut 3 = .ok (.istore_n 2, 1) := by decide +kernel
theorem dX0_notShut_4 : decode cX0_notShut 4 = .ok (.iload_n 2, 1) := by decide +kernel
theorem dX0_notShut_5 : decode cX0_notShut 5 = .ok (.bipush 8, 2) := by decide +kernel
theorem dX0_notShut_7 : decode cX0_notShut 7 = .ok (.if_icmp .ge 24, 3) := by decide +kernel
theorem dX0_notShut_10 : decode cX0_notShut 10 = .ok (.aload_n 0, 1) := by decide +kernel
theorem dX0_notShut_11 : decode cX0_notShut 11 = .ok (.getfield 15, 3) := by decide +kernel
theorem dX0_notShut_14 : decode cX0_notShut 14 = .ok (.iload_n 2, 1) := by decide +kernel
theorem dX0_notShut_15 : decode cX0_notShut 15 = .ok (.iaload, 1) := by decide +kernel
theorem dX0_notShut_16 : decode cX0_notShut 16 = .ok (.ifCond .eq 9, 3) := by decide +kernel
theorem dX0_notShut_19 : decode cX0_notShut 19 = .ok (.iload_n 1, 1) := by decide +kernel
theorem dX0_notShut_20 : decode cX0_notShut 20 = .ok (.iconst 1, 1) := by decide +kernel
theorem dX0_notShut_21 : decode cX0_notShut 21 = .ok (.iload_n 2, 1) := by decide +kernel
theorem dX0_notShut_22 : decode cX0_notShut 22 = .ok (.ishl, 1) := by decide +kernel
theorem dX0_notShut_23 : decode cX0_notShut 23 = .ok (.ior, 1) := by decide +kernel
theorem dX0_notShut_24 : decode cX0_notShut 24 = .ok (.istore_n 1, 1) := by decide +kernel
theorem dX0_notShut_25 : decode cX0_notShut 25 = .ok (.iinc 2 1, 3) := by decide +kernel
theorem dX0_notShut_28 : decode cX0_notShut 28 = .ok (.goto (-24), 3) := by decide +kernel
theorem dX0_notShut_31 : decode cX0_notShut 31 = .ok (.iload_n 1, 1) := by decide +kernel
theorem dX0_notShut_32 : decode cX0_notShut 32 = .ok (.ireturn, 1) := by decide +kernel
theorem dX0_allBeasts_0 : decode cX0_allBeasts 0 = .ok (.iconst 0, 1) := by decide +kernel
theorem dX0_allBeasts_1 : decode cX0_allBeasts 1 = .ok (.istore_n 1, 1) := by decide +kernel
theorem dX0_allBeasts_2 : decode cX0_allBeasts 2 = .ok (.iconst 0, 1) := by decide +kernel
theorem dX0_allBeasts_3 : decode cX0_allBeasts 3 = .ok (.istore_n 2, 1) := by decide +kernel
theorem dX0_allBeasts_4 : decode cX0_allBeasts 4 = .ok (.iload_n 2, 1) := by decide +kernel
theorem dX0_allBeasts_5 : decode cX0_allBeasts 5 = .ok (.bipush 9, 2) := by decide +kernel
theorem dX0_allBeasts_7 : decode cX0_allBeasts 7 = .ok (.if_icmp .ge 18, 3) := by decide +kernel
theorem dX0_allBeasts_10 : decode cX0_allBeasts 10 = .ok (.iload_n 1, 1) := by decide +kernel
theorem dX0_allBeasts_11 : decode cX0_allBeasts 11 = .ok (.aload_n 0, 1) := by decide +kernel
theorem dX0_allBeasts_12 : decode cX0_allBeasts 12 = .ok (.getfield 9, 3) := by decide +kernel
theorem dX0_allBeasts_15 : decode cX0_allBeasts 15 = .ok (.iload_n 2, 1) := by decide +kernel
theorem dX0_allBeasts_16 : decode cX0_allBeasts 16 = .ok (.iaload, 1) := by decide +kernel
theorem dX0_allBeasts_17 : decode cX0_allBeasts 17 = .ok (.iadd, 1) := by decide +kernel
theorem dX0_allBeasts_18 : decode cX0_allBeasts 18 = .ok (.istore_n 1, 1) := by decide +kernel
theorem dX0_allBeasts_19 : decode cX0_allBeasts 19 = .ok (.iinc 2 1, 3) := by decide +kernel
theorem dX0_allBeasts_22 : decode cX0_allBeasts 22 = .ok (.goto (-18), 3) := by decide +kernel
theorem dX0_allBeasts_25 : decode cX0_allBeasts 25 = .ok (.iload_n 1, 1) := by decide +kernel
theorem dX0_allBeasts_26 : decode cX0_allBeasts 26 = .ok (.ireturn, 1) := by decide +kernel
theorem dX0_allPassed_0 : decode cX0_allPassed 0 = .ok (.iconst 0, 1) := by decide +kernel
theorem dX0_allPassed_1 : decode cX0_allPassed 1 = .ok (.istore_n 1, 1) := by decide +kernel
theorem dX0_allPassed_2 : decode cX0_allPassed 2 = .ok (.iconst 0, 1) := by decide +kernel
theorem dX0_allPassed_3 : decode cX0_allPassed 3 = .ok (.istore_n 2, 1) := by decide +kernel
theorem dX0_allPassed_4 : decode cX0_allPassed 4 = .ok (.iload_n 2, 1) := by decide +kernel
theorem dX0_allPassed_5 : decode cX0_allPassed 5 = .ok (.aload_n 0, 1) := by decide +kernel
theorem dX0_allPassed_6 : decode cX0_allPassed 6 = .ok (.getfield 26, 3) := by decide +kernel
theorem dX0_allPassed_9 : decode cX0_allPassed 9 = .ok (.if_icmp .ge 20, 3) := by decide +kernel
theorem dX0_allPassed_12 : decode cX0_allPassed 12 = .ok (.iload_n 1, 1) := by decide +kernel
theorem dX0_allPassed_13 : decode cX0_allPassed 13 = .ok (.aload_n 0, 1) := by decide +kernel
theorem dX0_allPassed_14 : decode cX0_allPassed 14 = .ok (.getfield 20, 3) := by decide +kernel
theorem dX0_allPassed_17 : decode cX0_allPassed 17 = .ok (.iconst 4, 1) := by decide +kernel
theorem dX0_allPassed_18 : decode cX0_allPassed 18 = .ok (.aaload, 1) := by decide +kernel
theorem dX0_allPassed_19 : decode cX0_allPassed 19 = .ok (.iload_n 2, 1) := by decide +kernel
theorem dX0_allPassed_20 : decode cX0_allPassed 20 = .ok (.iaload, 1) := by decide +kernel
theorem dX0_allPassed_21 : decode cX0_allPassed 21 = .ok (.iadd, 1) := by decide +kernel
theorem dX0_allPassed_22 : decode cX0_allPassed 22 = .ok (.istore_n 1, 1) := by decide +kernel
theorem dX0_allPassed_23 : decode cX0_allPassed 23 = .ok (.iinc 2 1, 3) := by decide +kernel
theorem dX0_allPassed_26 : decode cX0_allPassed 26 = .ok (.goto (-22), 3) := by decide +kernel
theorem dX0_allPassed_29 : decode cX0_allPassed 29 = .ok (.iload_n 1, 1) := by decide +kernel
theorem dX0_allPassed_30 : decode cX0_allPassed 30 = .ok (.ireturn, 1) := by decide +kernel
theorem dX0_fullestField_0 : decode cX0_fullestField 0 = .ok (.iconst 0, 1) := by decide +kernel
theorem dX0_fullestField_1 : decode cX0_fullestField 1 = .ok (.istore_n 1, 1) := by decide +kernel
theorem dX0_fullestField_2 : decode cX0_fullestField 2 = .ok (.iconst 1, 1) := by decide +kernel
theorem dX0_fullestField_3 : decode cX0_fullestField 3 = .ok (.istore_n 2, 1) := by decide +kernel
theorem dX0_fullestField_4 : decode cX0_fullestField 4 = .ok (.iload_n 2, 1) := by decide +kernel
theorem dX0_fullestField_5 : decode cX0_fullestField 5 = .ok (.bipush 9, 2) := by decide +kernel
theorem dX0_fullestField_7 : decode cX0_fullestField 7 = .ok (.if_icmp .ge 26, 3) := by decide +kernel
theorem dX0_fullestField_10 : decode cX0_fullestField 10 = .ok (.aload_n 0, 1) := by decide +kernel
theorem dX0_fullestField_11 : decode cX0_fullestField 11 = .ok (.getfield 9, 3) := by decide +kernel
theorem dX0_fullestField_14 : decode cX0_fullestField 14 = .ok (.iload_n 2, 1) := by decide +kernel
theorem dX0_fullestField_15 : decode cX0_fullestField 15 = .ok (.iaload, 1) := by decide +kernel
theorem dX0_fullestField_16 : decode cX0_fullestField 16 = .ok (.aload_n 0, 1) := by decide +kernel
theorem dX0_fullestField_17 : decode cX0_fullestField 17 = .ok (.getfield 9, 3) := by decide +kernel
theorem dX0_fullestField_20 : decode cX0_fullestField 20 = .ok (.iload_n 1, 1) := by decide +kernel
theorem dX0_fullestField_21 : decode cX0_fullestField 21 = .ok (.iaload, 1) := by decide +kernel
theorem dX0_fullestField_22 : decode cX0_fullestField 22 = .ok (.if_icmp .le 5, 3) := by decide +kernel
theorem dX0_fullestField_25 : decode cX0_fullestField 25 = .ok (.iload_n 2, 1) := by decide +kernel
theorem dX0_fullestField_26 : decode cX0_fullestField 26 = .ok (.istore_n 1, 1) := by decide +kernel
theorem dX0_fullestField_27 : decode cX0_fullestField 27 = .ok (.iinc 2 1, 3) := by decide +kernel
theorem dX0_fullestField_30 : decode cX0_fullestField 30 = .ok (.goto (-26), 3) := by decide +kernel
theorem dX0_fullestField_33 : decode cX0_fullestField 33 = .ok (.iload_n 1, 1) := by decide +kernel
theorem dX0_fullestField_34 : decode cX0_fullestField 34 = .ok (.ireturn, 1) := by decide +kernel
theorem dX0_spotsInUse_0 : decode cX0_spotsInUse 0 = .ok (.iconst 0, 1) := by decide +kernel
theorem dX0_spotsInUse_1 : decode cX0_spotsInUse 1 = .ok (.istore_n 1, 1) := by decide +kernel
theorem dX0_spotsInUse_2 : decode cX0_spotsInUse 2 = .ok (.iconst 0, 1) := by decide +kernel
theorem dX0_spotsInUse_3 : decode cX0_spotsInUse 3 = .ok (.istore_n 2, 1) := by decide +kernel
theorem dX0_spotsInUse_4 : decode cX0_spotsInUse 4 = .ok (.iload_n 2, 1) := by decide +kernel
theorem dX0_spotsInUse_5 : decode cX0_spotsInUse 5 = .ok (.bipush 10, 2) := by decide +kernel
theorem dX0_spotsInUse_7 : decode cX0_spotsInUse 7 = .ok (.if_icmp .ge 22, 3) := by decide +kernel
theorem dX0_spotsInUse_10 : decode cX0_spotsInUse 10 = .ok (.aload_n 0, 1) := by decide +kernel
theorem dX0_spotsInUse_11 : decode cX0_spotsInUse 11 = .ok (.getfield 23, 3) := by decide +kernel
theorem dX0_spotsInUse_14 : decode cX0_spotsInUse 14 = .ok (.iload_n 2, 1) := by decide +kernel
theorem dX0_spotsInUse_15 : decode cX0_spotsInUse 15 = .ok (.iaload, 1) := by decide +kernel
theorem dX0_spotsInUse_16 : decode cX0_spotsInUse 16 = .ok (.iconst (-1), 1) := by decide +kernel
theorem dX0_spotsInUse_17 : decode cX0_spotsInUse 17 = .ok (.if_icmp .eq 6, 3) := by decide +kernel
theorem dX0_spotsInUse_20 : decode cX0_spotsInUse 20 = .ok (.iinc 1 1, 3) := by decide +kernel
theorem dX0_spotsInUse_23 : decode cX0_spotsInUse 23 = .ok (.iinc 2 1, 3) := by decide +kernel
theorem dX0_spotsInUse_26 : decode cX0_spotsInUse 26 = .ok (.goto (-22), 3) := by decide +kernel
theorem dX0_spotsInUse_29 : decode cX0_spotsInUse 29 = .ok (.iload_n 1, 1) := by decide +kernel
theorem dX0_spotsInUse_30 : decode cX0_spotsInUse 30 = .ok (.ireturn, 1) := by decide +kernel
theorem dX1_init_0 : decode cX1_init 0 = .ok (.aload_n 0, 1) := by decide +kernel
theorem dX1_init_1 : decode cX1_init 1 = .ok (.invokespecial 3, 3) := by decide +kernel
theorem dX1_init_4 : decode cX1_init 4 = .ok (.aload_n 0, 1) := by decide +kernel
theorem dX1_init_5 : decode cX1_init 5 = .ok (.bipush 40, 2) := by decide +kernel
theorem dX1_init_7 : decode cX1_init 7 = .ok (.newarray .int, 2) := by decide +kernel
theorem dX1_init_9 : decode cX1_init 9 = .ok (.putfield 9, 3) := by decide +kernel
theorem dX1_init_12 : decode cX1_init 12 = .ok (.aload_n 0, 1) := by decide +kernel
theorem dX1_init_13 : decode cX1_init 13 = .ok (.iconst 0, 1) := by decide +kernel
theorem dX1_init_14 : decode cX1_init 14 = .ok (.putfield 15, 3) := by decide +kernel
theorem dX1_init_17 : decode cX1_init 17 = .ok (.aload_n 0, 1) := by decide +kernel
theorem dX1_init_18 : decode cX1_init 18 = .ok (.iconst 0, 1) := by decide +kernel
theorem dX1_init_19 : decode cX1_init 19 = .ok (.putfield 19, 3) := by decide +kernel
theorem dX1_init_22 : decode cX1_init 22 = .ok (.return_, 1) := by decide +kernel
theorem dX1_isMissing_0 : decode cX1_isMissing 0 = .ok (.aload_n 0, 1) := by decide +kernel
theorem dX1_isMissing_1 : decode cX1_isMissing 1 = .ok (.getfield 15, 3) := by decide +kernel
theorem dX1_isMissing_4 : decode cX1_isMissing 4 = .ok (.ifCond .ne 7, 3) := by decide +kernel
theorem dX1_isMissing_7 : decode cX1_isMissing 7 = .ok (.iconst 1, 1) := by decide +kernel
theorem dX1_isMissing_8 : decode cX1_isMissing 8 = .ok (.goto 4, 3) := by decide +kernel
theorem dX1_isMissing_11 : decode cX1_isMissing 11 = .ok (.iconst 0, 1) := by decide +kernel
theorem dX1_isMissing_12 : decode cX1_isMissing 12 = .ok (.ireturn, 1) := by decide +kernel
theorem dX1_clear_0 : decode cX1_clear 0 = .ok (.aload_n 0, 1) := by decide +kernel
theorem dX1_clear_1 : decode cX1_clear 1 = .ok (.iload_n 1, 1) := by decide +kernel
theorem dX1_clear_2 : decode cX1_clear 2 = .ok (.putfield 15, 3) := by decide +kernel
theorem dX1_clear_5 : decode cX1_clear 5 = .ok (.aload_n 0, 1) := by decide +kernel
theorem dX1_clear_6 : decode cX1_clear 6 = .ok (.iload_n 2, 1) := by decide +kernel
theorem dX1_clear_7 : decode cX1_clear 7 = .ok (.putfield 19, 3) := by decide +kernel
theorem dX1_clear_10 : decode cX1_clear 10 = .ok (.iconst 0, 1) := by decide +kernel
theorem dX1_clear_11 : decode cX1_clear 11 = .ok (.istore_n 3, 1) := by decide +kernel
theorem dX1_clear_12 : decode cX1_clear 12 = .ok (.iload_n 3, 1) := by decide +kernel
theorem dX1_clear_13 : decode cX1_clear 13 = .ok (.bipush 40, 2) := by decide +kernel
theorem dX1_clear_15 : decode cX1_clear 15 = .ok (.if_icmp .ge 16, 3) := by decide +kernel
theorem dX1_clear_18 : decode cX1_clear 18 = .ok (.aload_n 0, 1) := by decide +kernel
theorem dX1_clear_19 : decode cX1_clear 19 = .ok (.getfield 9, 3) := by decide +kernel
theorem dX1_clear_22 : decode cX1_clear 22 = .ok (.iload_n 3, 1) := by decide +kernel
theorem dX1_clear_23 : decode cX1_clear 23 = .ok (.iconst 0, 1) := by decide +kernel
theorem dX1_clear_24 : decode cX1_clear 24 = .ok (.iastore, 1) := by decide +kernel
theorem dX1_clear_25 : decode cX1_clear 25 = .ok (.iinc 3 1, 3) := by decide +kernel
theorem dX1_clear_28 : decode cX1_clear 28 = .ok (.goto (-16), 3) := by decide +kernel
theorem dX1_clear_31 : decode cX1_clear 31 = .ok (.return_, 1) := by decide +kernel
theorem dX1_put_0 : decode cX1_put 0 = .ok (.aload_n 0, 1) := by decide +kernel
theorem dX1_put_1 : decode cX1_put 1 = .ok (.getfield 15, 3) := by decide +kernel
theorem dX1_put_4 : decode cX1_put 4 = .ok (.bipush 8, 2) := by decide +kernel
theorem dX1_put_6 : decode cX1_put 6 = .ok (.if_icmp .ne 14, 3) := by decide +kernel
theorem dX1_put_9 : decode cX1_put 9 = .ok (.aload_n 0, 1) := by decide +kernel
theorem dX1_put_10 : decode cX1_put 10 = .ok (.getfield 9, 3) := by decide +kernel
theorem dX1_put_13 : decode cX1_put 13 = .ok (.iload_n 1, 1) := by decide +kernel
theorem dX1_put_14 : decode cX1_put 14 = .ok (.iload_n 2, 1) := by decide +kernel
theorem dX1_put_15 : decode cX1_put 15 = .ok (.i2b, 1) := by decide +kernel
theorem dX1_put_16 : decode cX1_put 16 = .ok (.iastore, 1) := by decide +kernel
theorem dX1_put_17 : decode cX1_put 17 = .ok (.goto 30, 3) := by decide +kernel
theorem dX1_put_20 : decode cX1_put 20 = .ok (.aload_n 0, 1) := by decide +kernel
theorem dX1_put_21 : decode cX1_put 21 = .ok (.getfield 15, 3) := by decide +kernel
theorem dX1_put_24 : decode cX1_put 24 = .ok (.bipush 16, 2) := by decide +kernel
theorem dX1_put_26 : decode cX1_put 26 = .ok (.if_icmp .ne 14, 3) := by decide +kernel
theorem dX1_put_29 : decode cX1_put 29 = .ok (.aload_n 0, 1) := by decide +kernel
theorem dX1_put_30 : decode cX1_put 30 = .ok (.getfield 9, 3) := by decide +kernel
theorem dX1_put_33 : decode cX1_put 33 = .ok (.iload_n 1, 1) := by decide +kernel
theorem dX1_put_34 : decode cX1_put 34 = .ok (.iload_n 2, 1) := by decide +kernel
theorem dX1_put_35 : decode cX1_put 35 = .ok (.i2s, 1) := by decide +kernel
theorem dX1_put_36 : decode cX1_put 36 = .ok (.iastore, 1) := by decide +kernel
theorem dX1_put_37 : decode cX1_put 37 = .ok (.goto 10, 3) := by decide +kernel
theorem dX1_put_40 : decode cX1_put 40 = .ok (.aload_n 0, 1) := by decide +kernel
theorem dX1_put_41 : decode cX1_put 41 = .ok (.getfield 9, 3) := by decide +kernel
theorem dX1_put_44 : decode cX1_put 44 = .ok (.iload_n 1, 1) := by decide +kernel
theorem dX1_put_45 : decode cX1_put 45 = .ok (.iload_n 2, 1) := by decide +kernel
theorem dX1_put_46 : decode cX1_put 46 = .ok (.iastore, 1) := by decide +kernel
theorem dX1_put_47 : decode cX1_put 47 = .ok (.return_, 1) := by decide +kernel
theorem dX1_hasRow_0 : decode cX1_hasRow 0 = .ok (.iload_n 1, 1) := by decide +kernel
theorem dX1_hasRow_1 : decode cX1_hasRow 1 = .ok (.ifCond .lt 29, 3) := by decide +kernel
theorem dX1_hasRow_4 : decode cX1_hasRow 4 = .ok (.iload_n 2, 1) := by decide +kernel
theorem dX1_hasRow_5 : decode cX1_hasRow 5 = .ok (.ifCond .lt 25, 3) := by decide +kernel
theorem dX1_hasRow_8 : decode cX1_hasRow 8 = .ok (.iload_n 2, 1) := by decide +kernel
theorem dX1_hasRow_9 : decode cX1_hasRow 9 = .ok (.aload_n 0, 1) := by decide +kernel
theorem dX1_hasRow_10 : decode cX1_hasRow 10 = .ok (.getfield 19, 3) := by decide +kernel
theorem dX1_hasRow_13 : decode cX1_hasRow 13 = .ok (.if_icmp .gt 17, 3) := by decide +kernel
theorem dX1_hasRow_16 : decode cX1_hasRow 16 = .ok (.iload_n 1, 1) := by decide +kernel
theorem dX1_hasRow_17 : decode cX1_hasRow 17 = .ok (.aload_n 0, 1) := by decide +kernel
theorem dX1_hasRow_18 : decode cX1_hasRow 18 = .ok (.getfield 19, 3) := by decide +kernel
theorem dX1_hasRow_21 : decode cX1_hasRow 21 = .ok (.iload_n 2, 1) := by decide +kernel
theorem dX1_hasRow_22 : decode cX1_hasRow 22 = .ok (.isub, 1) := by decide +kernel
theorem dX1_hasRow_23 : decode cX1_hasRow 23 = .ok (.if_icmp .gt 7, 3) := by decide +kernel
theorem dX1_hasRow_26 : decode cX1_hasRow 26 = .ok (.iconst 1, 1) := by decide +kernel
theorem dX1_hasRow_27 : decode cX1_hasRow 27 = .ok (.goto 4, 3) := by decide +kernel
theorem dX1_hasRow_30 : decode cX1_hasRow 30 = .ok (.iconst 0, 1) := by decide +kernel
theorem dX1_hasRow_31 : decode cX1_hasRow 31 = .ok (.ireturn, 1) := by decide +kernel
theorem dX2_init_0 : decode cX2_init 0 = .ok (.aload_n 0, 1) := by decide +kernel
theorem dX2_init_1 : decode cX2_init 1 = .ok (.invokespecial 3, 3) := by decide +kernel
theorem dX2_init_4 : decode cX2_init 4 = .ok (.aload_n 0, 1) := by decide +kernel
theorem dX2_init_5 : decode cX2_init 5 = .ok (.bipush 120, 2) := by decide +kernel
theorem dX2_init_7 : decode cX2_init 7 = .ok (.newarray .byte, 2) := by decide +kernel
theorem dX2_init_9 : decode cX2_init 9 = .ok (.putfield 9, 3) := by decide +kernel
theorem dX2_init_12 : decode cX2_init 12 = .ok (.aload_n 0, 1) := by decide +kernel
theorem dX2_init_13 : decode cX2_init 13 = .ok (.iconst 0, 1) := by decide +kernel
theorem dX2_init_14 : decode cX2_init 14 = .ok (.putfield 15, 3) := by decide +kernel
theorem dX2_init_17 : decode cX2_init 17 = .ok (.aload_n 0, 1) := by decide +kernel
theorem dX2_init_18 : decode cX2_init 18 = .ok (.ldc 19, 2) := by decide +kernel
theorem dX2_init_20 : decode cX2_init 20 = .ok (.invokevirtual 21, 3) := by decide +kernel
theorem dX2_init_23 : decode cX2_init 23 = .ok (.putfield 27, 3) := by decide +kernel
theorem dX2_init_26 : decode cX2_init 26 = .ok (.aload_n 0, 1) := by decide +kernel
theorem dX2_init_27 : decode cX2_init 27 = .ok (.bipush 121, 2) := by decide +kernel
theorem dX2_init_29 : decode cX2_init 29 = .ok (.newarray .int, 2) := by decide +kernel
theorem dX2_init_31 : decode cX2_init 31 = .ok (.putfield 31, 3) := by decide +kernel
theorem dX2_init_34 : decode cX2_init 34 = .ok (.aload_n 0, 1) := by decide +kernel
theorem dX2_init_35 : decode cX2_init 35 = .ok (.bipush 121, 2) := by decide +kernel
theorem dX2_init_37 : decode cX2_init 37 = .ok (.newarray .int, 2) := by decide +kernel
theorem dX2_init_39 : decode cX2_init 39 = .ok (.putfield 35, 3) := by decide +kernel
theorem dX2_init_42 : decode cX2_init 42 = .ok (.aload_n 0, 1) := by decide +kernel
theorem dX2_init_43 : decode cX2_init 43 = .ok (.bipush 121, 2) := by decide +kernel
theorem dX2_init_45 : decode cX2_init 45 = .ok (.newarray .int, 2) := by decide +kernel
theorem dX2_init_47 : decode cX2_init 47 = .ok (.putfield 38, 3) := by decide +kernel
theorem dX2_init_50 : decode cX2_init 50 = .ok (.aload_n 0, 1) := by decide +kernel
theorem dX2_init_51 : decode cX2_init 51 = .ok (.iconst 0, 1) := by decide +kernel
theorem dX2_init_52 : decode cX2_init 52 = .ok (.putfield 41, 3) := by decide +kernel
theorem dX2_init_55 : decode cX2_init 55 = .ok (.return_, 1) := by decide +kernel
theorem dX2_put_0 : decode cX2_put 0 = .ok (.aload_n 0, 1) := by decide +kernel
theorem dX2_put_1 : decode cX2_put 1 = .ok (.getfield 15, 3) := by decide +kernel
theorem dX2_put_4 : decode cX2_put 4 = .ok (.bipush 120, 2) := by decide +kernel
theorem dX2_put_6 : decode cX2_put 6 = .ok (.if_icmp .ge 24, 3) := by decide +kernel
theorem dX2_put_9 : decode cX2_put 9 = .ok (.aload_n 0, 1) := by decide +kernel
theorem dX2_put_10 : decode cX2_put 10 = .ok (.getfield 9, 3) := by decide +kernel
theorem dX2_put_13 : decode cX2_put 13 = .ok (.aload_n 0, 1) := by decide +kernel
theorem dX2_put_14 : decode cX2_put 14 = .ok (.getfield 15, 3) := by decide +kernel
theorem dX2_put_17 : decode cX2_put 17 = .ok (.iload_n 1, 1) := by decide +kernel
theorem dX2_put_18 : decode cX2_put 18 = .ok (.i2b, 1) := by decide +kernel
theorem dX2_put_19 : decode cX2_put 19 = .ok (.bastore, 1) := by decide +kernel
theorem dX2_put_20 : decode cX2_put 20 = .ok (.aload_n 0, 1) := by decide +kernel
theorem dX2_put_21 : decode cX2_put 21 = .ok (.dup, 1) := by decide +kernel
theorem dX2_put_22 : decode cX2_put 22 = .ok (.getfield 15, 3) := by decide +kernel
theorem dX2_put_25 : decode cX2_put 25 = .ok (.iconst 1, 1) := by decide +kernel
theorem dX2_put_26 : decode cX2_put 26 = .ok (.iadd, 1) := by decide +kernel
theorem dX2_put_27 : decode cX2_put 27 = .ok (.putfield 15, 3) := by decide +kernel
theorem dX2_put_30 : decode cX2_put 30 = .ok (.return_, 1) := by decide +kernel
theorem dX2_tellTo_0 : decode cX2_tellTo 0 = .ok (.aload_n 0, 1) := by decide +kernel
theorem dX2_tellTo_1 : decode cX2_tellTo 1 = .ok (.invokevirtual 44, 3) := by decide +kernel
theorem dX2_tellTo_4 : decode cX2_tellTo 4 = .ok (.aload_n 0, 1) := by decide +kernel
theorem dX2_tellTo_5 : decode cX2_tellTo 5 = .ok (.iconst 0, 1) := by decide +kernel
theorem dX2_tellTo_6 : decode cX2_tellTo 6 = .ok (.putfield 41, 3) := by decide +kernel
theorem dX2_tellTo_9 : decode cX2_tellTo 9 = .ok (.iconst 1, 1) := by decide +kernel
theorem dX2_tellTo_10 : decode cX2_tellTo 10 = .ok (.istore_n 2, 1) := by decide +kernel
theorem dX2_tellTo_11 : decode cX2_tellTo 11 = .ok (.iload_n 2, 1) := by decide +kernel
theorem dX2_tellTo_12 : decode cX2_tellTo 12 = .ok (.bipush 120, 2) := by decide +kernel
theorem dX2_tellTo_14 : decode cX2_tellTo 14 = .ok (.if_icmp .gt 61, 3) := by decide +kernel
theorem dX2_tellTo_17 : decode cX2_tellTo 17 = .ok (.aload_n 0, 1) := by decide +kernel
theorem dX2_tellTo_18 : decode cX2_tellTo 18 = .ok (.aload_n 1, 1) := by decide +kernel
theorem dX2_tellTo_19 : decode cX2_tellTo 19 = .ok (.invokevirtual 47, 3) := by decide +kernel
theorem dX2_tellTo_22 : decode cX2_tellTo 22 = .ok (.ifCond .ne 6, 3) := by decide +kernel
theorem dX2_tellTo_25 : decode cX2_tellTo 25 = .ok (.goto 50, 3) := by decide +kernel
theorem dX2_tellTo_28 : decode cX2_tellTo 28 = .ok (.aload_n 0, 1) := by decide +kernel
theorem dX2_tellTo_29 : decode cX2_tellTo 29 = .ok (.getfield 31, 3) := by decide +kernel
theorem dX2_tellTo_32 : decode cX2_tellTo 32 = .ok (.aload_n 0, 1) := by decide +kernel
theorem dX2_tellTo_33 : decode cX2_tellTo 33 = .ok (.getfield 41, 3) := by decide +kernel
theorem dX2_tellTo_36 : decode cX2_tellTo 36 = .ok (.iaload, 1) := by decide +kernel
theorem dX2_tellTo_37 : decode cX2_tellTo 37 = .ok (.iconst 5, 1) := by decide +kernel
theorem dX2_tellTo_38 : decode cX2_tellTo 38 = .ok (.if_icmp .ne 5, 3) := by decide +kernel
theorem dX2_tellTo_41 : decode cX2_tellTo 41 = .ok (.iload_n 2, 1) := by decide +kernel
theorem dX2_tellTo_42 : decode cX2_tellTo 42 = .ok (.ireturn, 1) := by decide +kernel
theorem dX2_tellTo_43 : decode cX2_tellTo 43 = .ok (.aload_n 0, 1) := by decide +kernel
theorem dX2_tellTo_44 : decode cX2_tellTo 44 = .ok (.getfield 31, 3) := by decide +kernel
theorem dX2_tellTo_47 : decode cX2_tellTo 47 = .ok (.aload_n 0, 1) := by decide +kernel
theorem dX2_tellTo_48 : decode cX2_tellTo 48 = .ok (.getfield 41, 3) := by decide +kernel
theorem dX2_tellTo_51 : decode cX2_tellTo 51 = .ok (.iaload, 1) := by decide +kernel
theorem dX2_tellTo_52 : decode cX2_tellTo 52 = .ok (.iconst 2, 1) := by decide +kernel
theorem dX2_tellTo_53 : decode cX2_tellTo 53 = .ok (.if_icmp .eq 6, 3) := by decide +kernel
theorem dX2_tellTo_56 : decode cX2_tellTo 56 = .ok (.goto 19, 3) := by decide +kernel
theorem dX2_tellTo_59 : decode cX2_tellTo 59 = .ok (.aload_n 0, 1) := by decide +kernel
theorem dX2_tellTo_60 : decode cX2_tellTo 60 = .ok (.dup, 1) := by decide +kernel
theorem dX2_tellTo_61 : decode cX2_tellTo 61 = .ok (.getfield 41, 3) := by decide +kernel
theorem dX2_tellTo_64 : decode cX2_tellTo 64 = .ok (.iconst 1, 1) := by decide +kernel
theorem dX2_tellTo_65 : decode cX2_tellTo 65 = .ok (.iadd, 1) := by decide +kernel
theorem dX2_tellTo_66 : decode cX2_tellTo 66 = .ok (.putfield 41, 3) := by decide +kernel
theorem dX2_tellTo_69 : decode cX2_tellTo 69 = .ok (.iinc 2 1, 3) := by decide +kernel
theorem dX2_tellTo_72 : decode cX2_tellTo 72 = .ok (.goto (-61), 3) := by decide +kernel
theorem dX2_tellTo_75 : decode cX2_tellTo 75 = .ok (.iconst (-1), 1) := by decide +kernel
theorem dX2_tellTo_76 : decode cX2_tellTo 76 = .ok (.aload_n 0, 1) := by decide +kernel
theorem dX2_tellTo_77 : decode cX2_tellTo 77 = .ok (.getfield 35, 3) := by decide +kernel
theorem dX2_tellTo_80 : decode cX2_tellTo 80 = .ok (.aload_n 0, 1) := by decide +kernel
theorem dX2_tellTo_81 : decode cX2_tellTo 81 = .ok (.getfield 41, 3) := by decide +kernel
theorem dX2_tellTo_84 : decode cX2_tellTo 84 = .ok (.iaload, 1) := by decide +kernel
theorem dX2_tellTo_85 : decode cX2_tellTo 85 = .ok (.isub, 1) := by decide +kernel
theorem dX2_tellTo_86 : decode cX2_tellTo 86 = .ok (.ireturn, 1) := by decide +kernel
theorem dX2_split_0 : decode cX2_split 0 = .ok (.iconst 0, 1) := by decide +kernel
theorem dX2_split_1 : decode cX2_split 1 = .ok (.istore_n 1, 1) := by decide +kernel
theorem dX2_split_2 : decode cX2_split 2 = .ok (.iconst 3, 1) := by decide +kernel
theorem dX2_split_3 : decode cX2_split 3 = .ok (.istore_n 2, 1) := by decide +kernel
theorem dX2_split_4 : decode cX2_split 4 = .ok (.iconst 0, 1) := by decide +kernel
theorem dX2_split_5 : decode cX2_split 5 = .ok (.istore_n 3, 1) := by decide +kernel
theorem dX2_split_6 : decode cX2_split 6 = .ok (.iload_n 3, 1) := by decide +kernel
theorem dX2_split_7 : decode cX2_split 7 = .ok (.aload_n 0, 1) := by decide +kernel
theorem dX2_split_8 : decode cX2_split 8 = .ok (.getfield 15, 3) := by decide +kernel
theorem dX2_split_11 : decode cX2_split 11 = .ok (.if_icmp .ge 76, 3) := by decide +kernel
theorem dX2_split_14 : decode cX2_split 14 = .ok (.aload_n 0, 1) := by decide +kernel
theorem dX2_split_15 : decode cX2_split 15 = .ok (.getfield 9, 3) := by decide +kernel
theorem dX2_split_18 : decode cX2_split 18 = .ok (.iload_n 3, 1) := by decide +kernel
theorem dX2_split_19 : decode cX2_split 19 = .ok (.baload, 1) := by decide +kernel
theorem dX2_split_20 : decode cX2_split 20 = .ok (.invokestatic 51, 3) := by decide +kernel
theorem dX2_split_23 : decode cX2_split 23 = .ok (.istore 4, 2) := by decide +kernel
theorem dX2_split_25 : decode cX2_split 25 = .ok (.iload 4, 2) := by decide +kernel
theorem dX2_split_27 : decode cX2_split 27 = .ok (.iload_n 2, 1) := by decide +kernel
theorem dX2_split_28 : decode cX2_split 28 = .ok (.if_icmp .ne 33, 3) := by decide +kernel
theorem dX2_split_31 : decode cX2_split 31 = .ok (.iload 4, 2) := by decide +kernel
theorem dX2_split_33 : decode cX2_split 33 = .ok (.ifCond .eq 9, 3) := by decide +kernel
theorem dX2_split_36 : decode cX2_split 36 = .ok (.iload 4, 2) := by decide +kernel
theorem dX2_split_38 : decode cX2_split 38 = .ok (.iconst 1, 1) := by decide +kernel
theorem dX2_split_39 : decode cX2_split 39 = .ok (.if_icmp .ne 22, 3) := by decide +kernel
theorem dX2_split_42 : decode cX2_split 42 = .ok (.iload_n 1, 1) := by decide +kernel
theorem dX2_split_43 : decode cX2_split 43 = .ok (.ifCond .le 18, 3) := by decide +kernel
theorem dX2_split_46 : decode cX2_split 46 = .ok (.aload_n 0, 1) := by decide +kernel
theorem dX2_split_47 : decode cX2_split 47 = .ok (.getfield 38, 3) := by decide +kernel
theorem dX2_split_50 : decode cX2_split 50 = .ok (.iload_n 1, 1) := by decide +kernel
theorem dX2_split_51 : decode cX2_split 51 = .ok (.iconst 1, 1) := by decide +kernel
theorem dX2_split_52 : decode cX2_split 52 = .ok (.isub, 1) := by decide +kernel
theorem dX2_split_53 : decode cX2_split 53 = .ok (.dup2, 1) := by decide +kernel
theorem dX2_split_54 : decode cX2_split 54 = .ok (.iaload, 1) := by decide +kernel
theorem dX2_split_55 : decode cX2_split 55 = .ok (.iconst 1, 1) := by decide +kernel
theorem dX2_split_56 : decode cX2_split 56 = .ok (.iadd, 1) := by decide +kernel
theorem dX2_split_57 : decode cX2_split 57 = .ok (.iastore, 1) := by decide +kernel
theorem dX2_split_58 : decode cX2_split 58 = .ok (.goto 20, 3) := by decide +kernel
theorem dX2_split_61 : decode cX2_split 61 = .ok (.iload 4, 2) := by decide +kernel
theorem dX2_split_63 : decode cX2_split 63 = .ok (.iconst 3, 1) := by decide +kernel
theorem dX2_split_64 : decode cX2_split 64 = .ok (.if_icmp .eq 14, 3) := by decide +kernel
theorem dX2_split_67 : decode cX2_split 67 = .ok (.aload_n 0, 1) := by decide +kernel
theorem dX2_split_68 : decode cX2_split 68 = .ok (.iload_n 1, 1) := by decide +kernel
theorem dX2_split_69 : decode cX2_split 69 = .ok (.iload 4, 2) := by decide +kernel
theorem dX2_split_71 : decode cX2_split 71 = .ok (.iload_n 3, 1) := by decide +kernel
theorem dX2_split_72 : decode cX2_split 72 = .ok (.invokevirtual 55, 3) := by decide +kernel
theorem dX2_split_75 : decode cX2_split 75 = .ok (.iinc 1 1, 3) := by decide +kernel
theorem dX2_split_78 : decode cX2_split 78 = .ok (.iload 4, 2) := by decide +kernel
theorem dX2_split_80 : decode cX2_split 80 = .ok (.istore_n 2, 1) := by decide +kernel
theorem dX2_split_81 : decode cX2_split 81 = .ok (.iinc 3 1, 3) := by decide +kernel
theorem dX2_split_84 : decode cX2_split 84 = .ok (.goto (-78), 3) := by decide +kernel
theorem dX2_split_87 : decode cX2_split 87 = .ok (.aload_n 0, 1) := by decide +kernel
theorem dX2_split_88 : decode cX2_split 88 = .ok (.iload_n 1, 1) := by decide +kernel
theorem dX2_split_89 : decode cX2_split 89 = .ok (.iconst 5, 1) := by decide +kernel
theorem dX2_split_90 : decode cX2_split 90 = .ok (.aload_n 0, 1) := by decide +kernel
theorem dX2_split_91 : decode cX2_split 91 = .ok (.getfield 15, 3) := by decide +kernel
theorem dX2_split_94 : decode cX2_split 94 = .ok (.invokevirtual 55, 3) := by decide +kernel
theorem dX2_split_97 : decode cX2_split 97 = .ok (.return_, 1) := by decide +kernel
theorem dX2_setToken_0 : decode cX2_setToken 0 = .ok (.aload_n 0, 1) := by decide +kernel
theorem dX2_setToken_1 : decode cX2_setToken 1 = .ok (.getfield 31, 3) := by decide +kernel
theorem dX2_setToken_4 : decode cX2_setToken 4 = .ok (.iload_n 1, 1) := by decide +kernel
theorem dX2_setToken_5 : decode cX2_setToken 5 = .ok (.iload_n 2, 1) := by decide +kernel
theorem dX2_setToken_6 : decode cX2_setToken 6 = .ok (.iastore, 1) := by decide +kernel
theorem dX2_setToken_7 : decode cX2_setToken 7 = .ok (.aload_n 0, 1) := by decide +kernel
theorem dX2_setToken_8 : decode cX2_setToken 8 = .ok (.getfield 35, 3) := by decide +kernel
theorem dX2_setToken_11 : decode cX2_setToken 11 = .ok (.iload_n 1, 1) := by decide +kernel
theorem dX2_setToken_12 : decode cX2_setToken 12 = .ok (.iload_n 3, 1) := by decide +kernel
theorem dX2_setToken_13 : decode cX2_setToken 13 = .ok (.iastore, 1) := by decide +kernel
theorem dX2_setToken_14 : decode cX2_setToken 14 = .ok (.aload_n 0, 1) := by decide +kernel
theorem dX2_setToken_15 : decode cX2_setToken 15 = .ok (.getfield 38, 3) := by decide +kernel
theorem dX2_setToken_18 : decode cX2_setToken 18 = .ok (.iload_n 1, 1) := by decide +kernel
theorem dX2_setToken_19 : decode cX2_setToken 19 = .ok (.iconst 1, 1) := by decide +kernel
theorem dX2_setToken_20 : decode cX2_setToken 20 = .ok (.iastore, 1) := by decide +kernel
theorem dX2_setToken_21 : decode cX2_setToken 21 = .ok (.return_, 1) := by decide +kernel
theorem dX2_sortOf_0 : decode cX2_sortOf 0 = .ok (.iload_n 0, 1) := by decide +kernel
theorem dX2_sortOf_1 : decode cX2_sortOf 1 = .ok (.bipush 97, 2) := by decide +kernel
theorem dX2_sortOf_3 : decode cX2_sortOf 3 = .ok (.if_icmp .lt 11, 3) := by decide +kernel
theorem dX2_sortOf_6 : decode cX2_sortOf 6 = .ok (.iload_n 0, 1) := by decide +kernel
theorem dX2_sortOf_7 : decode cX2_sortOf 7 = .ok (.bipush 122, 2) := by decide +kernel
theorem dX2_sortOf_9 : decode cX2_sortOf 9 = .ok (.if_icmp .gt 5, 3) := by decide +kernel
theorem dX2_sortOf_12 : decode cX2_sortOf 12 = .ok (.iconst 0, 1) := by decide +kernel
theorem dX2_sortOf_13 : decode cX2_sortOf 13 = .ok (.ireturn, 1) := by decide +kernel
theorem dX2_sortOf_14 : decode cX2_sortOf 14 = .ok (.iload_n 0, 1) := by decide +kernel
theorem dX2_sortOf_15 : decode cX2_sortOf 15 = .ok (.bipush 48, 2) := by decide +kernel
theorem dX2_sortOf_17 : decode cX2_sortOf 17 = .ok (.if_icmp .lt 11, 3) := by decide +kernel
theorem dX2_sortOf_20 : decode cX2_sortOf 20 = .ok (.iload_n 0, 1) := by decide +kernel
theorem dX2_sortOf_21 : decode cX2_sortOf 21 = .ok (.bipush 57, 2) := by decide +kernel
theorem dX2_sortOf_23 : decode cX2_sortOf 23 = .ok (.if_icmp .gt 5, 3) := by decide +kernel
theorem dX2_sortOf_26 : decode cX2_sortOf 26 = .ok (.iconst 1, 1) := by decide +kernel
theorem dX2_sortOf_27 : decode cX2_sortOf 27 = .ok (.ireturn, 1) := by decide +kernel
theorem dX2_sortOf_28 : decode cX2_sortOf 28 = .ok (.iload_n 0, 1) := by decide +kernel
theorem dX2_sortOf_29 : decode cX2_sortOf 29 = .ok (.bipush 59, 2) := by decide +kernel
theorem dX2_sortOf_31 : decode cX2_sortOf 31 = .ok (.if_icmp .ne 5, 3) := by decide +kernel
theorem dX2_sortOf_34 : decode cX2_sortOf 34 = .ok (.iconst 2, 1) := by decide +kernel
theorem dX2_sortOf_35 : decode cX2_sortOf 35 = .ok (.ireturn, 1) := by decide +kernel
theorem dX2_sortOf_36 : decode cX2_sortOf 36 = .ok (.iload_n 0, 1) := by decide +kernel
theorem dX2_sortOf_37 : decode cX2_sortOf 37 = .ok (.bipush 32, 2) := by decide +kernel
theorem dX2_sortOf_39 : decode cX2_sortOf 39 = .ok (.if_icmp .ne 7, 3) := by decide +kernel
theorem dX2_sortOf_42 : decode cX2_sortOf 42 = .ok (.iconst 3, 1) := by decide +kernel
theorem dX2_sortOf_43 : decode cX2_sortOf 43 = .ok (.goto 4, 3) := by decide +kernel
theorem dX2_sortOf_46 : decode cX2_sortOf 46 = .ok (.iconst 4, 1) := by decide +kernel
theorem dX2_sortOf_47 : decode cX2_sortOf 47 = .ok (.ireturn, 1) := by decide +kernel
theorem dX2_takeItem_0 : decode cX2_takeItem 0 = .ok (.aload_n 0, 1) := by decide +kernel
theorem dX2_takeItem_1 : decode cX2_takeItem 1 = .ok (.invokevirtual 59, 3) := by decide +kernel
theorem dX2_takeItem_4 : decode cX2_takeItem 4 = .ok (.istore_n 2, 1) := by decide +kernel
theorem dX2_takeItem_5 : decode cX2_takeItem 5 = .ok (.iload_n 2, 1) := by decide +kernel
theorem dX2_takeItem_6 : decode cX2_takeItem 6 = .ok (.ifCond .ge 5, 3) := by decide +kernel
theorem dX2_takeItem_9 : decode cX2_takeItem 9 = .ok (.iconst 0, 1) := by decide +kernel
theorem dX2_takeItem_10 : decode cX2_takeItem 10 = .ok (.ireturn, 1) := by decide +kernel
theorem dX2_takeItem_11 : decode cX2_takeItem 11 = .ok (.iload_n 2, 1) := by decide +kernel
theorem dX2_takeItem_12 : decode cX2_takeItem 12 = .ok (.bipush 7, 2) := by decide +kernel
theorem dX2_takeItem_14 : decode cX2_takeItem 14 = .ok (.if_icmp .ge 10, 3) := by decide +kernel
theorem dX2_takeItem_17 : decode cX2_takeItem 17 = .ok (.aload_n 0, 1) := by decide +kernel
theorem dX2_takeItem_18 : decode cX2_takeItem 18 = .ok (.aload_n 1, 1) := by decide +kernel
theorem dX2_takeItem_19 : decode cX2_takeItem 19 = .ok (.iload_n 2, 1) := by decide +kernel
theorem dX2_takeItem_20 : decode cX2_takeItem 20 = .ok (.invokevirtual 63, 3) := by decide +kernel
theorem dX2_takeItem_23 : decode cX2_takeItem 23 = .ok (.ireturn, 1) := by decide +kernel
theorem dX2_takeItem_24 : decode cX2_takeItem 24 = .ok (.iload_n 2, 1) := by decide +kernel
theorem dX2_takeItem_25 : decode cX2_takeItem 25 = .ok (.bipush 10, 2) := by decide +kernel
theorem dX2_takeItem_27 : decode cX2_takeItem 27 = .ok (.if_icmp .gt 13, 3) := by decide +kernel
theorem dX2_takeItem_30 : decode cX2_takeItem 30 = .ok (.aload_n 0, 1) := by decide +kernel
theorem dX2_takeItem_31 : decode cX2_takeItem 31 = .ok (.aload_n 1, 1) := by decide +kernel
theorem dX2_takeItem_32 : decode cX2_takeItem 32 = .ok (.iload_n 2, 1) := by decide +kernel
theorem dX2_takeItem_33 : decode cX2_takeItem 33 = .ok (.bipush 7, 2) := by decide +kernel
theorem dX2_takeItem_35 : decode cX2_takeItem 35 = .ok (.isub, 1) := by decide +kernel
theorem dX2_takeItem_36 : decode cX2_takeItem 36 = .ok (.invokevirtual 67, 3) := by decide +kernel
theorem dX2_takeItem_39 : decode cX2_takeItem 39 = .ok (.ireturn, 1) := by decide +kernel
theorem dX2_takeItem_40 : decode cX2_takeItem 40 = .ok (.iload_n 2, 1) := by decide +kernel
theorem dX2_takeItem_41 : decode cX2_takeItem 41 = .ok (.bipush 11, 2) := by decide +kernel
theorem dX2_takeItem_43 : decode cX2_takeItem 43 = .ok (.if_icmp .ne 9, 3) := by decide +kernel
theorem dX2_takeItem_46 : decode cX2_takeItem 46 = .ok (.aload_n 0, 1) := by decide +kernel
theorem dX2_takeItem_47 : decode cX2_takeItem 47 = .ok (.aload_n 1, 1) := by decide +kernel
theorem dX2_takeItem_48 : decode cX2_takeItem 48 = .ok (.invokevirtual 70, 3) := by decide +kernel
theorem dX2_takeItem_51 : decode cX2_takeItem 51 = .ok (.ireturn, 1) := by decide +kernel
theorem dX2_takeItem_52 : decode cX2_takeItem 52 = .ok (.iload_n 2, 1) := by decide +kernel
theorem dX2_takeItem_53 : decode cX2_takeItem 53 = .ok (.bipush 12, 2) := by decide +kernel
theorem dX2_takeItem_55 : decode cX2_takeItem 55 = .ok (.if_icmp .ne 15, 3) := by decide +kernel
theorem dX2_takeItem_58 : decode cX2_takeItem 58 = .ok (.aload_n 0, 1) := by decide +kernel
theorem dX2_takeItem_59 : decode cX2_takeItem 59 = .ok (.aload_n 1, 1) := by decide +kernel
theorem dX2_takeItem_60 : decode cX2_takeItem 60 = .ok (.invokevirtual 73, 3) := by decide +kernel
theorem dX2_takeItem_63 : decode cX2_takeItem 63 = .ok (.ifCond .eq 7, 3) := by decide +kernel
theorem dX2_takeItem_66 : decode cX2_takeItem 66 = .ok (.iconst 1, 1) := by decide +kernel
theorem dX2_takeItem_67 : decode cX2_takeItem 67 = .ok (.goto 4, 3) := by decide +kernel
theorem dX2_takeItem_70 : decode cX2_takeItem 70 = .ok (.iconst 0, 1) := by decide +kernel
theorem dX2_takeItem_71 : decode cX2_takeItem 71 = .ok (.ireturn, 1) := by decide +kernel
theorem dX2_takeWalker_0 : decode cX2_takeWalker 0 = .ok (.aload_n 1, 1) := by decide +kernel
theorem dX2_takeWalker_1 : decode cX2_takeWalker 1 = .ok (.iload_n 2, 1) := by decide +kernel
theorem dX2_takeWalker_2 : decode cX2_takeWalker 2 = .ok (.iconst 0, 1) := by decide +kernel
theorem dX2_takeWalker_3 : decode cX2_takeWalker 3 = .ok (.invokevirtual 76, 3) := by decide +kernel
theorem dX2_takeWalker_6 : decode cX2_takeWalker 6 = .ok (.istore_n 3, 1) := by decide +kernel
theorem dX2_takeWalker_7 : decode cX2_takeWalker 7 = .ok (.iload_n 3, 1) := by decide +kernel
theorem dX2_takeWalker_8 : decode cX2_takeWalker 8 = .ok (.ifCond .ge 5, 3) := by decide +kernel
theorem dX2_takeWalker_11 : decode cX2_takeWalker 11 = .ok (.iconst 0, 1) := by decide +kernel
theorem dX2_takeWalker_12 : decode cX2_takeWalker 12 = .ok (.ireturn, 1) := by decide +kernel
theorem dX2_takeWalker_13 : decode cX2_takeWalker 13 = .ok (.aload_n 0, 1) := by decide +kernel
theorem dX2_takeWalker_14 : decode cX2_takeWalker 14 = .ok (.dup, 1) := by decide +kernel
theorem dX2_takeWalker_15 : decode cX2_takeWalker 15 = .ok (.getfield 41, 3) := by decide +kernel
theorem dX2_takeWalker_18 : decode cX2_takeWalker 18 = .ok (.iconst 1, 1) := by decide +kernel
theorem dX2_takeWalker_19 : decode cX2_takeWalker 19 = .ok (.iadd, 1) := by decide +kernel
theorem dX2_takeWalker_20 : decode cX2_takeWalker 20 = .ok (.putfield 41, 3) := by decide +kernel
theorem dX2_takeWalker_23 : decode cX2_takeWalker 23 = .ok (.aload_n 0, 1) := by decide +kernel
theorem dX2_takeWalker_24 : decode cX2_takeWalker 24 = .ok (.bipush 13, 2) := by decide +kernel
theorem dX2_takeWalker_26 : decode cX2_takeWalker 26 = .ok (.invokevirtual 82, 3) := by decide +kernel
theorem dX2_takeWalker_29 : decode cX2_takeWalker 29 = .ok (.ifCond .eq 28, 3) := by decide +kernel
theorem dX2_takeWalker_32 : decode cX2_takeWalker 32 = .ok (.aload_n 0, 1) := by decide +kernel
theorem dX2_takeWalker_33 : decode cX2_takeWalker 33 = .ok (.bipush 8, 2) := by decide +kernel
theorem dX2_takeWalker_35 : decode cX2_takeWalker 35 = .ok (.invokevirtual 86, 3) := by decide +kernel
theorem dX2_takeWalker_38 : decode cX2_takeWalker 38 = .ok (.istore 4, 2) := by decide +kernel
theorem dX2_takeWalker_40 : decode cX2_takeWalker 40 = .ok (.iload 4, 2) := by decide +kernel
theorem dX2_takeWalker_42 : decode cX2_takeWalker 42 = .ok (.ifCond .ge 5, 3) := by decide +kernel
theorem dX2_takeWalker_45 : decode cX2_takeWalker 45 = .ok (.iconst 0, 1) := by decide +kernel
theorem dX2_takeWalker_46 : decode cX2_takeWalker 46 = .ok (.ireturn, 1) := by decide +kernel
theorem dX2_takeWalker_47 : decode cX2_takeWalker 47 = .ok (.aload_n 1, 1) := by decide +kernel
theorem dX2_takeWalker_48 : decode cX2_takeWalker 48 = .ok (.getfield 90, 3) := by decide +kernel
theorem dX2_takeWalker_51 : decode cX2_takeWalker 51 = .ok (.iconst 1, 1) := by decide +kernel
theorem dX2_takeWalker_52 : decode cX2_takeWalker 52 = .ok (.aaload, 1) := by decide +kernel
theorem dX2_takeWalker_53 : decode cX2_takeWalker 53 = .ok (.iload_n 3, 1) := by decide +kernel
theorem dX2_takeWalker_54 : decode cX2_takeWalker 54 = .ok (.iload 4, 2) := by decide +kernel
theorem dX2_takeWalker_56 : decode cX2_takeWalker 56 = .ok (.iastore, 1) := by decide +kernel
theorem dX2_takeWalker_57 : decode cX2_takeWalker 57 = .ok (.aload_n 0, 1) := by decide +kernel
theorem dX2_takeWalker_58 : decode cX2_takeWalker 58 = .ok (.bipush 14, 2) := by decide +kernel
theorem dX2_takeWalker_60 : decode cX2_takeWalker 60 = .ok (.invokevirtual 82, 3) := by decide +kernel
theorem dX2_takeWalker_63 : decode cX2_takeWalker 63 = .ok (.ifCond .eq 12, 3) := by decide +kernel
theorem dX2_takeWalker_66 : decode cX2_takeWalker 66 = .ok (.aload_n 1, 1) := by decide +kernel
theorem dX2_takeWalker_67 : decode cX2_takeWalker 67 = .ok (.getfield 90, 3) := by decide +kernel
theorem dX2_takeWalker_70 : decode cX2_takeWalker 70 = .ok (.iconst 2, 1) := by decide +kernel
theorem dX2_takeWalker_71 : decode cX2_takeWalker 71 = .ok (.aaload, 1) := by decide +kernel
theorem dX2_takeWalker_72 : decode cX2_takeWalker 72 = .ok (.iload_n 3, 1) := by decide +kernel
theorem dX2_takeWalker_73 : decode cX2_takeWalker 73 = .ok (.iconst 1, 1) := by decide +kernel
theorem dX2_takeWalker_74 : decode cX2_takeWalker 74 = .ok (.iastore, 1) := by decide +kernel
theorem dX2_takeWalker_75 : decode cX2_takeWalker 75 = .ok (.aload_n 0, 1) := by decide +kernel
theorem dX2_takeWalker_76 : decode cX2_takeWalker 76 = .ok (.bipush 15, 2) := by decide +kernel
theorem dX2_takeWalker_78 : decode cX2_takeWalker 78 = .ok (.invokevirtual 82, 3) := by decide +kernel
theorem dX2_takeWalker_81 : decode cX2_takeWalker 81 = .ok (.ifCond .eq 28, 3) := by decide +kernel
theorem dX2_takeWalker_84 : decode cX2_takeWalker 84 = .ok (.aload_n 0, 1) := by decide +kernel
theorem dX2_takeWalker_85 : decode cX2_takeWalker 85 = .ok (.bipush 9, 2) := by decide +kernel
theorem dX2_takeWalker_87 : decode cX2_takeWalker 87 = .ok (.invokevirtual 86, 3) := by decide +kernel
theorem dX2_takeWalker_90 : decode cX2_takeWalker 90 = .ok (.istore 4, 2) := by decide +kernel
theorem dX2_takeWalker_92 : decode cX2_takeWalker 92 = .ok (.iload 4, 2) := by decide +kernel
theorem dX2_takeWalker_94 : decode cX2_takeWalker 94 = .ok (.ifCond .ge 5, 3) := by decide +kernel
theorem dX2_takeWalker_97 : decode cX2_takeWalker 97 = .ok (.iconst 0, 1) := by decide +kernel
theorem dX2_takeWalker_98 : decode cX2_takeWalker 98 = .ok (.ireturn, 1) := by decide +kernel
theorem dX2_takeWalker_99 : decode cX2_takeWalker 99 = .ok (.aload_n 1, 1) := by decide +kernel
theorem dX2_takeWalker_100 : decode cX2_takeWalker 100 = .ok (.getfield 90, 3) := by decide +kernel
theorem dX2_takeWalker_103 : decode cX2_takeWalker 103 = .ok (.iconst 3, 1) := by decide +kernel
theorem dX2_takeWalker_104 : decode cX2_takeWalker 104 = .ok (.aaload, 1) := by decide +kernel
theorem dX2_takeWalker_105 : decode cX2_takeWalker 105 = .ok (.iload_n 3, 1) := by decide +kernel
theorem dX2_takeWalker_106 : decode cX2_takeWalker 106 = .ok (.iload 4, 2) := by decide +kernel
theorem dX2_takeWalker_108 : decode cX2_takeWalker 108 = .ok (.iastore, 1) := by decide +kernel
theorem dX2_takeWalker_109 : decode cX2_takeWalker 109 = .ok (.iconst 1, 1) := by decide +kernel
theorem dX2_takeWalker_110 : decode cX2_takeWalker 110 = .ok (.ireturn, 1) := by decide +kernel
theorem dX2_takeGate_0 : decode cX2_takeGate 0 = .ok (.aload_n 0, 1) := by decide +kernel
theorem dX2_takeGate_1 : decode cX2_takeGate 1 = .ok (.dup, 1) := by decide +kernel
theorem dX2_takeGate_2 : decode cX2_takeGate 2 = .ok (.getfield 41, 3) := by decide +kernel
theorem dX2_takeGate_5 : decode cX2_takeGate 5 = .ok (.iconst 1, 1) := by decide +kernel
theorem dX2_takeGate_6 : decode cX2_takeGate 6 = .ok (.iadd, 1) := by decide +kernel
theorem dX2_takeGate_7 : decode cX2_takeGate 7 = .ok (.putfield 41, 3) := by decide +kernel
theorem dX2_takeGate_10 : decode cX2_takeGate 10 = .ok (.aload_n 0, 1) := by decide +kernel
theorem dX2_takeGate_11 : decode cX2_takeGate 11 = .ok (.bipush 7, 2) := by decide +kernel
theorem dX2_takeGate_13 : decode cX2_takeGate 13 = .ok (.invokevirtual 86, 3) := by decide +kernel
theorem dX2_takeGate_16 : decode cX2_takeGate 16 = .ok (.istore_n 3, 1) := by decide +kernel
theorem dX2_takeGate_17 : decode cX2_takeGate 17 = .ok (.iload_n 3, 1) := by decide +kernel
theorem dX2_takeGate_18 : decode cX2_takeGate 18 = .ok (.ifCond .ge 5, 3) := by decide +kernel
theorem dX2_takeGate_21 : decode cX2_takeGate 21 = .ok (.iconst 0, 1) := by decide +kernel
theorem dX2_takeGate_22 : decode cX2_takeGate 22 = .ok (.ireturn, 1) := by decide +kernel
theorem dX2_takeGate_23 : decode cX2_takeGate 23 = .ok (.aload_n 1, 1) := by decide +kernel
theorem dX2_takeGate_24 : decode cX2_takeGate 24 = .ok (.getfield 94, 3) := by decide +kernel
theorem dX2_takeGate_27 : decode cX2_takeGate 27 = .ok (.iload_n 3, 1) := by decide +kernel
theorem dX2_takeGate_28 : decode cX2_takeGate 28 = .ok (.iload_n 2, 1) := by decide +kernel
theorem dX2_takeGate_29 : decode cX2_takeGate 29 = .ok (.iastore, 1) := by decide +kernel
theorem dX2_takeGate_30 : decode cX2_takeGate 30 = .ok (.iconst 1, 1) := by decide +kernel
theorem dX2_takeGate_31 : decode cX2_takeGate 31 = .ok (.ireturn, 1) := by decide +kernel
theorem dX2_takeBeasts_0 : decode cX2_takeBeasts 0 = .ok (.aload_n 0, 1) := by decide +kernel
theorem dX2_takeBeasts_1 : decode cX2_takeBeasts 1 = .ok (.dup, 1) := by decide +kernel
theorem dX2_takeBeasts_2 : decode cX2_takeBeasts 2 = .ok (.getfield 41, 3) := by decide +kernel
theorem dX2_takeBeasts_5 : decode cX2_takeBeasts 5 = .ok (.iconst 1, 1) := by decide +kernel
theorem dX2_takeBeasts_6 : decode cX2_takeBeasts 6 = .ok (.iadd, 1) := by decide +kernel
theorem dX2_takeBeasts_7 : decode cX2_takeBeasts 7 = .ok (.putfield 41, 3) := by decide +kernel
theorem dX2_takeBeasts_10 : decode cX2_takeBeasts 10 = .ok (.aload_n 0, 1) := by decide +kernel
theorem dX2_takeBeasts_11 : decode cX2_takeBeasts 11 = .ok (.bipush 8, 2) := by decide +kernel
theorem dX2_takeBeasts_13 : decode cX2_takeBeasts 13 = .ok (.invokevirtual 86, 3) := by decide +kernel
theorem dX2_takeBeasts_16 : decode cX2_takeBeasts 16 = .ok (.istore_n 2, 1) := by decide +kernel
theorem dX2_takeBeasts_17 : decode cX2_takeBeasts 17 = .ok (.iload_n 2, 1) := by decide +kernel
theorem dX2_takeBeasts_18 : decode cX2_takeBeasts 18 = .ok (.ifCond .ge 5, 3) := by decide +kernel
theorem dX2_takeBeasts_21 : decode cX2_takeBeasts 21 = .ok (.iconst 0, 1) := by decide +kernel
theorem dX2_takeBeasts_22 : decode cX2_takeBeasts 22 = .ok (.ireturn, 1) := by decide +kernel
theorem dX2_takeBeasts_23 : decode cX2_takeBeasts 23 = .ok (.aload_n 0, 1) := by decide +kernel
theorem dX2_takeBeasts_24 : decode cX2_takeBeasts 24 = .ok (.sipush 9999, 3) := by decide +kernel
theorem dX2_takeBeasts_27 : decode cX2_takeBeasts 27 = .ok (.invokevirtual 86, 3) := by decide +kernel
theorem dX2_takeBeasts_30 : decode cX2_takeBeasts 30 = .ok (.istore_n 3, 1) := by decide +kernel
theorem dX2_takeBeasts_31 : decode cX2_takeBeasts 31 = .ok (.iload_n 3, 1) := by decide +kernel
theorem dX2_takeBeasts_32 : decode cX2_takeBeasts 32 = .ok (.ifCond .ge 5, 3) := by decide +kernel
theorem dX2_takeBeasts_35 : decode cX2_takeBeasts 35 = .ok (.iconst 0, 1) := by decide +kernel
theorem dX2_takeBeasts_36 : decode cX2_takeBeasts 36 = .ok (.ireturn, 1) := by decide +kernel
theorem dX2_takeBeasts_37 : decode cX2_takeBeasts 37 = .ok (.aload_n 1, 1) := by decide +kernel
theorem dX2_takeBeasts_38 : decode cX2_takeBeasts 38 = .ok (.getfield 97, 3) := by decide +kernel
theorem dX2_takeBeasts_41 : decode cX2_takeBeasts 41 = .ok (.iload_n 2, 1) := by decide +kernel
theorem dX2_takeBeasts_42 : decode cX2_takeBeasts 42 = .ok (.iload_n 3, 1) := by decide +kernel
theorem dX2_takeBeasts_43 : decode cX2_takeBeasts 43 = .ok (.iastore, 1) := by decide +kernel
theorem dX2_takeBeasts_44 : decode cX2_takeBeasts 44 = .ok (.iconst 1, 1) := by decide +kernel
theorem dX2_takeBeasts_45 : decode cX2_takeBeasts 45 = .ok (.ireturn, 1) := by decide +kernel
theorem dX2_takeWind_0 : decode cX2_takeWind 0 = .ok (.aload_n 0, 1) := by decide +kernel
theorem dX2_takeWind_1 : decode cX2_takeWind 1 = .ok (.dup, 1) := by decide +kernel
theorem dX2_takeWind_2 : decode cX2_takeWind 2 = .ok (.getfield 41, 3) := by decide +kernel
theorem dX2_takeWind_5 : decode cX2_takeWind 5 = .ok (.iconst 1, 1) := by decide +kernel
theorem dX2_takeWind_6 : decode cX2_takeWind 6 = .ok (.iadd, 1) := by decide +kernel
theorem dX2_takeWind_7 : decode cX2_takeWind 7 = .ok (.putfield 41, 3) := by decide +kernel
theorem dX2_takeWind_10 : decode cX2_takeWind 10 = .ok (.aload_n 0, 1) := by decide +kernel
theorem dX2_takeWind_11 : decode cX2_takeWind 11 = .ok (.bipush 9, 2) := by decide +kernel
theorem dX2_takeWind_13 : decode cX2_takeWind 13 = .ok (.invokevirtual 86, 3) := by decide +kernel
theorem dX2_takeWind_16 : decode cX2_takeWind 16 = .ok (.istore_n 2, 1) := by decide +kernel
theorem dX2_takeWind_17 : decode cX2_takeWind 17 = .ok (.iload_n 2, 1) := by decide +kernel
theorem dX2_takeWind_18 : decode cX2_takeWind 18 = .ok (.ifCond .ge 5, 3) := by decide +kernel
theorem dX2_takeWind_21 : decode cX2_takeWind 21 = .ok (.iconst 0, 1) := by decide +kernel
theorem dX2_takeWind_22 : decode cX2_takeWind 22 = .ok (.ireturn, 1) := by decide +kernel
theorem dX2_takeWind_23 : decode cX2_takeWind 23 = .ok (.aload_n 1, 1) := by decide +kernel
theorem dX2_takeWind_24 : decode cX2_takeWind 24 = .ok (.iload_n 2, 1) := by decide +kernel
theorem dX2_takeWind_25 : decode cX2_takeWind 25 = .ok (.putfield 100, 3) := by decide +kernel
theorem dX2_takeWind_28 : decode cX2_takeWind 28 = .ok (.iconst 1, 1) := by decide +kernel
theorem dX2_takeWind_29 : decode cX2_takeWind 29 = .ok (.ireturn, 1) := by decide +kernel
theorem dX2_takeWord_0 : decode cX2_takeWord 0 = .ok (.aload_n 0, 1) := by decide +kernel
theorem dX2_takeWord_1 : decode cX2_takeWord 1 = .ok (.invokevirtual 59, 3) := by decide +kernel
theorem dX2_takeWord_4 : decode cX2_takeWord 4 = .ok (.iload_n 1, 1) := by decide +kernel
theorem dX2_takeWord_5 : decode cX2_takeWord 5 = .ok (.if_icmp .eq 5, 3) := by decide +kernel
theorem dX2_takeWord_8 : decode cX2_takeWord 8 = .ok (.iconst 0, 1) := by decide +kernel
theorem dX2_takeWord_9 : decode cX2_takeWord 9 = .ok (.ireturn, 1) := by decide +kernel
theorem dX2_takeWord_10 : decode cX2_takeWord 10 = .ok (.aload_n 0, 1) := by decide +kernel
theorem dX2_takeWord_11 : decode cX2_takeWord 11 = .ok (.dup, 1) := by decide +kernel
theorem dX2_takeWord_12 : decode cX2_takeWord 12 = .ok (.getfield 41, 3) := by decide +kernel
theorem dX2_takeWord_15 : decode cX2_takeWord 15 = .ok (.iconst 1, 1) := by decide +kernel
theorem dX2_takeWord_16 : decode cX2_takeWord 16 = .ok (.iadd, 1) := by decide +kernel
theorem dX2_takeWord_17 : decode cX2_takeWord 17 = .ok (.putfield 41, 3) := by decide +kernel
theorem dX2_takeWord_20 : decode cX2_takeWord 20 = .ok (.iconst 1, 1) := by decide +kernel
theorem dX2_takeWord_21 : decode cX2_takeWord 21 = .ok (.ireturn, 1) := by decide +kernel
theorem dX2_takeNumber_0 : decode cX2_takeNumber 0 = .ok (.aload_n 0, 1) := by decide +kernel
theorem dX2_takeNumber_1 : decode cX2_takeNumber 1 = .ok (.getfield 31, 3) := by decide +kernel
theorem dX2_takeNumber_4 : decode cX2_takeNumber 4 = .ok (.aload_n 0, 1) := by decide +kernel
theorem dX2_takeNumber_5 : decode cX2_takeNumber 5 = .ok (.getfield 41, 3) := by decide +kernel
theorem dX2_takeNumber_8 : decode cX2_takeNumber 8 = .ok (.iaload, 1) := by decide +kernel
theorem dX2_takeNumber_9 : decode cX2_takeNumber 9 = .ok (.iconst 1, 1) := by decide +kernel
theorem dX2_takeNumber_10 : decode cX2_takeNumber 10 = .ok (.if_icmp .eq 5, 3) := by decide +kernel
theorem dX2_takeNumber_13 : decode cX2_takeNumber 13 = .ok (.iconst (-1), 1) := by decide +kernel
theorem dX2_takeNumber_14 : decode cX2_takeNumber 14 = .ok (.ireturn, 1) := by decide +kernel
theorem dX2_takeNumber_15 : decode cX2_takeNumber 15 = .ok (.iconst 0, 1) := by decide +kernel
theorem dX2_takeNumber_16 : decode cX2_takeNumber 16 = .ok (.istore_n 2, 1) := by decide +kernel
theorem dX2_takeNumber_17 : decode cX2_takeNumber 17 = .ok (.iconst 0, 1) := by decide +kernel
theorem dX2_takeNumber_18 : decode cX2_takeNumber 18 = .ok (.istore_n 3, 1) := by decide +kernel
theorem dX2_takeNumber_19 : decode cX2_takeNumber 19 = .ok (.iload_n 3, 1) := by decide +kernel
theorem dX2_takeNumber_20 : decode cX2_takeNumber 20 = .ok (.aload_n 0, 1) := by decide +kernel
theorem dX2_takeNumber_21 : decode cX2_takeNumber 21 = .ok (.getfield 38, 3) := by decide +kernel
theorem dX2_takeNumber_24 : decode cX2_takeNumber 24 = .ok (.aload_n 0, 1) := by decide +kernel
theorem dX2_takeNumber_25 : decode cX2_takeNumber 25 = .ok (.getfield 41, 3) := by decide +kernel
theorem dX2_takeNumber_28 : decode cX2_takeNumber 28 = .ok (.iaload, 1) := by decide +kernel
theorem dX2_takeNumber_29 : decode cX2_takeNumber 29 = .ok (.if_icmp .ge 44, 3) := by decide +kernel
theorem dX2_takeNumber_32 : decode cX2_takeNumber 32 = .ok (.aload_n 0, 1) := by decide +kernel
theorem dX2_takeNumber_33 : decode cX2_takeNumber 33 = .ok (.getfield 9, 3) := by decide +kernel
theorem dX2_takeNumber_36 : decode cX2_takeNumber 36 = .ok (.aload_n 0, 1) := by decide +kernel
theorem dX2_takeNumber_37 : decode cX2_takeNumber 37 = .ok (.getfield 35, 3) := by decide +kernel
theorem dX2_takeNumber_40 : decode cX2_takeNumber 40 = .ok (.aload_n 0, 1) := by decide +kernel
theorem dX2_takeNumber_41 : decode cX2_takeNumber 41 = .ok (.getfield 41, 3) := by decide +kernel
theorem dX2_takeNumber_44 : decode cX2_takeNumber 44 = .ok (.iaload, 1) := by decide +kernel
theorem dX2_takeNumber_45 : decode cX2_takeNumber 45 = .ok (.iload_n 3, 1) := by decide +kernel
theorem dX2_takeNumber_46 : decode cX2_takeNumber 46 = .ok (.iadd, 1) := by decide +kernel
theorem dX2_takeNumber_47 : decode cX2_takeNumber 47 = .ok (.baload, 1) := by decide +kernel
theorem dX2_takeNumber_48 : decode cX2_takeNumber 48 = .ok (.bipush 48, 2) := by decide +kernel
theorem dX2_takeNumber_50 : decode cX2_takeNumber 50 = .ok (.isub, 1) := by decide +kernel
theorem dX2_takeNumber_51 : decode cX2_takeNumber 51 = .ok (.istore 4, 2) := by decide +kernel
theorem dX2_takeNumber_53 : decode cX2_takeNumber 53 = .ok (.iload_n 2, 1) := by decide +kernel
theorem dX2_takeNumber_54 : decode cX2_takeNumber 54 = .ok (.bipush 10, 2) := by decide +kernel
theorem dX2_takeNumber_56 : decode cX2_takeNumber 56 = .ok (.imul, 1) := by decide +kernel
theorem dX2_takeNumber_57 : decode cX2_takeNumber 57 = .ok (.iload 4, 2) := by decide +kernel
theorem dX2_takeNumber_59 : decode cX2_takeNumber 59 = .ok (.iadd, 1) := by decide +kernel
theorem dX2_takeNumber_60 : decode cX2_takeNumber 60 = .ok (.sipush 10000, 3) := by decide +kernel
theorem dX2_takeNumber_63 : decode cX2_takeNumber 63 = .ok (.invokestatic 103, 3) := by decide +kernel
theorem dX2_takeNumber_66 : decode cX2_takeNumber 66 = .ok (.istore_n 2, 1) := by decide +kernel
theorem dX2_takeNumber_67 : decode cX2_takeNumber 67 = .ok (.iinc 3 1, 3) := by decide +kernel
theorem dX2_takeNumber_70 : decode cX2_takeNumber 70 = .ok (.goto (-51), 3) := by decide +kernel
theorem dX2_takeNumber_73 : decode cX2_takeNumber 73 = .ok (.iload_n 2, 1) := by decide +kernel
theorem dX2_takeNumber_74 : decode cX2_takeNumber 74 = .ok (.iload_n 1, 1) := by decide +kernel
theorem dX2_takeNumber_75 : decode cX2_takeNumber 75 = .ok (.if_icmp .le 5, 3) := by decide +kernel
theorem dX2_takeNumber_78 : decode cX2_takeNumber 78 = .ok (.iconst (-1), 1) := by decide +kernel
theorem dX2_takeNumber_79 : decode cX2_takeNumber 79 = .ok (.ireturn, 1) := by decide +kernel
theorem dX2_takeNumber_80 : decode cX2_takeNumber 80 = .ok (.aload_n 0, 1) := by decide +kernel
theorem dX2_takeNumber_81 : decode cX2_takeNumber 81 = .ok (.dup, 1) := by decide +kernel
theorem dX2_takeNumber_82 : decode cX2_takeNumber 82 = .ok (.getfield 41, 3) := by decide +kernel
theorem dX2_takeNumber_85 : decode cX2_takeNumber 85 = .ok (.iconst 1, 1) := by decide +kernel
theorem dX2_takeNumber_86 : decode cX2_takeNumber 86 = .ok (.iadd, 1) := by decide +kernel
theorem dX2_takeNumber_87 : decode cX2_takeNumber 87 = .ok (.putfield 41, 3) := by decide +kernel
theorem dX2_takeNumber_90 : decode cX2_takeNumber 90 = .ok (.iload_n 2, 1) := by decide +kernel
theorem dX2_takeNumber_91 : decode cX2_takeNumber 91 = .ok (.ireturn, 1) := by decide +kernel
theorem dX2_wordAhead_0 : decode cX2_wordAhead 0 = .ok (.aload_n 0, 1) := by decide +kernel
theorem dX2_wordAhead_1 : decode cX2_wordAhead 1 = .ok (.getfield 31, 3) := by decide +kernel
theorem dX2_wordAhead_4 : decode cX2_wordAhead 4 = .ok (.aload_n 0, 1) := by decide +kernel
theorem dX2_wordAhead_5 : decode cX2_wordAhead 5 = .ok (.getfield 41, 3) := by decide +kernel
theorem dX2_wordAhead_8 : decode cX2_wordAhead 8 = .ok (.iaload, 1) := by decide +kernel
theorem dX2_wordAhead_9 : decode cX2_wordAhead 9 = .ok (.ifCond .ne 17, 3) := by decide +kernel
theorem dX2_wordAhead_12 : decode cX2_wordAhead 12 = .ok (.aload_n 0, 1) := by decide +kernel
theorem dX2_wordAhead_13 : decode cX2_wordAhead 13 = .ok (.getfield 38, 3) := by decide +kernel
theorem dX2_wordAhead_16 : decode cX2_wordAhead 16 = .ok (.aload_n 0, 1) := by decide +kernel
theorem dX2_wordAhead_17 : decode cX2_wordAhead 17 = .ok (.getfield 41, 3) := by decide +kernel
theorem dX2_wordAhead_20 : decode cX2_wordAhead 20 = .ok (.iaload, 1) := by decide +kernel
theorem dX2_wordAhead_21 : decode cX2_wordAhead 21 = .ok (.bipush 8, 2) := by decide +kernel
theorem dX2_wordAhead_23 : decode cX2_wordAhead 23 = .ok (.if_icmp .le 5, 3) := by decide +kernel
theorem dX2_wordAhead_26 : decode cX2_wordAhead 26 = .ok (.iconst (-1), 1) := by decide +kernel
theorem dX2_wordAhead_27 : decode cX2_wordAhead 27 = .ok (.ireturn, 1) := by decide +kernel
theorem dX2_wordAhead_28 : decode cX2_wordAhead 28 = .ok (.iconst 0, 1) := by decide +kernel
theorem dX2_wordAhead_29 : decode cX2_wordAhead 29 = .ok (.istore_n 1, 1) := by decide +kernel
theorem dX2_wordAhead_30 : decode cX2_wordAhead 30 = .ok (.iload_n 1, 1) := by decide +kernel
theorem dX2_wordAhead_31 : decode cX2_wordAhead 31 = .ok (.bipush 16, 2) := by decide +kernel
theorem dX2_wordAhead_33 : decode cX2_wordAhead 33 = .ok (.if_icmp .ge 19, 3) := by decide +kernel
theorem dX2_wordAhead_36 : decode cX2_wordAhead 36 = .ok (.aload_n 0, 1) := by decide +kernel
theorem dX2_wordAhead_37 : decode cX2_wordAhead 37 = .ok (.iload_n 1, 1) := by decide +kernel
theorem dX2_wordAhead_38 : decode cX2_wordAhead 38 = .ok (.invokevirtual 108, 3) := by decide +kernel
theorem dX2_wordAhead_41 : decode cX2_wordAhead 41 = .ok (.ifCond .eq 5, 3) := by decide +kernel
theorem dX2_wordAhead_44 : decode cX2_wordAhead 44 = .ok (.iload_n 1, 1) := by decide +kernel
theorem dX2_wordAhead_45 : decode cX2_wordAhead 45 = .ok (.ireturn, 1) := by decide +kernel
theorem dX2_wordAhead_46 : decode cX2_wordAhead 46 = .ok (.iinc 1 1, 3) := by decide +kernel
theorem dX2_wordAhead_49 : decode cX2_wordAhead 49 = .ok (.goto (-19), 3) := by decide +kernel
theorem dX2_wordAhead_52 : decode cX2_wordAhead 52 = .ok (.iconst (-1), 1) := by decide +kernel
theorem dX2_wordAhead_53 : decode cX2_wordAhead 53 = .ok (.ireturn, 1) := by decide +kernel
theorem dX2_isSpelt_0 : decode cX2_isSpelt 0 = .ok (.iconst 0, 1) := by decide +kernel
theorem dX2_isSpelt_1 : decode cX2_isSpelt 1 = .ok (.istore_n 2, 1) := by decide +kernel
theorem dX2_isSpelt_2 : decode cX2_isSpelt 2 = .ok (.iload_n 2, 1) := by decide +kernel
theorem dX2_isSpelt_3 : decode cX2_isSpelt 3 = .ok (.bipush 8, 2) := by decide +kernel
theorem dX2_isSpelt_5 : decode cX2_isSpelt 5 = .ok (.if_icmp .ge 61, 3) := by decide +kernel
theorem dX2_isSpelt_8 : decode cX2_isSpelt 8 = .ok (.iload_n 2, 1) := by decide +kernel
theorem dX2_isSpelt_9 : decode cX2_isSpelt 9 = .ok (.aload_n 0, 1) := by decide +kernel
theorem dX2_isSpelt_10 : decode cX2_isSpelt 10 = .ok (.getfield 38, 3) := by decide +kernel
theorem dX2_isSpelt_13 : decode cX2_isSpelt 13 = .ok (.aload_n 0, 1) := by decide +kernel
theorem dX2_isSpelt_14 : decode cX2_isSpelt 14 = .ok (.getfield 41, 3) := by decide +kernel
theorem dX2_isSpelt_17 : decode cX2_isSpelt 17 = .ok (.iaload, 1) := by decide +kernel
theorem dX2_isSpelt_18 : decode cX2_isSpelt 18 = .ok (.if_icmp .ge 22, 3) := by decide +kernel
theorem dX2_isSpelt_21 : decode cX2_isSpelt 21 = .ok (.aload_n 0, 1) := by decide +kernel
theorem dX2_isSpelt_22 : decode cX2_isSpelt 22 = .ok (.getfield 9, 3) := by decide +kernel
theorem dX2_isSpelt_25 : decode cX2_isSpelt 25 = .ok (.aload_n 0, 1) := by decide +kernel
theorem dX2_isSpelt_26 : decode cX2_isSpelt 26 = .ok (.getfield 35, 3) := by decide +kernel
theorem dX2_isSpelt_29 : decode cX2_isSpelt 29 = .ok (.aload_n 0, 1) := by decide +kernel
theorem dX2_isSpelt_30 : decode cX2_isSpelt 30 = .ok (.getfield 41, 3) := by decide +kernel
theorem dX2_isSpelt_33 : decode cX2_isSpelt 33 = .ok (.iaload, 1) := by decide +kernel
theorem dX2_isSpelt_34 : decode cX2_isSpelt 34 = .ok (.iload_n 2, 1) := by decide +kernel
theorem dX2_isSpelt_35 : decode cX2_isSpelt 35 = .ok (.iadd, 1) := by decide +kernel
theorem dX2_isSpelt_36 : decode cX2_isSpelt 36 = .ok (.baload, 1) := by decide +kernel
theorem dX2_isSpelt_37 : decode cX2_isSpelt 37 = .ok (.goto 5, 3) := by decide +kernel
theorem dX2_isSpelt_40 : decode cX2_isSpelt 40 = .ok (.bipush 32, 2) := by decide +kernel
theorem dX2_isSpelt_42 : decode cX2_isSpelt 42 = .ok (.istore_n 3, 1) := by decide +kernel
theorem dX2_isSpelt_43 : decode cX2_isSpelt 43 = .ok (.iload_n 3, 1) := by decide +kernel
theorem dX2_isSpelt_44 : decode cX2_isSpelt 44 = .ok (.aload_n 0, 1) := by decide +kernel
theorem dX2_isSpelt_45 : decode cX2_isSpelt 45 = .ok (.getfield 27, 3) := by decide +kernel
theorem dX2_isSpelt_48 : decode cX2_isSpelt 48 = .ok (.iload_n 1, 1) := by decide +kernel
theorem dX2_isSpelt_49 : decode cX2_isSpelt 49 = .ok (.bipush 8, 2) := by decide +kernel
theorem dX2_isSpelt_51 : decode cX2_isSpelt 51 = .ok (.imul, 1) := by decide +kernel
theorem dX2_isSpelt_52 : decode cX2_isSpelt 52 = .ok (.iload_n 2, 1) := by decide +kernel
theorem dX2_isSpelt_53 : decode cX2_isSpelt 53 = .ok (.iadd, 1) := by decide +kernel
theorem dX2_isSpelt_54 : decode cX2_isSpelt 54 = .ok (.caload, 1) := by decide +kernel
theorem dX2_isSpelt_55 : decode cX2_isSpelt 55 = .ok (.if_icmp .eq 5, 3) := by decide +kernel
theorem dX2_isSpelt_58 : decode cX2_isSpelt 58 = .ok (.iconst 0, 1) := by decide +kernel
theorem dX2_isSpelt_59 : decode cX2_isSpelt 59 = .ok (.ireturn, 1) := by decide +kernel
theorem dX2_isSpelt_60 : decode cX2_isSpelt 60 = .ok (.iinc 2 1, 3) := by decide +kernel
theorem dX2_isSpelt_63 : decode cX2_isSpelt 63 = .ok (.goto (-61), 3) := by decide +kernel
theorem dX2_isSpelt_66 : decode cX2_isSpelt 66 = .ok (.iconst 1, 1) := by decide +kernel
theorem dX2_isSpelt_67 : decode cX2_isSpelt 67 = .ok (.ireturn, 1) := by decide +kernel
theorem dJ6_numberOfTrailingZeros_0f7a4_0 : decode cJ6_numberOfTrailingZeros_0f7a4 0 = .ok (.iload_n 0, 1) := by decide +kernel
theorem dJ6_numberOfTrailingZeros_0f7a4_1 : decode cJ6_numberOfTrailingZeros_0f7a4 1 = .ok (.iconst (-1), 1) := by decide +kernel
theorem dJ6_numberOfTrailingZeros_0f7a4_2 : decode cJ6_numberOfTrailingZeros_0f7a4 2 = .ok (.ixor, 1) := by decide +kernel
theorem dJ6_numberOfTrailingZeros_0f7a4_3 : decode cJ6_numberOfTrailingZeros_0f7a4 3 = .ok (.iload_n 0, 1) := by decide +kernel
theorem dJ6_numberOfTrailingZeros_0f7a4_4 : decode cJ6_numberOfTrailingZeros_0f7a4 4 = .ok (.iconst 1, 1) := by decide +kernel
theorem dJ6_numberOfTrailingZeros_0f7a4_5 : decode cJ6_numberOfTrailingZeros_0f7a4 5 = .ok (.isub, 1) := by decide +kernel
theorem dJ6_numberOfTrailingZeros_0f7a4_6 : decode cJ6_numberOfTrailingZeros_0f7a4 6 = .ok (.iand, 1) := by decide +kernel
theorem dJ6_numberOfTrailingZeros_0f7a4_7 : decode cJ6_numberOfTrailingZeros_0f7a4 7 = .ok (.istore_n 0, 1) := by decide +kernel
theorem dJ6_numberOfTrailingZeros_0f7a4_8 : decode cJ6_numberOfTrailingZeros_0f7a4 8 = .ok (.iload_n 0, 1) := by decide +kernel
theorem dJ6_numberOfTrailingZeros_0f7a4_9 : decode cJ6_numberOfTrailingZeros_0f7a4 9 = .ok (.ifCond .gt 8, 3) := by decide +kernel
theorem dJ6_numberOfTrailingZeros_0f7a4_12 : decode cJ6_numberOfTrailingZeros_0f7a4 12 = .ok (.iload_n 0, 1) := by decide +kernel
theorem dJ6_numberOfTrailingZeros_0f7a4_13 : decode cJ6_numberOfTrailingZeros_0f7a4 13 = .ok (.bipush 32, 2) := by decide +kernel
theorem dJ6_numberOfTrailingZeros_0f7a4_15 : decode cJ6_numberOfTrailingZeros_0f7a4 15 = .ok (.iand, 1) := by decide +kernel
theorem dJ6_numberOfTrailingZeros_0f7a4_16 : decode cJ6_numberOfTrailingZeros_0f7a4 16 = .ok (.ireturn, 1) := by decide +kernel
theorem dJ6_numberOfTrailingZeros_0f7a4_17 : decode cJ6_numberOfTrailingZeros_0f7a4 17 = .ok (.iconst 1, 1) := by decide +kernel
theorem dJ6_numberOfTrailingZeros_0f7a4_18 : decode cJ6_numberOfTrailingZeros_0f7a4 18 = .ok (.istore_n 1, 1) := by decide +kernel
theorem dJ6_numberOfTrailingZeros_0f7a4_19 : decode cJ6_numberOfTrailingZeros_0f7a4 19 = .ok (.iload_n 0, 1) := by decide +kernel
theorem dJ6_numberOfTrailingZeros_0f7a4_20 : decode cJ6_numberOfTrailingZeros_0f7a4 20 = .ok (.ldc_w 264, 3) := by decide +kernel
theorem dJ6_numberOfTrailingZeros_0f7a4_23 : decode cJ6_numberOfTrailingZeros_0f7a4 23 = .ok (.if_icmp .le 11, 3) := by decide +kernel
theorem dJ6_numberOfTrailingZeros_0f7a4_26 : decode cJ6_numberOfTrailingZeros_0f7a4 26 = .ok (.iinc 1 16, 3) := by decide +kernel
theorem dJ6_numberOfTrailingZeros_0f7a4_29 : decode cJ6_numberOfTrailingZeros_0f7a4 29 = .ok (.iload_n 0, 1) := by decide +kernel
theorem dJ6_numberOfTrailingZeros_0f7a4_30 : decode cJ6_numberOfTrailingZeros_0f7a4 30 = .ok (.bipush 16, 2) := by decide +kernel
theorem dJ6_numberOfTrailingZeros_0f7a4_32 : decode cJ6_numberOfTrailingZeros_0f7a4 32 = .ok (.iushr, 1) := by decide +kernel
theorem dJ6_numberOfTrailingZeros_0f7a4_33 : decode cJ6_numberOfTrailingZeros_0f7a4 33 = .ok (.istore_n 0, 1) := by decide +kernel
theorem dJ6_numberOfTrailingZeros_0f7a4_34 : decode cJ6_numberOfTrailingZeros_0f7a4 34 = .ok (.iload_n 0, 1) := by decide +kernel
theorem dJ6_numberOfTrailingZeros_0f7a4_35 : decode cJ6_numberOfTrailingZeros_0f7a4 35 = .ok (.sipush 256, 3) := by decide +kernel
theorem dJ6_numberOfTrailingZeros_0f7a4_38 : decode cJ6_numberOfTrailingZeros_0f7a4 38 = .ok (.if_icmp .le 11, 3) := by decide +kernel
theorem dJ6_numberOfTrailingZeros_0f7a4_41 : decode cJ6_numberOfTrailingZeros_0f7a4 41 = .ok (.iinc 1 8, 3) := by decide +kernel
theorem dJ6_numberOfTrailingZeros_0f7a4_44 : decode cJ6_numberOfTrailingZeros_0f7a4 44 = .ok (.iload_n 0, 1) := by decide +kernel
theorem dJ6_numberOfTrailingZeros_0f7a4_45 : decode cJ6_numberOfTrailingZeros_0f7a4 45 = .ok (.bipush 8, 2) := by decide +kernel
theorem dJ6_numberOfTrailingZeros_0f7a4_47 : decode cJ6_numberOfTrailingZeros_0f7a4 47 = .ok (.iushr, 1) := by decide +kernel
theorem dJ6_numberOfTrailingZeros_0f7a4_48 : decode cJ6_numberOfTrailingZeros_0f7a4 48 = .ok (.istore_n 0, 1) := by decide +kernel
theorem dJ6_numberOfTrailingZeros_0f7a4_49 : decode cJ6_numberOfTrailingZeros_0f7a4 49 = .ok (.iload_n 0, 1) := by decide +kernel
theorem dJ6_numberOfTrailingZeros_0f7a4_50 : decode cJ6_numberOfTrailingZeros_0f7a4 50 = .ok (.bipush 16, 2) := by decide +kernel
theorem dJ6_numberOfTrailingZeros_0f7a4_52 : decode cJ6_numberOfTrailingZeros_0f7a4 52 = .ok (.if_icmp .le 10, 3) := by decide +kernel
theorem dJ6_numberOfTrailingZeros_0f7a4_55 : decode cJ6_numberOfTrailingZeros_0f7a4 55 = .ok (.iinc 1 4, 3) := by decide +kernel
theorem dJ6_numberOfTrailingZeros_0f7a4_58 : decode cJ6_numberOfTrailingZeros_0f7a4 58 = .ok (.iload_n 0, 1) := by decide +kernel
theorem dJ6_numberOfTrailingZeros_0f7a4_59 : decode cJ6_numberOfTrailingZeros_0f7a4 59 = .ok (.iconst 4, 1) := by decide +kernel
theorem dJ6_numberOfTrailingZeros_0f7a4_60 : decode cJ6_numberOfTrailingZeros_0f7a4 60 = .ok (.iushr, 1) := by decide +kernel
theorem dJ6_numberOfTrailingZeros_0f7a4_61 : decode cJ6_numberOfTrailingZeros_0f7a4 61 = .ok (.istore_n 0, 1) := by decide +kernel
theorem dJ6_numberOfTrailingZeros_0f7a4_62 : decode cJ6_numberOfTrailingZeros_0f7a4 62 = .ok (.iload_n 0, 1) := by decide +kernel
theorem dJ6_numberOfTrailingZeros_0f7a4_63 : decode cJ6_numberOfTrailingZeros_0f7a4 63 = .ok (.iconst 4, 1) := by decide +kernel
theorem dJ6_numberOfTrailingZeros_0f7a4_64 : decode cJ6_numberOfTrailingZeros_0f7a4 64 = .ok (.if_icmp .le 10, 3) := by decide +kernel
theorem dJ6_numberOfTrailingZeros_0f7a4_67 : decode cJ6_numberOfTrailingZeros_0f7a4 67 = .ok (.iinc 1 2, 3) := by decide +kernel
theorem dJ6_numberOfTrailingZeros_0f7a4_70 : decode cJ6_numberOfTrailingZeros_0f7a4 70 = .ok (.iload_n 0, 1) := by decide +kernel
theorem dJ6_numberOfTrailingZeros_0f7a4_71 : decode cJ6_numberOfTrailingZeros_0f7a4 71 = .ok (.iconst 2, 1) := by decide +kernel
theorem dJ6_numberOfTrailingZeros_0f7a4_72 : decode cJ6_numberOfTrailingZeros_0f7a4 72 = .ok (.iushr, 1) := by decide +kernel
theorem dJ6_numberOfTrailingZeros_0f7a4_73 : decode cJ6_numberOfTrailingZeros_0f7a4 73 = .ok (.istore_n 0, 1) := by decide +kernel
theorem dJ6_numberOfTrailingZeros_0f7a4_74 : decode cJ6_numberOfTrailingZeros_0f7a4 74 = .ok (.iload_n 1, 1) := by decide +kernel
theorem dJ6_numberOfTrailingZeros_0f7a4_75 : decode cJ6_numberOfTrailingZeros_0f7a4 75 = .ok (.iload_n 0, 1) := by decide +kernel
theorem dJ6_numberOfTrailingZeros_0f7a4_76 : decode cJ6_numberOfTrailingZeros_0f7a4 76 = .ok (.iconst 1, 1) := by decide +kernel
theorem dJ6_numberOfTrailingZeros_0f7a4_77 : decode cJ6_numberOfTrailingZeros_0f7a4 77 = .ok (.iushr, 1) := by decide +kernel
theorem dJ6_numberOfTrailingZeros_0f7a4_78 : decode cJ6_numberOfTrailingZeros_0f7a4 78 = .ok (.iadd, 1) := by decide +kernel
theorem dJ6_numberOfTrailingZeros_0f7a4_79 : decode cJ6_numberOfTrailingZeros_0f7a4 79 = .ok (.ireturn, 1) := by decide +kernel
theorem dJ6_bitCount_0f7a4_0 : decode cJ6_bitCount_0f7a4 0 = .ok (.iload_n 0, 1) := by decide +kernel
theorem dJ6_bitCount_0f7a4_1 : decode cJ6_bitCount_0f7a4 1 = .ok (.iload_n 0, 1) := by decide +kernel
theorem dJ6_bitCount_0f7a4_2 : decode cJ6_bitCount_0f7a4 2 = .ok (.iconst 1, 1) := by decide +kernel
theorem dJ6_bitCount_0f7a4_3 : decode cJ6_bitCount_0f7a4 3 = .ok (.iushr, 1) := by decide +kernel
theorem dJ6_bitCount_0f7a4_4 : decode cJ6_bitCount_0f7a4 4 = .ok (.ldc_w 265, 3) := by decide +kernel
theorem dJ6_bitCount_0f7a4_7 : decode cJ6_bitCount_0f7a4 7 = .ok (.iand, 1) := by decide +kernel
theorem dJ6_bitCount_0f7a4_8 : decode cJ6_bitCount_0f7a4 8 = .ok (.isub, 1) := by decide +kernel
theorem dJ6_bitCount_0f7a4_9 : decode cJ6_bitCount_0f7a4 9 = .ok (.istore_n 0, 1) := by decide +kernel
theorem dJ6_bitCount_0f7a4_10 : decode cJ6_bitCount_0f7a4 10 = .ok (.iload_n 0, 1) := by decide +kernel
theorem dJ6_bitCount_0f7a4_11 : decode cJ6_bitCount_0f7a4 11 = .ok (.ldc_w 266, 3) := by decide +kernel
theorem dJ6_bitCount_0f7a4_14 : decode cJ6_bitCount_0f7a4 14 = .ok (.iand, 1) := by decide +kernel
theorem dJ6_bitCount_0f7a4_15 : decode cJ6_bitCount_0f7a4 15 = .ok (.iload_n 0, 1) := by decide +kernel
theorem dJ6_bitCount_0f7a4_16 : decode cJ6_bitCount_0f7a4 16 = .ok (.iconst 2, 1) := by decide +kernel
theorem dJ6_bitCount_0f7a4_17 : decode cJ6_bitCount_0f7a4 17 = .ok (.iushr, 1) := by decide +kernel
theorem dJ6_bitCount_0f7a4_18 : decode cJ6_bitCount_0f7a4 18 = .ok (.ldc_w 266, 3) := by decide +kernel
theorem dJ6_bitCount_0f7a4_21 : decode cJ6_bitCount_0f7a4 21 = .ok (.iand, 1) := by decide +kernel
theorem dJ6_bitCount_0f7a4_22 : decode cJ6_bitCount_0f7a4 22 = .ok (.iadd, 1) := by decide +kernel
theorem dJ6_bitCount_0f7a4_23 : decode cJ6_bitCount_0f7a4 23 = .ok (.istore_n 0, 1) := by decide +kernel
theorem dJ6_bitCount_0f7a4_24 : decode cJ6_bitCount_0f7a4 24 = .ok (.iload_n 0, 1) := by decide +kernel
theorem dJ6_bitCount_0f7a4_25 : decode cJ6_bitCount_0f7a4 25 = .ok (.iload_n 0, 1) := by decide +kernel
theorem dJ6_bitCount_0f7a4_26 : decode cJ6_bitCount_0f7a4 26 = .ok (.iconst 4, 1) := by decide +kernel
theorem dJ6_bitCount_0f7a4_27 : decode cJ6_bitCount_0f7a4 27 = .ok (.iushr, 1) := by decide +kernel
theorem dJ6_bitCount_0f7a4_28 : decode cJ6_bitCount_0f7a4 28 = .ok (.iadd, 1) := by decide +kernel
theorem dJ6_bitCount_0f7a4_29 : decode cJ6_bitCount_0f7a4 29 = .ok (.ldc_w 267, 3) := by decide +kernel
theorem dJ6_bitCount_0f7a4_32 : decode cJ6_bitCount_0f7a4 32 = .ok (.iand, 1) := by decide +kernel
theorem dJ6_bitCount_0f7a4_33 : decode cJ6_bitCount_0f7a4 33 = .ok (.istore_n 0, 1) := by decide +kernel
theorem dJ6_bitCount_0f7a4_34 : decode cJ6_bitCount_0f7a4 34 = .ok (.iload_n 0, 1) := by decide +kernel
theorem dJ6_bitCount_0f7a4_35 : decode cJ6_bitCount_0f7a4 35 = .ok (.iload_n 0, 1) := by decide +kernel
theorem dJ6_bitCount_0f7a4_36 : decode cJ6_bitCount_0f7a4 36 = .ok (.bipush 8, 2) := by decide +kernel
theorem dJ6_bitCount_0f7a4_38 : decode cJ6_bitCount_0f7a4 38 = .ok (.iushr, 1) := by decide +kernel
theorem dJ6_bitCount_0f7a4_39 : decode cJ6_bitCount_0f7a4 39 = .ok (.iadd, 1) := by decide +kernel
theorem dJ6_bitCount_0f7a4_40 : decode cJ6_bitCount_0f7a4 40 = .ok (.istore_n 0, 1) := by decide +kernel
theorem dJ6_bitCount_0f7a4_41 : decode cJ6_bitCount_0f7a4 41 = .ok (.iload_n 0, 1) := by decide +kernel
theorem dJ6_bitCount_0f7a4_42 : decode cJ6_bitCount_0f7a4 42 = .ok (.iload_n 0, 1) := by decide +kernel
theorem dJ6_bitCount_0f7a4_43 : decode cJ6_bitCount_0f7a4 43 = .ok (.bipush 16, 2) := by decide +kernel
theorem dJ6_bitCount_0f7a4_45 : decode cJ6_bitCount_0f7a4 45 = .ok (.iushr, 1) := by decide +kernel
theorem dJ6_bitCount_0f7a4_46 : decode cJ6_bitCount_0f7a4 46 = .ok (.iadd, 1) := by decide +kernel
theorem dJ6_bitCount_0f7a4_47 : decode cJ6_bitCount_0f7a4 47 = .ok (.istore_n 0, 1) := by decide +kernel
theorem dJ6_bitCount_0f7a4_48 : decode cJ6_bitCount_0f7a4 48 = .ok (.iload_n 0, 1) := by decide +kernel
theorem dJ6_bitCount_0f7a4_49 : decode cJ6_bitCount_0f7a4 49 = .ok (.bipush 63, 2) := by decide +kernel
theorem dJ6_bitCount_0f7a4_51 : decode cJ6_bitCount_0f7a4 51 = .ok (.iand, 1) := by decide +kernel
theorem dJ6_bitCount_0f7a4_52 : decode cJ6_bitCount_0f7a4 52 = .ok (.ireturn, 1) := by decide +kernel
theorem dJ9_max_7cf53_0 : decode cJ9_max_7cf53 0 = .ok (.iload_n 0, 1) := by decide +kernel
theorem dJ9_max_7cf53_1 : decode cJ9_max_7cf53 1 = .ok (.iload_n 1, 1) := by decide +kernel
theorem dJ9_max_7cf53_2 : decode cJ9_max_7cf53 2 = .ok (.if_icmp .lt 7, 3) := by decide +kernel
theorem dJ9_max_7cf53_5 : decode cJ9_max_7cf53 5 = .ok (.iload_n 0, 1) := by decide +kernel
theorem dJ9_max_7cf53_6 : decode cJ9_max_7cf53 6 = .ok (.goto 4, 3) := by decide +kernel
theorem dJ9_max_7cf53_9 : decode cJ9_max_7cf53 9 = .ok (.iload_n 1, 1) := by decide +kernel
theorem dJ9_max_7cf53_10 : decode cJ9_max_7cf53 10 = .ok (.ireturn, 1) := by decide +kernel
theorem dJ9_min_7cf53_0 : decode cJ9_min_7cf53 0 = .ok (.iload_n 0, 1) := by decide +kernel
theorem dJ9_min_7cf53_1 : decode cJ9_min_7cf53 1 = .ok (.iload_n 1, 1) := by decide +kernel
theorem dJ9_min_7cf53_2 : decode cJ9_min_7cf53 2 = .ok (.if_icmp .gt 7, 3) := by decide +kernel
theorem dJ9_min_7cf53_5 : decode cJ9_min_7cf53 5 = .ok (.iload_n 0, 1) := by decide +kernel
theorem dJ9_min_7cf53_6 : decode cJ9_min_7cf53 6 = .ok (.goto 4, 3) := by decide +kernel
theorem dJ9_min_7cf53_9 : decode cJ9_min_7cf53 9 = .ok (.iload_n 1, 1) := by decide +kernel
theorem dJ9_min_7cf53_10 : decode cJ9_min_7cf53 10 = .ok (.ireturn, 1) := by decide +kernel
theorem dJ0_toCharArray_70df3_0 : decode cJ0_toCharArray_70df3 0 = .ok (.aload_n 0, 1) := by decide +kernel
theorem dJ0_toCharArray_70df3_1 : decode cJ0_toCharArray_70df3 1 = .ok (.invokevirtual 492, 3) := by decide +kernel
theorem dJ0_toCharArray_70df3_4 : decode cJ0_toCharArray_70df3 4 = .ok (.ifCond .eq 13, 3) := by decide +kernel
theorem dJ0_toCharArray_70df3_7 : decode cJ0_toCharArray_70df3 7 = .ok (.aload_n 0, 1) := by decide +kernel
theorem dJ0_toCharArray_70df3_8 : decode cJ0_toCharArray_70df3 8 = .ok (.getfield 9, 3) := by decide +kernel
theorem dJ0_toCharArray_70df3_11 : decode cJ0_toCharArray_70df3 11 = .ok (.invokestatic 299, 3) := by decide +kernel
theorem dJ0_toCharArray_70df3_14 : decode cJ0_toCharArray_70df3 14 = .ok (.goto 10, 3) := by decide +kernel
theorem dJ0_toCharArray_70df3_17 : decode cJ0_toCharArray_70df3 17 = .ok (.aload_n 0, 1) := by decide +kernel
theorem dJ0_toCharArray_70df3_18 : decode cJ0_toCharArray_70df3 18 = .ok (.getfield 9, 3) := by decide +kernel
theorem dJ0_toCharArray_70df3_21 : decode cJ0_toCharArray_70df3 21 = .ok (.invokestatic 303, 3) := by decide +kernel
theorem dJ0_toCharArray_70df3_24 : decode cJ0_toCharArray_70df3 24 = .ok (.areturn, 1) := by decide +kernel
theorem dJ0_isLatin1_aae02_0 : decode cJ0_isLatin1_aae02 0 = .ok (.getstatic 38, 3) := by decide +kernel
theorem dJ0_isLatin1_aae02_3 : decode cJ0_isLatin1_aae02 3 = .ok (.ifCond .eq 14, 3) := by decide +kernel
theorem dJ0_isLatin1_aae02_6 : decode cJ0_isLatin1_aae02 6 = .ok (.aload_n 0, 1) := by decide +kernel
theorem dJ0_isLatin1_aae02_7 : decode cJ0_isLatin1_aae02 7 = .ok (.getfield 15, 3) := by decide +kernel
theorem dJ0_isLatin1_aae02_10 : decode cJ0_isLatin1_aae02 10 = .ok (.ifCond .ne 7, 3) := by decide +kernel
theorem dJ0_isLatin1_aae02_13 : decode cJ0_isLatin1_aae02 13 = .ok (.iconst 1, 1) := by decide +kernel
theorem dJ0_isLatin1_aae02_14 : decode cJ0_isLatin1_aae02 14 = .ok (.goto 4, 3) := by decide +kernel
theorem dJ0_isLatin1_aae02_17 : decode cJ0_isLatin1_aae02 17 = .ok (.iconst 0, 1) := by decide +kernel
theorem dJ0_isLatin1_aae02_18 : decode cJ0_isLatin1_aae02 18 = .ok (.ireturn, 1) := by decide +kernel
theorem dJ0_checkBoundsOffCount_cabcc_0 : decode cJ0_checkBoundsOffCount_cabcc 0 = .ok (.iload_n 0, 1) := by decide +kernel
theorem dJ0_checkBoundsOffCount_cabcc_1 : decode cJ0_checkBoundsOffCount_cabcc 1 = .ok (.iload_n 1, 1) := by decide +kernel
theorem dJ0_checkBoundsOffCount_cabcc_2 : decode cJ0_checkBoundsOffCount_cabcc 2 = .ok (.iload_n 2, 1) := by decide +kernel
theorem dJ0_checkBoundsOffCount_cabcc_3 : decode cJ0_checkBoundsOffCount_cabcc 3 = .ok (.getstatic 1053, 3) := by decide +kernel
theorem dJ0_checkBoundsOffCount_cabcc_6 : decode cJ0_checkBoundsOffCount_cabcc 6 = .ok (.invokestatic 1065, 3) := by decide +kernel
theorem dJ0_checkBoundsOffCount_cabcc_9 : decode cJ0_checkBoundsOffCount_cabcc 9 = .ok (.ireturn, 1) := by decide +kernel
theorem dJ1_toChars_9d188_0 : decode cJ1_toChars_9d188 0 = .ok (.aload_n 0, 1) := by decide +kernel
theorem dJ1_toChars_9d188_1 : decode cJ1_toChars_9d188 1 = .ok (.arraylength, 1) := by decide +kernel
theorem dJ1_toChars_9d188_2 : decode cJ1_toChars_9d188 2 = .ok (.newarray .char, 2) := by decide +kernel
theorem dJ1_toChars_9d188_4 : decode cJ1_toChars_9d188 4 = .ok (.astore_n 1, 1) := by decide +kernel
theorem dJ1_toChars_9d188_5 : decode cJ1_toChars_9d188 5 = .ok (.aload_n 0, 1) := by decide +kernel
theorem dJ1_toChars_9d188_6 : decode cJ1_toChars_9d188 6 = .ok (.iconst 0, 1) := by decide +kernel
theorem dJ1_toChars_9d188_7 : decode cJ1_toChars_9d188 7 = .ok (.aload_n 1, 1) := by decide +kernel
theorem dJ1_toChars_9d188_8 : decode cJ1_toChars_9d188 8 = .ok (.iconst 0, 1) := by decide +kernel
theorem dJ1_toChars_9d188_9 : decode cJ1_toChars_9d188 9 = .ok (.aload_n 0, 1) := by decide +kernel
theorem dJ1_toChars_9d188_10 : decode cJ1_toChars_9d188 10 = .ok (.arraylength, 1) := by decide +kernel
theorem dJ1_toChars_9d188_11 : decode cJ1_toChars_9d188 11 = .ok (.invokestatic 13, 3) := by decide +kernel
theorem dJ1_toChars_9d188_14 : decode cJ1_toChars_9d188 14 = .ok (.aload_n 1, 1) := by decide +kernel
theorem dJ1_toChars_9d188_15 : decode cJ1_toChars_9d188 15 = .ok (.areturn, 1) := by decide +kernel
theorem dJ1_inflate_03870_0 : decode cJ1_inflate_03870 0 = .ok (.iconst 0, 1) := by decide +kernel
theorem dJ1_inflate_03870_1 : decode cJ1_inflate_03870 1 = .ok (.istore 5, 2) := by decide +kernel
theorem dJ1_inflate_03870_3 : decode cJ1_inflate_03870 3 = .ok (.iload 5, 2) := by decide +kernel
theorem dJ1_inflate_03870_5 : decode cJ1_inflate_03870 5 = .ok (.iload 4, 2) := by decide +kernel
theorem dJ1_inflate_03870_7 : decode cJ1_inflate_03870 7 = .ok (.if_icmp .ge 26, 3) := by decide +kernel
theorem dJ1_inflate_03870_10 : decode cJ1_inflate_03870 10 = .ok (.aload_n 2, 1) := by decide +kernel
theorem dJ1_inflate_03870_11 : decode cJ1_inflate_03870 11 = .ok (.iload_n 3, 1) := by decide +kernel
theorem dJ1_inflate_03870_12 : decode cJ1_inflate_03870 12 = .ok (.iinc 3 1, 3) := by decide +kernel
theorem dJ1_inflate_03870_15 : decode cJ1_inflate_03870 15 = .ok (.aload_n 0, 1) := by decide +kernel
theorem dJ1_inflate_03870_16 : decode cJ1_inflate_03870 16 = .ok (.iload_n 1, 1) := by decide +kernel
theorem dJ1_inflate_03870_17 : decode cJ1_inflate_03870 17 = .ok (.iinc 1 1, 3) := by decide +kernel
theorem dJ1_inflate_03870_20 : decode cJ1_inflate_03870 20 = .ok (.baload, 1) := by decide +kernel
theorem dJ1_inflate_03870_21 : decode cJ1_inflate_03870 21 = .ok (.sipush 255, 3) := by decide +kernel
theorem dJ1_inflate_03870_24 : decode cJ1_inflate_03870 24 = .ok (.iand, 1) := by decide +kernel
theorem dJ1_inflate_03870_25 : decode cJ1_inflate_03870 25 = .ok (.i2c, 1) := by decide +kernel
theorem dJ1_inflate_03870_26 : decode cJ1_inflate_03870 26 = .ok (.castore, 1) := by decide +kernel
theorem dJ1_inflate_03870_27 : decode cJ1_inflate_03870 27 = .ok (.iinc 5 1, 3) := by decide +kernel
theorem dJ1_inflate_03870_30 : decode cJ1_inflate_03870 30 = .ok (.goto (-27), 3) := by decide +kernel
theorem dJ1_inflate_03870_33 : decode cJ1_inflate_03870 33 = .ok (.return_, 1) := by decide +kernel
theorem dJ2_getChar_3b067_0 : decode cJ2_getChar_3b067 0 = .ok (.getstatic 44, 3) := by decide +kernel
theorem dJ2_getChar_3b067_3 : decode cJ2_getChar_3b067 3 = .ok (.ifCond .ne 25, 3) := by decide +kernel
theorem dJ2_getChar_3b067_6 : decode cJ2_getChar_3b067 6 = .ok (.iload_n 1, 1) := by decide +kernel
theorem dJ2_getChar_3b067_7 : decode cJ2_getChar_3b067 7 = .ok (.ifCond .lt 11, 3) := by decide +kernel
theorem dJ2_getChar_3b067_10 : decode cJ2_getChar_3b067 10 = .ok (.iload_n 1, 1) := by decide +kernel
theorem dJ2_getChar_3b067_11 : decode cJ2_getChar_3b067 11 = .ok (.aload_n 0, 1) := by decide +kernel
theorem dJ2_getChar_3b067_12 : decode cJ2_getChar_3b067 12 = .ok (.invokestatic 48, 3) := by decide +kernel
theorem dJ2_getChar_3b067_15 : decode cJ2_getChar_3b067 15 = .ok (.if_icmp .lt 13, 3) := by decide +kernel
theorem dJ2_getChar_3b067_18 : decode cJ2_getChar_3b067 18 = .ok (.new 52, 3) := by decide +kernel
theorem dJ2_getChar_3b067_21 : decode cJ2_getChar_3b067 21 = .ok (.dup, 1) := by decide +kernel
theorem dJ2_getChar_3b067_22 : decode cJ2_getChar_3b067 22 = .ok (.ldc 54, 2) := by decide +kernel
theorem dJ2_getChar_3b067_24 : decode cJ2_getChar_3b067 24 = .ok (.invokespecial 56, 3) := by decide +kernel
theorem dJ2_getChar_3b067_27 : decode cJ2_getChar_3b067 27 = .ok (.athrow, 1) := by decide +kernel
theorem dJ2_getChar_3b067_28 : decode cJ2_getChar_3b067 28 = .ok (.iload_n 1, 1) := by decide +kernel
theorem dJ2_getChar_3b067_29 : decode cJ2_getChar_3b067 29 = .ok (.iconst 1, 1) := by decide +kernel
theorem dJ2_getChar_3b067_30 : decode cJ2_getChar_3b067 30 = .ok (.ishl, 1) := by decide +kernel
theorem dJ2_getChar_3b067_31 : decode cJ2_getChar_3b067 31 = .ok (.istore_n 1, 1) := by decide +kernel
theorem dJ2_getChar_3b067_32 : decode cJ2_getChar_3b067 32 = .ok (.aload_n 0, 1) := by decide +kernel
theorem dJ2_getChar_3b067_33 : decode cJ2_getChar_3b067 33 = .ok (.iload_n 1, 1) := by decide +kernel
theorem dJ2_getChar_3b067_34 : decode cJ2_getChar_3b067 34 = .ok (.iinc 1 1, 3) := by decide +kernel
theorem dJ2_getChar_3b067_37 : decode cJ2_getChar_3b067 37 = .ok (.baload, 1) := by decide +kernel
theorem dJ2_getChar_3b067_38 : decode cJ2_getChar_3b067 38 = .ok (.sipush 255, 3) := by decide +kernel
theorem dJ2_getChar_3b067_41 : decode cJ2_getChar_3b067 41 = .ok (.iand, 1) := by decide +kernel
theorem dJ2_getChar_3b067_42 : decode cJ2_getChar_3b067 42 = .ok (.getstatic 59, 3) := by decide +kernel
theorem dJ2_getChar_3b067_45 : decode cJ2_getChar_3b067 45 = .ok (.ishl, 1) := by decide +kernel
theorem dJ2_getChar_3b067_46 : decode cJ2_getChar_3b067 46 = .ok (.aload_n 0, 1) := by decide +kernel
theorem dJ2_getChar_3b067_47 : decode cJ2_getChar_3b067 47 = .ok (.iload_n 1, 1) := by decide +kernel
theorem dJ2_getChar_3b067_48 : decode cJ2_getChar_3b067 48 = .ok (.baload, 1) := by decide +kernel
theorem dJ2_getChar_3b067_49 : decode cJ2_getChar_3b067 49 = .ok (.sipush 255, 3) := by decide +kernel
theorem dJ2_getChar_3b067_52 : decode cJ2_getChar_3b067 52 = .ok (.iand, 1) := by decide +kernel
theorem dJ2_getChar_3b067_53 : decode cJ2_getChar_3b067 53 = .ok (.getstatic 63, 3) := by decide +kernel
theorem dJ2_getChar_3b067_56 : decode cJ2_getChar_3b067 56 = .ok (.ishl, 1) := by decide +kernel
theorem dJ2_getChar_3b067_57 : decode cJ2_getChar_3b067 57 = .ok (.ior, 1) := by decide +kernel
theorem dJ2_getChar_3b067_58 : decode cJ2_getChar_3b067 58 = .ok (.i2c, 1) := by decide +kernel
theorem dJ2_getChar_3b067_59 : decode cJ2_getChar_3b067 59 = .ok (.ireturn, 1) := by decide +kernel
theorem dJ2_length_9d52b_0 : decode cJ2_length_9d52b 0 = .ok (.aload_n 0, 1) := by decide +kernel
theorem dJ2_length_9d52b_1 : decode cJ2_length_9d52b 1 = .ok (.arraylength, 1) := by decide +kernel
theorem dJ2_length_9d52b_2 : decode cJ2_length_9d52b 2 = .ok (.iconst 1, 1) := by decide +kernel
theorem dJ2_length_9d52b_3 : decode cJ2_length_9d52b 3 = .ok (.ishr, 1) := by decide +kernel
theorem dJ2_length_9d52b_4 : decode cJ2_length_9d52b 4 = .ok (.ireturn, 1) := by decide +kernel
theorem dJ2_toChars_9d188_0 : decode cJ2_toChars_9d188 0 = .ok (.aload_n 0, 1) := by decide +kernel
theorem dJ2_toChars_9d188_1 : decode cJ2_toChars_9d188 1 = .ok (.arraylength, 1) := by decide +kernel
theorem dJ2_toChars_9d188_2 : decode cJ2_toChars_9d188 2 = .ok (.iconst 1, 1) := by decide +kernel
theorem dJ2_toChars_9d188_3 : decode cJ2_toChars_9d188 3 = .ok (.ishr, 1) := by decide +kernel
theorem dJ2_toChars_9d188_4 : decode cJ2_toChars_9d188 4 = .ok (.newarray .char, 2) := by decide +kernel
theorem dJ2_toChars_9d188_6 : decode cJ2_toChars_9d188 6 = .ok (.astore_n 1, 1) := by decide +kernel
theorem dJ2_toChars_9d188_7 : decode cJ2_toChars_9d188 7 = .ok (.aload_n 0, 1) := by decide +kernel
theorem dJ2_toChars_9d188_8 : decode cJ2_toChars_9d188 8 = .ok (.iconst 0, 1) := by decide +kernel
theorem dJ2_toChars_9d188_9 : decode cJ2_toChars_9d188 9 = .ok (.aload_n 1, 1) := by decide +kernel
theorem dJ2_toChars_9d188_10 : decode cJ2_toChars_9d188 10 = .ok (.arraylength, 1) := by decide +kernel
theorem dJ2_toChars_9d188_11 : decode cJ2_toChars_9d188 11 = .ok (.aload_n 1, 1) := by decide +kernel
theorem dJ2_toChars_9d188_12 : decode cJ2_toChars_9d188 12 = .ok (.iconst 0, 1) := by decide +kernel
theorem dJ2_toChars_9d188_13 : decode cJ2_toChars_9d188 13 = .ok (.invokestatic 103, 3) := by decide +kernel
theorem dJ2_toChars_9d188_16 : decode cJ2_toChars_9d188 16 = .ok (.aload_n 1, 1) := by decide +kernel
theorem dJ2_toChars_9d188_17 : decode cJ2_toChars_9d188 17 = .ok (.areturn, 1) := by decide +kernel
theorem dJ2_getChars_a1a8b_0 : decode cJ2_getChars_a1a8b 0 = .ok (.iload_n 1, 1) := by decide +kernel
theorem dJ2_getChars_a1a8b_1 : decode cJ2_getChars_a1a8b 1 = .ok (.iload_n 2, 1) := by decide +kernel
theorem dJ2_getChars_a1a8b_2 : decode cJ2_getChars_a1a8b 2 = .ok (.if_icmp .ge 11, 3) := by decide +kernel
theorem dJ2_getChars_a1a8b_5 : decode cJ2_getChars_a1a8b 5 = .ok (.iload_n 1, 1) := by decide +kernel
theorem dJ2_getChars_a1a8b_6 : decode cJ2_getChars_a1a8b 6 = .ok (.iload_n 2, 1) := by decide +kernel
theorem dJ2_getChars_a1a8b_7 : decode cJ2_getChars_a1a8b 7 = .ok (.iload_n 1, 1) := by decide +kernel
theorem dJ2_getChars_a1a8b_8 : decode cJ2_getChars_a1a8b 8 = .ok (.isub, 1) := by decide +kernel
theorem dJ2_getChars_a1a8b_9 : decode cJ2_getChars_a1a8b 9 = .ok (.aload_n 0, 1) := by decide +kernel
theorem dJ2_getChars_a1a8b_10 : decode cJ2_getChars_a1a8b 10 = .ok (.invokestatic 173, 3) := by decide +kernel
theorem dJ2_getChars_a1a8b_13 : decode cJ2_getChars_a1a8b 13 = .ok (.iload_n 1, 1) := by decide +kernel
theorem dJ2_getChars_a1a8b_14 : decode cJ2_getChars_a1a8b 14 = .ok (.istore 5, 2) := by decide +kernel
theorem dJ2_getChars_a1a8b_16 : decode cJ2_getChars_a1a8b 16 = .ok (.iload 5, 2) := by decide +kernel
theorem dJ2_getChars_a1a8b_18 : decode cJ2_getChars_a1a8b 18 = .ok (.iload_n 2, 1) := by decide +kernel
theorem dJ2_getChars_a1a8b_19 : decode cJ2_getChars_a1a8b 19 = .ok (.if_icmp .ge 22, 3) := by decide +kernel
theorem dJ2_getChars_a1a8b_22 : decode cJ2_getChars_a1a8b 22 = .ok (.aload_n 3, 1) := by decide +kernel
theorem dJ2_getChars_a1a8b_23 : decode cJ2_getChars_a1a8b 23 = .ok (.iload 4, 2) := by decide +kernel
theorem dJ2_getChars_a1a8b_25 : decode cJ2_getChars_a1a8b 25 = .ok (.iinc 4 1, 3) := by decide +kernel
theorem dJ2_getChars_a1a8b_28 : decode cJ2_getChars_a1a8b 28 = .ok (.aload_n 0, 1) := by decide +kernel
theorem dJ2_getChars_a1a8b_29 : decode cJ2_getChars_a1a8b 29 = .ok (.iload 5, 2) := by decide +kernel
theorem dJ2_getChars_a1a8b_31 : decode cJ2_getChars_a1a8b 31 = .ok (.invokestatic 71, 3) := by decide +kernel
theorem dJ2_getChars_a1a8b_34 : decode cJ2_getChars_a1a8b 34 = .ok (.castore, 1) := by decide +kernel
theorem dJ2_getChars_a1a8b_35 : decode cJ2_getChars_a1a8b 35 = .ok (.iinc 5 1, 3) := by decide +kernel
theorem dJ2_getChars_a1a8b_38 : decode cJ2_getChars_a1a8b 38 = .ok (.goto (-22), 3) := by decide +kernel
theorem dJ2_getChars_a1a8b_41 : decode cJ2_getChars_a1a8b 41 = .ok (.return_, 1) := by decide +kernel
theorem dJ2_checkBoundsOffCount_d044e_0 : decode cJ2_checkBoundsOffCount_d044e 0 = .ok (.iload_n 0, 1) := by decide +kernel
theorem dJ2_checkBoundsOffCount_d044e_1 : decode cJ2_checkBoundsOffCount_d044e 1 = .ok (.iload_n 1, 1) := by decide +kernel
theorem dJ2_checkBoundsOffCount_d044e_2 : decode cJ2_checkBoundsOffCount_d044e 2 = .ok (.aload_n 2, 1) := by decide +kernel
theorem dJ2_checkBoundsOffCount_d044e_3 : decode cJ2_checkBoundsOffCount_d044e 3 = .ok (.invokestatic 48, 3) := by decide +kernel
theorem dJ2_checkBoundsOffCount_d044e_6 : decode cJ2_checkBoundsOffCount_d044e 6 = .ok (.invokestatic 419, 3) := by decide +kernel
theorem dJ2_checkBoundsOffCount_d044e_9 : decode cJ2_checkBoundsOffCount_d044e 9 = .ok (.pop, 1) := by decide +kernel
theorem dJ2_checkBoundsOffCount_d044e_10 : decode cJ2_checkBoundsOffCount_d044e 10 = .ok (.return_, 1) := by decide +kernel
theorem dJ3_checkFromIndexSize_8c36e_0 : decode cJ3_checkFromIndexSize_8c36e 0 = .ok (.iload_n 2, 1) := by decide +kernel
theorem dJ3_checkFromIndexSize_8c36e_1 : decode cJ3_checkFromIndexSize_8c36e 1 = .ok (.iload_n 0, 1) := by decide +kernel
theorem dJ3_checkFromIndexSize_8c36e_2 : decode cJ3_checkFromIndexSize_8c36e 2 = .ok (.ior, 1) := by decide +kernel
theorem dJ3_checkFromIndexSize_8c36e_3 : decode cJ3_checkFromIndexSize_8c36e 3 = .ok (.iload_n 1, 1) := by decide +kernel
theorem dJ3_checkFromIndexSize_8c36e_4 : decode cJ3_checkFromIndexSize_8c36e 4 = .ok (.ior, 1) := by decide +kernel
theorem dJ3_checkFromIndexSize_8c36e_5 : decode cJ3_checkFromIndexSize_8c36e 5 = .ok (.ifCond .lt 10, 3) := by decide +kernel
theorem dJ3_checkFromIndexSize_8c36e_8 : decode cJ3_checkFromIndexSize_8c36e 8 = .ok (.iload_n 1, 1) := by decide +kernel
theorem dJ3_checkFromIndexSize_8c36e_9 : decode cJ3_checkFromIndexSize_8c36e 9 = .ok (.iload_n 2, 1) := by decide +kernel
theorem dJ3_checkFromIndexSize_8c36e_10 : decode cJ3_checkFromIndexSize_8c36e 10 = .ok (.iload_n 0, 1) := by decide +kernel
theorem dJ3_checkFromIndexSize_8c36e_11 : decode cJ3_checkFromIndexSize_8c36e 11 = .ok (.isub, 1) := by decide +kernel
theorem dJ3_checkFromIndexSize_8c36e_12 : decode cJ3_checkFromIndexSize_8c36e 12 = .ok (.if_icmp .le 11, 3) := by decide +kernel
theorem dJ3_checkFromIndexSize_8c36e_15 : decode cJ3_checkFromIndexSize_8c36e 15 = .ok (.aload_n 3, 1) := by decide +kernel
theorem dJ3_checkFromIndexSize_8c36e_16 : decode cJ3_checkFromIndexSize_8c36e 16 = .ok (.iload_n 0, 1) := by decide +kernel
theorem dJ3_checkFromIndexSize_8c36e_17 : decode cJ3_checkFromIndexSize_8c36e 17 = .ok (.iload_n 1, 1) := by decide +kernel
theorem dJ3_checkFromIndexSize_8c36e_18 : decode cJ3_checkFromIndexSize_8c36e 18 = .ok (.iload_n 2, 1) := by decide +kernel
theorem dJ3_checkFromIndexSize_8c36e_19 : decode cJ3_checkFromIndexSize_8c36e 19 = .ok (.invokestatic 103, 3) := by decide +kernel
theorem dJ3_checkFromIndexSize_8c36e_22 : decode cJ3_checkFromIndexSize_8c36e 22 = .ok (.athrow, 1) := by decide +kernel
theorem dJ3_checkFromIndexSize_8c36e_23 : decode cJ3_checkFromIndexSize_8c36e 23 = .ok (.iload_n 0, 1) := by decide +kernel
theorem dJ3_checkFromIndexSize_8c36e_24 : decode cJ3_checkFromIndexSize_8c36e 24 = .ok (.ireturn, 1) := by decide +kernel
