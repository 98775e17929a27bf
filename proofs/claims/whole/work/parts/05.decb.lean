theorem dX3_init_0 : decode cX3_init 0 = .ok (.aload_n 0, 1) := by decide +kernel
theorem dX3_init_1 : decode cX3_init 1 = .ok (.invokespecial 3, 3) := by decide +kernel
theorem dX3_init_4 : decode cX3_init 4 = .ok (.aload_n 0, 1) := by decide +kernel
theorem dX3_init_5 : decode cX3_init 5 = .ok (.new 9, 3) := by decide +kernel
theorem dX3_init_8 : decode cX3_init 8 = .ok (.dup, 1) := by decide +kernel
theorem dX3_init_9 : decode cX3_init 9 = .ok (.invokespecial 11, 3) := by decide +kernel
theorem dX3_init_12 : decode cX3_init 12 = .ok (.putfield 12, 3) := by decide +kernel
theorem dX3_init_15 : decode cX3_init 15 = .ok (.aload_n 0, 1) := by decide +kernel
theorem dX3_init_16 : decode cX3_init 16 = .ok (.new 9, 3) := by decide +kernel
theorem dX3_init_19 : decode cX3_init 19 = .ok (.dup, 1) := by decide +kernel
theorem dX3_init_20 : decode cX3_init 20 = .ok (.invokespecial 11, 3) := by decide +kernel
theorem dX3_init_23 : decode cX3_init 23 = .ok (.putfield 16, 3) := by decide +kernel
theorem dX3_init_26 : decode cX3_init 26 = .ok (.aload_n 0, 1) := by decide +kernel
theorem dX3_init_27 : decode cX3_init 27 = .ok (.new 9, 3) := by decide +kernel
theorem dX3_init_30 : decode cX3_init 30 = .ok (.dup, 1) := by decide +kernel
theorem dX3_init_31 : decode cX3_init 31 = .ok (.invokespecial 11, 3) := by decide +kernel
theorem dX3_init_34 : decode cX3_init 34 = .ok (.putfield 19, 3) := by decide +kernel
theorem dX3_init_37 : decode cX3_init 37 = .ok (.aload_n 0, 1) := by decide +kernel
theorem dX3_init_38 : decode cX3_init 38 = .ok (.iconst 0, 1) := by decide +kernel
theorem dX3_init_39 : decode cX3_init 39 = .ok (.putfield 22, 3) := by decide +kernel
theorem dX3_init_42 : decode cX3_init 42 = .ok (.aload_n 0, 1) := by decide +kernel
theorem dX3_init_43 : decode cX3_init 43 = .ok (.new 26, 3) := by decide +kernel
theorem dX3_init_46 : decode cX3_init 46 = .ok (.dup, 1) := by decide +kernel
theorem dX3_init_47 : decode cX3_init 47 = .ok (.invokespecial 28, 3) := by decide +kernel
theorem dX3_init_50 : decode cX3_init 50 = .ok (.putfield 29, 3) := by decide +kernel
theorem dX3_init_53 : decode cX3_init 53 = .ok (.aload_n 0, 1) := by decide +kernel
theorem dX3_init_54 : decode cX3_init 54 = .ok (.iconst 4, 1) := by decide +kernel
theorem dX3_init_55 : decode cX3_init 55 = .ok (.anewarray 33, 3) := by decide +kernel
theorem dX3_init_58 : decode cX3_init 58 = .ok (.putfield 35, 3) := by decide +kernel
theorem dX3_init_61 : decode cX3_init 61 = .ok (.iconst 0, 1) := by decide +kernel
theorem dX3_init_62 : decode cX3_init 62 = .ok (.istore_n 1, 1) := by decide +kernel
theorem dX3_init_63 : decode cX3_init 63 = .ok (.iload_n 1, 1) := by decide +kernel
theorem dX3_init_64 : decode cX3_init 64 = .ok (.iconst 4, 1) := by decide +kernel
theorem dX3_init_65 : decode cX3_init 65 = .ok (.if_icmp .ge 22, 3) := by decide +kernel
theorem dX3_init_68 : decode cX3_init 68 = .ok (.aload_n 0, 1) := by decide +kernel
theorem dX3_init_69 : decode cX3_init 69 = .ok (.getfield 35, 3) := by decide +kernel
theorem dX3_init_72 : decode cX3_init 72 = .ok (.iload_n 1, 1) := by decide +kernel
theorem dX3_init_73 : decode cX3_init 73 = .ok (.new 33, 3) := by decide +kernel
theorem dX3_init_76 : decode cX3_init 76 = .ok (.dup, 1) := by decide +kernel
theorem dX3_init_77 : decode cX3_init 77 = .ok (.invokespecial 39, 3) := by decide +kernel
theorem dX3_init_80 : decode cX3_init 80 = .ok (.aastore, 1) := by decide +kernel
theorem dX3_init_81 : decode cX3_init 81 = .ok (.iinc 1 1, 3) := by decide +kernel
theorem dX3_init_84 : decode cX3_init 84 = .ok (.goto (-21), 3) := by decide +kernel
theorem dX3_init_87 : decode cX3_init 87 = .ok (.aload_n 0, 1) := by decide +kernel
theorem dX3_init_88 : decode cX3_init 88 = .ok (.bipush 7, 2) := by decide +kernel
theorem dX3_init_90 : decode cX3_init 90 = .ok (.newarray .int, 2) := by decide +kernel
theorem dX3_init_92 : decode cX3_init 92 = .ok (.putfield 40, 3) := by decide +kernel
theorem dX3_init_95 : decode cX3_init 95 = .ok (.return_, 1) := by decide +kernel
theorem dX3_beasts_0 : decode cX3_beasts 0 = .ok (.iload_n 1, 1) := by decide +kernel
theorem dX3_beasts_1 : decode cX3_beasts 1 = .ok (.invokestatic 44, 3) := by decide +kernel
theorem dX3_beasts_4 : decode cX3_beasts 4 = .ok (.ifCond .eq 14, 3) := by decide +kernel
theorem dX3_beasts_7 : decode cX3_beasts 7 = .ok (.iload_n 2, 1) := by decide +kernel
theorem dX3_beasts_8 : decode cX3_beasts 8 = .ok (.iconst 0, 1) := by decide +kernel
theorem dX3_beasts_9 : decode cX3_beasts 9 = .ok (.sipush 9999, 3) := by decide +kernel
theorem dX3_beasts_12 : decode cX3_beasts 12 = .ok (.invokestatic 48, 3) := by decide +kernel
theorem dX3_beasts_15 : decode cX3_beasts 15 = .ok (.ifCond .ne 9, 3) := by decide +kernel
theorem dX3_beasts_18 : decode cX3_beasts 18 = .ok (.aload_n 0, 1) := by decide +kernel
theorem dX3_beasts_19 : decode cX3_beasts 19 = .ok (.iconst 0, 1) := by decide +kernel
theorem dX3_beasts_20 : decode cX3_beasts 20 = .ok (.invokevirtual 52, 3) := by decide +kernel
theorem dX3_beasts_23 : decode cX3_beasts 23 = .ok (.ireturn, 1) := by decide +kernel
theorem dX3_beasts_24 : decode cX3_beasts 24 = .ok (.aload_n 0, 1) := by decide +kernel
theorem dX3_beasts_25 : decode cX3_beasts 25 = .ok (.getfield 12, 3) := by decide +kernel
theorem dX3_beasts_28 : decode cX3_beasts 28 = .ok (.getfield 56, 3) := by decide +kernel
theorem dX3_beasts_31 : decode cX3_beasts 31 = .ok (.iload_n 1, 1) := by decide +kernel
theorem dX3_beasts_32 : decode cX3_beasts 32 = .ok (.iaload, 1) := by decide +kernel
theorem dX3_beasts_33 : decode cX3_beasts 33 = .ok (.istore_n 3, 1) := by decide +kernel
theorem dX3_beasts_34 : decode cX3_beasts 34 = .ok (.aload_n 0, 1) := by decide +kernel
theorem dX3_beasts_35 : decode cX3_beasts 35 = .ok (.getfield 12, 3) := by decide +kernel
theorem dX3_beasts_38 : decode cX3_beasts 38 = .ok (.getfield 56, 3) := by decide +kernel
theorem dX3_beasts_41 : decode cX3_beasts 41 = .ok (.iload_n 1, 1) := by decide +kernel
theorem dX3_beasts_42 : decode cX3_beasts 42 = .ok (.iload_n 2, 1) := by decide +kernel
theorem dX3_beasts_43 : decode cX3_beasts 43 = .ok (.iastore, 1) := by decide +kernel
theorem dX3_beasts_44 : decode cX3_beasts 44 = .ok (.iload_n 3, 1) := by decide +kernel
theorem dX3_beasts_45 : decode cX3_beasts 45 = .ok (.ireturn, 1) := by decide +kernel
theorem dX3_field_0 : decode cX3_field 0 = .ok (.iload_n 1, 1) := by decide +kernel
theorem dX3_field_1 : decode cX3_field 1 = .ok (.invokestatic 44, 3) := by decide +kernel
theorem dX3_field_4 : decode cX3_field 4 = .ok (.ifCond .eq 12, 3) := by decide +kernel
theorem dX3_field_7 : decode cX3_field 7 = .ok (.iload_n 2, 1) := by decide +kernel
theorem dX3_field_8 : decode cX3_field 8 = .ok (.iconst 0, 1) := by decide +kernel
theorem dX3_field_9 : decode cX3_field 9 = .ok (.iconst 1, 1) := by decide +kernel
theorem dX3_field_10 : decode cX3_field 10 = .ok (.invokestatic 48, 3) := by decide +kernel
theorem dX3_field_13 : decode cX3_field 13 = .ok (.ifCond .ne 9, 3) := by decide +kernel
theorem dX3_field_16 : decode cX3_field 16 = .ok (.aload_n 0, 1) := by decide +kernel
theorem dX3_field_17 : decode cX3_field 17 = .ok (.iconst 0, 1) := by decide +kernel
theorem dX3_field_18 : decode cX3_field 18 = .ok (.invokevirtual 52, 3) := by decide +kernel
theorem dX3_field_21 : decode cX3_field 21 = .ok (.ireturn, 1) := by decide +kernel
theorem dX3_field_22 : decode cX3_field 22 = .ok (.iload_n 2, 1) := by decide +kernel
theorem dX3_field_23 : decode cX3_field 23 = .ok (.ifCond .ne 15, 3) := by decide +kernel
theorem dX3_field_26 : decode cX3_field 26 = .ok (.aload_n 0, 1) := by decide +kernel
theorem dX3_field_27 : decode cX3_field 27 = .ok (.getfield 12, 3) := by decide +kernel
theorem dX3_field_30 : decode cX3_field 30 = .ok (.getfield 56, 3) := by decide +kernel
theorem dX3_field_33 : decode cX3_field 33 = .ok (.iload_n 1, 1) := by decide +kernel
theorem dX3_field_34 : decode cX3_field 34 = .ok (.iaload, 1) := by decide +kernel
theorem dX3_field_35 : decode cX3_field 35 = .ok (.goto 11, 3) := by decide +kernel
theorem dX3_field_38 : decode cX3_field 38 = .ok (.aload_n 0, 1) := by decide +kernel
theorem dX3_field_39 : decode cX3_field 39 = .ok (.getfield 12, 3) := by decide +kernel
theorem dX3_field_42 : decode cX3_field 42 = .ok (.iload_n 1, 1) := by decide +kernel
theorem dX3_field_43 : decode cX3_field 43 = .ok (.invokevirtual 59, 3) := by decide +kernel
theorem dX3_field_46 : decode cX3_field 46 = .ok (.ireturn, 1) := by decide +kernel
theorem dX3_gate_0 : decode cX3_gate 0 = .ok (.iload_n 1, 1) := by decide +kernel
theorem dX3_gate_1 : decode cX3_gate 1 = .ok (.invokestatic 62, 3) := by decide +kernel
theorem dX3_gate_4 : decode cX3_gate 4 = .ok (.ifCond .eq 10, 3) := by decide +kernel
theorem dX3_gate_7 : decode cX3_gate 7 = .ok (.iload_n 2, 1) := by decide +kernel
theorem dX3_gate_8 : decode cX3_gate 8 = .ok (.invokestatic 65, 3) := by decide +kernel
theorem dX3_gate_11 : decode cX3_gate 11 = .ok (.ifCond .ne 9, 3) := by decide +kernel
theorem dX3_gate_14 : decode cX3_gate 14 = .ok (.aload_n 0, 1) := by decide +kernel
theorem dX3_gate_15 : decode cX3_gate 15 = .ok (.iconst 0, 1) := by decide +kernel
theorem dX3_gate_16 : decode cX3_gate 16 = .ok (.invokevirtual 52, 3) := by decide +kernel
theorem dX3_gate_19 : decode cX3_gate 19 = .ok (.ireturn, 1) := by decide +kernel
theorem dX3_gate_20 : decode cX3_gate 20 = .ok (.aload_n 0, 1) := by decide +kernel
theorem dX3_gate_21 : decode cX3_gate 21 = .ok (.getfield 12, 3) := by decide +kernel
theorem dX3_gate_24 : decode cX3_gate 24 = .ok (.getfield 68, 3) := by decide +kernel
theorem dX3_gate_27 : decode cX3_gate 27 = .ok (.iload_n 1, 1) := by decide +kernel
theorem dX3_gate_28 : decode cX3_gate 28 = .ok (.iaload, 1) := by decide +kernel
theorem dX3_gate_29 : decode cX3_gate 29 = .ok (.istore_n 3, 1) := by decide +kernel
theorem dX3_gate_30 : decode cX3_gate 30 = .ok (.aload_n 0, 1) := by decide +kernel
theorem dX3_gate_31 : decode cX3_gate 31 = .ok (.getfield 12, 3) := by decide +kernel
theorem dX3_gate_34 : decode cX3_gate 34 = .ok (.getfield 68, 3) := by decide +kernel
theorem dX3_gate_37 : decode cX3_gate 37 = .ok (.iload_n 1, 1) := by decide +kernel
theorem dX3_gate_38 : decode cX3_gate 38 = .ok (.iload_n 2, 1) := by decide +kernel
theorem dX3_gate_39 : decode cX3_gate 39 = .ok (.iastore, 1) := by decide +kernel
theorem dX3_gate_40 : decode cX3_gate 40 = .ok (.iload_n 3, 1) := by decide +kernel
theorem dX3_gate_41 : decode cX3_gate 41 = .ok (.ireturn, 1) := by decide +kernel
theorem dX3_stands_0 : decode cX3_stands 0 = .ok (.iload_n 1, 1) := by decide +kernel
theorem dX3_stands_1 : decode cX3_stands 1 = .ok (.invokestatic 62, 3) := by decide +kernel
theorem dX3_stands_4 : decode cX3_stands 4 = .ok (.ifCond .ne 9, 3) := by decide +kernel
theorem dX3_stands_7 : decode cX3_stands 7 = .ok (.aload_n 0, 1) := by decide +kernel
theorem dX3_stands_8 : decode cX3_stands 8 = .ok (.iconst 0, 1) := by decide +kernel
theorem dX3_stands_9 : decode cX3_stands 9 = .ok (.invokevirtual 52, 3) := by decide +kernel
theorem dX3_stands_12 : decode cX3_stands 12 = .ok (.ireturn, 1) := by decide +kernel
theorem dX3_stands_13 : decode cX3_stands 13 = .ok (.aload_n 0, 1) := by decide +kernel
theorem dX3_stands_14 : decode cX3_stands 14 = .ok (.getfield 12, 3) := by decide +kernel
theorem dX3_stands_17 : decode cX3_stands 17 = .ok (.getfield 68, 3) := by decide +kernel
theorem dX3_stands_20 : decode cX3_stands 20 = .ok (.iload_n 1, 1) := by decide +kernel
theorem dX3_stands_21 : decode cX3_stands 21 = .ok (.iaload, 1) := by decide +kernel
theorem dX3_stands_22 : decode cX3_stands 22 = .ok (.ireturn, 1) := by decide +kernel
theorem dX3_wind_0 : decode cX3_wind 0 = .ok (.iload_n 1, 1) := by decide +kernel
theorem dX3_wind_1 : decode cX3_wind 1 = .ok (.iconst 0, 1) := by decide +kernel
theorem dX3_wind_2 : decode cX3_wind 2 = .ok (.bipush 9, 2) := by decide +kernel
theorem dX3_wind_4 : decode cX3_wind 4 = .ok (.invokestatic 48, 3) := by decide +kernel
theorem dX3_wind_7 : decode cX3_wind 7 = .ok (.ifCond .ne 9, 3) := by decide +kernel
theorem dX3_wind_10 : decode cX3_wind 10 = .ok (.aload_n 0, 1) := by decide +kernel
theorem dX3_wind_11 : decode cX3_wind 11 = .ok (.iconst 0, 1) := by decide +kernel
theorem dX3_wind_12 : decode cX3_wind 12 = .ok (.invokevirtual 52, 3) := by decide +kernel
theorem dX3_wind_15 : decode cX3_wind 15 = .ok (.ireturn, 1) := by decide +kernel
theorem dX3_wind_16 : decode cX3_wind 16 = .ok (.aload_n 0, 1) := by decide +kernel
theorem dX3_wind_17 : decode cX3_wind 17 = .ok (.getfield 12, 3) := by decide +kernel
theorem dX3_wind_20 : decode cX3_wind 20 = .ok (.getfield 71, 3) := by decide +kernel
theorem dX3_wind_23 : decode cX3_wind 23 = .ok (.istore_n 2, 1) := by decide +kernel
theorem dX3_wind_24 : decode cX3_wind 24 = .ok (.aload_n 0, 1) := by decide +kernel
theorem dX3_wind_25 : decode cX3_wind 25 = .ok (.getfield 12, 3) := by decide +kernel
theorem dX3_wind_28 : decode cX3_wind 28 = .ok (.iload_n 1, 1) := by decide +kernel
theorem dX3_wind_29 : decode cX3_wind 29 = .ok (.putfield 71, 3) := by decide +kernel
theorem dX3_wind_32 : decode cX3_wind 32 = .ok (.iload_n 2, 1) := by decide +kernel
theorem dX3_wind_33 : decode cX3_wind 33 = .ok (.ireturn, 1) := by decide +kernel
theorem dX3_walker_0 : decode cX3_walker 0 = .ok (.iload_n 1, 1) := by decide +kernel
theorem dX3_walker_1 : decode cX3_walker 1 = .ok (.invokestatic 75, 3) := by decide +kernel
theorem dX3_walker_4 : decode cX3_walker 4 = .ok (.ifCond .eq 10, 3) := by decide +kernel
theorem dX3_walker_7 : decode cX3_walker 7 = .ok (.iload_n 2, 1) := by decide +kernel
theorem dX3_walker_8 : decode cX3_walker 8 = .ok (.invokestatic 44, 3) := by decide +kernel
theorem dX3_walker_11 : decode cX3_walker 11 = .ok (.ifCond .ne 9, 3) := by decide +kernel
theorem dX3_walker_14 : decode cX3_walker 14 = .ok (.aload_n 0, 1) := by decide +kernel
theorem dX3_walker_15 : decode cX3_walker 15 = .ok (.iconst 0, 1) := by decide +kernel
theorem dX3_walker_16 : decode cX3_walker 16 = .ok (.invokevirtual 52, 3) := by decide +kernel
theorem dX3_walker_19 : decode cX3_walker 19 = .ok (.ireturn, 1) := by decide +kernel
theorem dX3_walker_20 : decode cX3_walker 20 = .ok (.aload_n 0, 1) := by decide +kernel
theorem dX3_walker_21 : decode cX3_walker 21 = .ok (.getfield 12, 3) := by decide +kernel
theorem dX3_walker_24 : decode cX3_walker 24 = .ok (.getfield 78, 3) := by decide +kernel
theorem dX3_walker_27 : decode cX3_walker 27 = .ok (.bipush 8, 2) := by decide +kernel
theorem dX3_walker_29 : decode cX3_walker 29 = .ok (.if_icmp .lt 9, 3) := by decide +kernel
theorem dX3_walker_32 : decode cX3_walker 32 = .ok (.aload_n 0, 1) := by decide +kernel
theorem dX3_walker_33 : decode cX3_walker 33 = .ok (.iconst 1, 1) := by decide +kernel
theorem dX3_walker_34 : decode cX3_walker 34 = .ok (.invokevirtual 52, 3) := by decide +kernel
theorem dX3_walker_37 : decode cX3_walker 37 = .ok (.ireturn, 1) := by decide +kernel
theorem dX3_walker_38 : decode cX3_walker 38 = .ok (.aload_n 0, 1) := by decide +kernel
theorem dX3_walker_39 : decode cX3_walker 39 = .ok (.getfield 12, 3) := by decide +kernel
theorem dX3_walker_42 : decode cX3_walker 42 = .ok (.iload_n 1, 1) := by decide +kernel
theorem dX3_walker_43 : decode cX3_walker 43 = .ok (.iload_n 2, 1) := by decide +kernel
theorem dX3_walker_44 : decode cX3_walker 44 = .ok (.invokevirtual 81, 3) := by decide +kernel
theorem dX3_walker_47 : decode cX3_walker 47 = .ok (.ireturn, 1) := by decide +kernel
theorem dX3_of_0 : decode cX3_of 0 = .ok (.aload_n 0, 1) := by decide +kernel
theorem dX3_of_1 : decode cX3_of 1 = .ok (.iload_n 1, 1) := by decide +kernel
theorem dX3_of_2 : decode cX3_of 2 = .ok (.invokevirtual 85, 3) := by decide +kernel
theorem dX3_of_5 : decode cX3_of 5 = .ok (.ifCond .eq 12, 3) := by decide +kernel
theorem dX3_of_8 : decode cX3_of 8 = .ok (.iload_n 2, 1) := by decide +kernel
theorem dX3_of_9 : decode cX3_of 9 = .ok (.iconst 0, 1) := by decide +kernel
theorem dX3_of_10 : decode cX3_of 10 = .ok (.iconst 5, 1) := by decide +kernel
theorem dX3_of_11 : decode cX3_of 11 = .ok (.invokestatic 48, 3) := by decide +kernel
theorem dX3_of_14 : decode cX3_of 14 = .ok (.ifCond .ne 9, 3) := by decide +kernel
theorem dX3_of_17 : decode cX3_of 17 = .ok (.aload_n 0, 1) := by decide +kernel
theorem dX3_of_18 : decode cX3_of 18 = .ok (.iconst 0, 1) := by decide +kernel
theorem dX3_of_19 : decode cX3_of 19 = .ok (.invokevirtual 52, 3) := by decide +kernel
theorem dX3_of_22 : decode cX3_of 22 = .ok (.ireturn, 1) := by decide +kernel
theorem dX3_of_23 : decode cX3_of 23 = .ok (.iload_n 2, 1) := by decide +kernel
theorem dX3_of_24 : decode cX3_of 24 = .ok (.iconst 5, 1) := by decide +kernel
theorem dX3_of_25 : decode cX3_of 25 = .ok (.if_icmp .ne 14, 3) := by decide +kernel
theorem dX3_of_28 : decode cX3_of 28 = .ok (.aload_n 0, 1) := by decide +kernel
theorem dX3_of_29 : decode cX3_of 29 = .ok (.getfield 12, 3) := by decide +kernel
theorem dX3_of_32 : decode cX3_of 32 = .ok (.iload_n 1, 1) := by decide +kernel
theorem dX3_of_33 : decode cX3_of 33 = .ok (.invokevirtual 88, 3) := by decide +kernel
theorem dX3_of_36 : decode cX3_of 36 = .ok (.goto 14, 3) := by decide +kernel
theorem dX3_of_39 : decode cX3_of 39 = .ok (.aload_n 0, 1) := by decide +kernel
theorem dX3_of_40 : decode cX3_of 40 = .ok (.getfield 12, 3) := by decide +kernel
theorem dX3_of_43 : decode cX3_of 43 = .ok (.getfield 91, 3) := by decide +kernel
theorem dX3_of_46 : decode cX3_of 46 = .ok (.iload_n 2, 1) := by decide +kernel
theorem dX3_of_47 : decode cX3_of 47 = .ok (.aaload, 1) := by decide +kernel
theorem dX3_of_48 : decode cX3_of 48 = .ok (.iload_n 1, 1) := by decide +kernel
theorem dX3_of_49 : decode cX3_of 49 = .ok (.iaload, 1) := by decide +kernel
theorem dX3_of_50 : decode cX3_of 50 = .ok (.ireturn, 1) := by decide +kernel
theorem dX3_change_0 : decode cX3_change 0 = .ok (.aload_n 0, 1) := by decide +kernel
theorem dX3_change_1 : decode cX3_change 1 = .ok (.iload_n 1, 1) := by decide +kernel
theorem dX3_change_2 : decode cX3_change 2 = .ok (.invokevirtual 85, 3) := by decide +kernel
theorem dX3_change_5 : decode cX3_change 5 = .ok (.ifCond .eq 25, 3) := by decide +kernel
theorem dX3_change_8 : decode cX3_change 8 = .ok (.iload_n 2, 1) := by decide +kernel
theorem dX3_change_9 : decode cX3_change 9 = .ok (.iconst 0, 1) := by decide +kernel
theorem dX3_change_10 : decode cX3_change 10 = .ok (.iconst 4, 1) := by decide +kernel
theorem dX3_change_11 : decode cX3_change 11 = .ok (.invokestatic 48, 3) := by decide +kernel
theorem dX3_change_14 : decode cX3_change 14 = .ok (.ifCond .eq 16, 3) := by decide +kernel
theorem dX3_change_17 : decode cX3_change 17 = .ok (.iload_n 3, 1) := by decide +kernel
theorem dX3_change_18 : decode cX3_change 18 = .ok (.iconst 0, 1) := by decide +kernel
theorem dX3_change_19 : decode cX3_change 19 = .ok (.getstatic 95, 3) := by decide +kernel
theorem dX3_change_22 : decode cX3_change 22 = .ok (.iload_n 2, 1) := by decide +kernel
theorem dX3_change_23 : decode cX3_change 23 = .ok (.iaload, 1) := by decide +kernel
theorem dX3_change_24 : decode cX3_change 24 = .ok (.invokestatic 48, 3) := by decide +kernel
theorem dX3_change_27 : decode cX3_change 27 = .ok (.ifCond .ne 9, 3) := by decide +kernel
theorem dX3_change_30 : decode cX3_change 30 = .ok (.aload_n 0, 1) := by decide +kernel
theorem dX3_change_31 : decode cX3_change 31 = .ok (.iconst 0, 1) := by decide +kernel
theorem dX3_change_32 : decode cX3_change 32 = .ok (.invokevirtual 52, 3) := by decide +kernel
theorem dX3_change_35 : decode cX3_change 35 = .ok (.ireturn, 1) := by decide +kernel
theorem dX3_change_36 : decode cX3_change 36 = .ok (.aload_n 0, 1) := by decide +kernel
theorem dX3_change_37 : decode cX3_change 37 = .ok (.getfield 12, 3) := by decide +kernel
theorem dX3_change_40 : decode cX3_change 40 = .ok (.getfield 91, 3) := by decide +kernel
theorem dX3_change_43 : decode cX3_change 43 = .ok (.iload_n 2, 1) := by decide +kernel
theorem dX3_change_44 : decode cX3_change 44 = .ok (.aaload, 1) := by decide +kernel
theorem dX3_change_45 : decode cX3_change 45 = .ok (.iload_n 1, 1) := by decide +kernel
theorem dX3_change_46 : decode cX3_change 46 = .ok (.iaload, 1) := by decide +kernel
theorem dX3_change_47 : decode cX3_change 47 = .ok (.istore 4, 2) := by decide +kernel
theorem dX3_change_49 : decode cX3_change 49 = .ok (.aload_n 0, 1) := by decide +kernel
theorem dX3_change_50 : decode cX3_change 50 = .ok (.getfield 12, 3) := by decide +kernel
theorem dX3_change_53 : decode cX3_change 53 = .ok (.getfield 91, 3) := by decide +kernel
theorem dX3_change_56 : decode cX3_change 56 = .ok (.iload_n 2, 1) := by decide +kernel
theorem dX3_change_57 : decode cX3_change 57 = .ok (.aaload, 1) := by decide +kernel
theorem dX3_change_58 : decode cX3_change 58 = .ok (.iload_n 1, 1) := by decide +kernel
theorem dX3_change_59 : decode cX3_change 59 = .ok (.iload_n 3, 1) := by decide +kernel
theorem dX3_change_60 : decode cX3_change 60 = .ok (.iastore, 1) := by decide +kernel
theorem dX3_change_61 : decode cX3_change 61 = .ok (.iload 4, 2) := by decide +kernel
theorem dX3_change_63 : decode cX3_change 63 = .ok (.ireturn, 1) := by decide +kernel
theorem dX3_leaves_0 : decode cX3_leaves 0 = .ok (.aload_n 0, 1) := by decide +kernel
theorem dX3_leaves_1 : decode cX3_leaves 1 = .ok (.iload_n 1, 1) := by decide +kernel
theorem dX3_leaves_2 : decode cX3_leaves 2 = .ok (.invokevirtual 85, 3) := by decide +kernel
theorem dX3_leaves_5 : decode cX3_leaves 5 = .ok (.ifCond .eq 19, 3) := by decide +kernel
theorem dX3_leaves_8 : decode cX3_leaves 8 = .ok (.iload_n 2, 1) := by decide +kernel
theorem dX3_leaves_9 : decode cX3_leaves 9 = .ok (.invokestatic 65, 3) := by decide +kernel
theorem dX3_leaves_12 : decode cX3_leaves 12 = .ok (.ifCond .eq 12, 3) := by decide +kernel
theorem dX3_leaves_15 : decode cX3_leaves 15 = .ok (.iload_n 3, 1) := by decide +kernel
theorem dX3_leaves_16 : decode cX3_leaves 16 = .ok (.iconst 0, 1) := by decide +kernel
theorem dX3_leaves_17 : decode cX3_leaves 17 = .ok (.iconst 1, 1) := by decide +kernel
theorem dX3_leaves_18 : decode cX3_leaves 18 = .ok (.invokestatic 48, 3) := by decide +kernel
theorem dX3_leaves_21 : decode cX3_leaves 21 = .ok (.ifCond .ne 9, 3) := by decide +kernel
theorem dX3_leaves_24 : decode cX3_leaves 24 = .ok (.aload_n 0, 1) := by decide +kernel
theorem dX3_leaves_25 : decode cX3_leaves 25 = .ok (.iconst 0, 1) := by decide +kernel
theorem dX3_leaves_26 : decode cX3_leaves 26 = .ok (.invokevirtual 52, 3) := by decide +kernel
theorem dX3_leaves_29 : decode cX3_leaves 29 = .ok (.ireturn, 1) := by decide +kernel
theorem dX3_leaves_30 : decode cX3_leaves 30 = .ok (.iload_n 3, 1) := by decide +kernel
theorem dX3_leaves_31 : decode cX3_leaves 31 = .ok (.ifCond .ne 15, 3) := by decide +kernel
theorem dX3_leaves_34 : decode cX3_leaves 34 = .ok (.aload_n 0, 1) := by decide +kernel
theorem dX3_leaves_35 : decode cX3_leaves 35 = .ok (.getfield 12, 3) := by decide +kernel
theorem dX3_leaves_38 : decode cX3_leaves 38 = .ok (.iload_n 1, 1) := by decide +kernel
theorem dX3_leaves_39 : decode cX3_leaves 39 = .ok (.iload_n 2, 1) := by decide +kernel
theorem dX3_leaves_40 : decode cX3_leaves 40 = .ok (.invokevirtual 98, 3) := by decide +kernel
theorem dX3_leaves_43 : decode cX3_leaves 43 = .ok (.goto 12, 3) := by decide +kernel
theorem dX3_leaves_46 : decode cX3_leaves 46 = .ok (.aload_n 0, 1) := by decide +kernel
theorem dX3_leaves_47 : decode cX3_leaves 47 = .ok (.getfield 12, 3) := by decide +kernel
theorem dX3_leaves_50 : decode cX3_leaves 50 = .ok (.iload_n 1, 1) := by decide +kernel
theorem dX3_leaves_51 : decode cX3_leaves 51 = .ok (.iload_n 2, 1) := by decide +kernel
theorem dX3_leaves_52 : decode cX3_leaves 52 = .ok (.invokevirtual 101, 3) := by decide +kernel
theorem dX3_leaves_55 : decode cX3_leaves 55 = .ok (.ireturn, 1) := by decide +kernel
theorem dX3_go_0 : decode cX3_go 0 = .ok (.iload_n 1, 1) := by decide +kernel
theorem dX3_go_1 : decode cX3_go 1 = .ok (.iconst 1, 1) := by decide +kernel
theorem dX3_go_2 : decode cX3_go 2 = .ok (.bipush 60, 2) := by decide +kernel
theorem dX3_go_4 : decode cX3_go 4 = .ok (.invokestatic 48, 3) := by decide +kernel
theorem dX3_go_7 : decode cX3_go 7 = .ok (.ifCond .ne 9, 3) := by decide +kernel
theorem dX3_go_10 : decode cX3_go 10 = .ok (.aload_n 0, 1) := by decide +kernel
theorem dX3_go_11 : decode cX3_go 11 = .ok (.iconst 0, 1) := by decide +kernel
theorem dX3_go_12 : decode cX3_go 12 = .ok (.invokevirtual 52, 3) := by decide +kernel
theorem dX3_go_15 : decode cX3_go 15 = .ok (.ireturn, 1) := by decide +kernel
theorem dX3_go_16 : decode cX3_go 16 = .ok (.aload_n 0, 1) := by decide +kernel
theorem dX3_go_17 : decode cX3_go 17 = .ok (.getfield 12, 3) := by decide +kernel
theorem dX3_go_20 : decode cX3_go 20 = .ok (.getfield 104, 3) := by decide +kernel
theorem dX3_go_23 : decode cX3_go 23 = .ok (.iload_n 1, 1) := by decide +kernel
theorem dX3_go_24 : decode cX3_go 24 = .ok (.iadd, 1) := by decide +kernel
theorem dX3_go_25 : decode cX3_go 25 = .ok (.ldc 107, 2) := by decide +kernel
theorem dX3_go_27 : decode cX3_go 27 = .ok (.if_icmp .le 9, 3) := by decide +kernel
theorem dX3_go_30 : decode cX3_go 30 = .ok (.aload_n 0, 1) := by decide +kernel
theorem dX3_go_31 : decode cX3_go 31 = .ok (.iconst 4, 1) := by decide +kernel
theorem dX3_go_32 : decode cX3_go 32 = .ok (.invokevirtual 52, 3) := by decide +kernel
theorem dX3_go_35 : decode cX3_go 35 = .ok (.ireturn, 1) := by decide +kernel
theorem dX3_go_36 : decode cX3_go 36 = .ok (.aload_n 0, 1) := by decide +kernel
theorem dX3_go_37 : decode cX3_go 37 = .ok (.getfield 12, 3) := by decide +kernel
theorem dX3_go_40 : decode cX3_go 40 = .ok (.iload_n 1, 1) := by decide +kernel
theorem dX3_go_41 : decode cX3_go 41 = .ok (.sipush 255, 3) := by decide +kernel
theorem dX3_go_44 : decode cX3_go 44 = .ok (.invokevirtual 108, 3) := by decide +kernel
theorem dX3_go_47 : decode cX3_go 47 = .ok (.aload_n 0, 1) := by decide +kernel
theorem dX3_go_48 : decode cX3_go 48 = .ok (.getfield 12, 3) := by decide +kernel
theorem dX3_go_51 : decode cX3_go 51 = .ok (.invokevirtual 112, 3) := by decide +kernel
theorem dX3_go_54 : decode cX3_go 54 = .ok (.ireturn, 1) := by decide +kernel
theorem dX3_now_0 : decode cX3_now 0 = .ok (.iload_n 1, 1) := by decide +kernel
theorem dX3_now_1 : decode cX3_now 1 = .ok (.tableswitch 87 0 5 #[39, 47, 55, 63, 71, 79], 39) := by decide +kernel
theorem dX3_now_40 : decode cX3_now 40 = .ok (.aload_n 0, 1) := by decide +kernel
theorem dX3_now_41 : decode cX3_now 41 = .ok (.getfield 12, 3) := by decide +kernel
theorem dX3_now_44 : decode cX3_now 44 = .ok (.getfield 104, 3) := by decide +kernel
theorem dX3_now_47 : decode cX3_now 47 = .ok (.ireturn, 1) := by decide +kernel
theorem dX3_now_48 : decode cX3_now 48 = .ok (.aload_n 0, 1) := by decide +kernel
theorem dX3_now_49 : decode cX3_now 49 = .ok (.getfield 12, 3) := by decide +kernel
theorem dX3_now_52 : decode cX3_now 52 = .ok (.invokevirtual 116, 3) := by decide +kernel
theorem dX3_now_55 : decode cX3_now 55 = .ok (.ireturn, 1) := by decide +kernel
theorem dX3_now_56 : decode cX3_now 56 = .ok (.aload_n 0, 1) := by decide +kernel
theorem dX3_now_57 : decode cX3_now 57 = .ok (.getfield 12, 3) := by decide +kernel
theorem dX3_now_60 : decode cX3_now 60 = .ok (.invokevirtual 119, 3) := by decide +kernel
theorem dX3_now_63 : decode cX3_now 63 = .ok (.ireturn, 1) := by decide +kernel
theorem dX3_now_64 : decode cX3_now 64 = .ok (.aload_n 0, 1) := by decide +kernel
theorem dX3_now_65 : decode cX3_now 65 = .ok (.getfield 12, 3) := by decide +kernel
theorem dX3_now_68 : decode cX3_now 68 = .ok (.invokevirtual 112, 3) := by decide +kernel
theorem dX3_now_71 : decode cX3_now 71 = .ok (.ireturn, 1) := by decide +kernel
theorem dX3_now_72 : decode cX3_now 72 = .ok (.aload_n 0, 1) := by decide +kernel
theorem dX3_now_73 : decode cX3_now 73 = .ok (.getfield 12, 3) := by decide +kernel
theorem dX3_now_76 : decode cX3_now 76 = .ok (.invokevirtual 122, 3) := by decide +kernel
theorem dX3_now_79 : decode cX3_now 79 = .ok (.ireturn, 1) := by decide +kernel
theorem dX3_now_80 : decode cX3_now 80 = .ok (.aload_n 0, 1) := by decide +kernel
theorem dX3_now_81 : decode cX3_now 81 = .ok (.getfield 12, 3) := by decide +kernel
theorem dX3_now_84 : decode cX3_now 84 = .ok (.invokevirtual 125, 3) := by decide +kernel
theorem dX3_now_87 : decode cX3_now 87 = .ok (.ireturn, 1) := by decide +kernel
theorem dX3_now_88 : decode cX3_now 88 = .ok (.aload_n 0, 1) := by decide +kernel
theorem dX3_now_89 : decode cX3_now 89 = .ok (.iconst 0, 1) := by decide +kernel
theorem dX3_now_90 : decode cX3_now 90 = .ok (.invokevirtual 52, 3) := by decide +kernel
theorem dX3_now_93 : decode cX3_now 93 = .ok (.ireturn, 1) := by decide +kernel
theorem dX3_ahead_0 : decode cX3_ahead 0 = .ok (.iload_n 1, 1) := by decide +kernel
theorem dX3_ahead_1 : decode cX3_ahead 1 = .ok (.invokestatic 44, 3) := by decide +kernel
theorem dX3_ahead_4 : decode cX3_ahead 4 = .ok (.ifCond .eq 13, 3) := by decide +kernel
theorem dX3_ahead_7 : decode cX3_ahead 7 = .ok (.iload_n 2, 1) := by decide +kernel
theorem dX3_ahead_8 : decode cX3_ahead 8 = .ok (.iconst 0, 1) := by decide +kernel
theorem dX3_ahead_9 : decode cX3_ahead 9 = .ok (.bipush 100, 2) := by decide +kernel
theorem dX3_ahead_11 : decode cX3_ahead 11 = .ok (.invokestatic 48, 3) := by decide +kernel
theorem dX3_ahead_14 : decode cX3_ahead 14 = .ok (.ifCond .ne 9, 3) := by decide +kernel
theorem dX3_ahead_17 : decode cX3_ahead 17 = .ok (.aload_n 0, 1) := by decide +kernel
theorem dX3_ahead_18 : decode cX3_ahead 18 = .ok (.iconst 0, 1) := by decide +kernel
theorem dX3_ahead_19 : decode cX3_ahead 19 = .ok (.invokevirtual 52, 3) := by decide +kernel
theorem dX3_ahead_22 : decode cX3_ahead 22 = .ok (.ireturn, 1) := by decide +kernel
theorem dX3_ahead_23 : decode cX3_ahead 23 = .ok (.aload_n 0, 1) := by decide +kernel
theorem dX3_ahead_24 : decode cX3_ahead 24 = .ok (.iload_n 2, 1) := by decide +kernel
theorem dX3_ahead_25 : decode cX3_ahead 25 = .ok (.invokevirtual 128, 3) := by decide +kernel
theorem dX3_ahead_28 : decode cX3_ahead 28 = .ok (.aload_n 0, 1) := by decide +kernel
theorem dX3_ahead_29 : decode cX3_ahead 29 = .ok (.getfield 16, 3) := by decide +kernel
theorem dX3_ahead_32 : decode cX3_ahead 32 = .ok (.getfield 56, 3) := by decide +kernel
theorem dX3_ahead_35 : decode cX3_ahead 35 = .ok (.iload_n 1, 1) := by decide +kernel
theorem dX3_ahead_36 : decode cX3_ahead 36 = .ok (.iaload, 1) := by decide +kernel
theorem dX3_ahead_37 : decode cX3_ahead 37 = .ok (.ireturn, 1) := by decide +kernel
theorem dX3_stand_0 : decode cX3_stand 0 = .ok (.iload_n 1, 1) := by decide +kernel
theorem dX3_stand_1 : decode cX3_stand 1 = .ok (.invokestatic 62, 3) := by decide +kernel
theorem dX3_stand_4 : decode cX3_stand 4 = .ok (.ifCond .eq 13, 3) := by decide +kernel
theorem dX3_stand_7 : decode cX3_stand 7 = .ok (.iload_n 2, 1) := by decide +kernel
theorem dX3_stand_8 : decode cX3_stand 8 = .ok (.iconst 0, 1) := by decide +kernel
theorem dX3_stand_9 : decode cX3_stand 9 = .ok (.bipush 100, 2) := by decide +kernel
theorem dX3_stand_11 : decode cX3_stand 11 = .ok (.invokestatic 48, 3) := by decide +kernel
theorem dX3_stand_14 : decode cX3_stand 14 = .ok (.ifCond .ne 9, 3) := by decide +kernel
theorem dX3_stand_17 : decode cX3_stand 17 = .ok (.aload_n 0, 1) := by decide +kernel
theorem dX3_stand_18 : decode cX3_stand 18 = .ok (.iconst 0, 1) := by decide +kernel
theorem dX3_stand_19 : decode cX3_stand 19 = .ok (.invokevirtual 52, 3) := by decide +kernel
theorem dX3_stand_22 : decode cX3_stand 22 = .ok (.ireturn, 1) := by decide +kernel
theorem dX3_stand_23 : decode cX3_stand 23 = .ok (.aload_n 0, 1) := by decide +kernel
theorem dX3_stand_24 : decode cX3_stand 24 = .ok (.iload_n 2, 1) := by decide +kernel
theorem dX3_stand_25 : decode cX3_stand 25 = .ok (.invokevirtual 128, 3) := by decide +kernel
theorem dX3_stand_28 : decode cX3_stand 28 = .ok (.aload_n 0, 1) := by decide +kernel
theorem dX3_stand_29 : decode cX3_stand 29 = .ok (.getfield 16, 3) := by decide +kernel
theorem dX3_stand_32 : decode cX3_stand 32 = .ok (.getfield 68, 3) := by decide +kernel
theorem dX3_stand_35 : decode cX3_stand 35 = .ok (.iload_n 1, 1) := by decide +kernel
theorem dX3_stand_36 : decode cX3_stand 36 = .ok (.iaload, 1) := by decide +kernel
theorem dX3_stand_37 : decode cX3_stand 37 = .ok (.ireturn, 1) := by decide +kernel
theorem dX3_where_0 : decode cX3_where 0 = .ok (.aload_n 0, 1) := by decide +kernel
theorem dX3_where_1 : decode cX3_where 1 = .ok (.iload_n 1, 1) := by decide +kernel
theorem dX3_where_2 : decode cX3_where 2 = .ok (.invokevirtual 85, 3) := by decide +kernel
theorem dX3_where_5 : decode cX3_where 5 = .ok (.ifCond .eq 23, 3) := by decide +kernel
theorem dX3_where_8 : decode cX3_where 8 = .ok (.iload_n 2, 1) := by decide +kernel
theorem dX3_where_9 : decode cX3_where 9 = .ok (.iconst 1, 1) := by decide +kernel
theorem dX3_where_10 : decode cX3_where 10 = .ok (.if_icmp .eq 8, 3) := by decide +kernel
theorem dX3_where_13 : decode cX3_where 13 = .ok (.iload_n 2, 1) := by decide +kernel
theorem dX3_where_14 : decode cX3_where 14 = .ok (.iconst 3, 1) := by decide +kernel
theorem dX3_where_15 : decode cX3_where 15 = .ok (.if_icmp .ne 13, 3) := by decide +kernel
theorem dX3_where_18 : decode cX3_where 18 = .ok (.iload_n 3, 1) := by decide +kernel
theorem dX3_where_19 : decode cX3_where 19 = .ok (.iconst 0, 1) := by decide +kernel
theorem dX3_where_20 : decode cX3_where 20 = .ok (.bipush 100, 2) := by decide +kernel
theorem dX3_where_22 : decode cX3_where 22 = .ok (.invokestatic 48, 3) := by decide +kernel
theorem dX3_where_25 : decode cX3_where 25 = .ok (.ifCond .ne 9, 3) := by decide +kernel
theorem dX3_where_28 : decode cX3_where 28 = .ok (.aload_n 0, 1) := by decide +kernel
theorem dX3_where_29 : decode cX3_where 29 = .ok (.iconst 0, 1) := by decide +kernel
theorem dX3_where_30 : decode cX3_where 30 = .ok (.invokevirtual 52, 3) := by decide +kernel
theorem dX3_where_33 : decode cX3_where 33 = .ok (.ireturn, 1) := by decide +kernel
theorem dX3_where_34 : decode cX3_where 34 = .ok (.aload_n 0, 1) := by decide +kernel
theorem dX3_where_35 : decode cX3_where 35 = .ok (.iload_n 3, 1) := by decide +kernel
theorem dX3_where_36 : decode cX3_where 36 = .ok (.invokevirtual 128, 3) := by decide +kernel
theorem dX3_where_39 : decode cX3_where 39 = .ok (.aload_n 0, 1) := by decide +kernel
theorem dX3_where_40 : decode cX3_where 40 = .ok (.getfield 16, 3) := by decide +kernel
theorem dX3_where_43 : decode cX3_where 43 = .ok (.getfield 91, 3) := by decide +kernel
theorem dX3_where_46 : decode cX3_where 46 = .ok (.iload_n 2, 1) := by decide +kernel
theorem dX3_where_47 : decode cX3_where 47 = .ok (.aaload, 1) := by decide +kernel
theorem dX3_where_48 : decode cX3_where 48 = .ok (.iload_n 1, 1) := by decide +kernel
theorem dX3_where_49 : decode cX3_where 49 = .ok (.iaload, 1) := by decide +kernel
theorem dX3_where_50 : decode cX3_where 50 = .ok (.ireturn, 1) := by decide +kernel
theorem dX3_corn_0 : decode cX3_corn 0 = .ok (.iload_n 1, 1) := by decide +kernel
theorem dX3_corn_1 : decode cX3_corn 1 = .ok (.invokestatic 44, 3) := by decide +kernel
theorem dX3_corn_4 : decode cX3_corn 4 = .ok (.ifCond .eq 14, 3) := by decide +kernel
theorem dX3_corn_7 : decode cX3_corn 7 = .ok (.iload_n 2, 1) := by decide +kernel
theorem dX3_corn_8 : decode cX3_corn 8 = .ok (.iconst 0, 1) := by decide +kernel
theorem dX3_corn_9 : decode cX3_corn 9 = .ok (.sipush 9999, 3) := by decide +kernel
theorem dX3_corn_12 : decode cX3_corn 12 = .ok (.invokestatic 48, 3) := by decide +kernel
theorem dX3_corn_15 : decode cX3_corn 15 = .ok (.ifCond .ne 9, 3) := by decide +kernel
theorem dX3_corn_18 : decode cX3_corn 18 = .ok (.aload_n 0, 1) := by decide +kernel
theorem dX3_corn_19 : decode cX3_corn 19 = .ok (.iconst 0, 1) := by decide +kernel
theorem dX3_corn_20 : decode cX3_corn 20 = .ok (.invokevirtual 52, 3) := by decide +kernel
theorem dX3_corn_23 : decode cX3_corn 23 = .ok (.ireturn, 1) := by decide +kernel
theorem dX3_corn_24 : decode cX3_corn 24 = .ok (.aload_n 0, 1) := by decide +kernel
theorem dX3_corn_25 : decode cX3_corn 25 = .ok (.getfield 16, 3) := by decide +kernel
theorem dX3_corn_28 : decode cX3_corn 28 = .ok (.aload_n 0, 1) := by decide +kernel
theorem dX3_corn_29 : decode cX3_corn 29 = .ok (.getfield 12, 3) := by decide +kernel
theorem dX3_corn_32 : decode cX3_corn 32 = .ok (.invokevirtual 132, 3) := by decide +kernel
theorem dX3_corn_35 : decode cX3_corn 35 = .ok (.iconst 0, 1) := by decide +kernel
theorem dX3_corn_36 : decode cX3_corn 36 = .ok (.istore_n 3, 1) := by decide +kernel
theorem dX3_corn_37 : decode cX3_corn 37 = .ok (.iload_n 3, 1) := by decide +kernel
theorem dX3_corn_38 : decode cX3_corn 38 = .ok (.bipush 100, 2) := by decide +kernel
theorem dX3_corn_40 : decode cX3_corn 40 = .ok (.if_icmp .gt 35, 3) := by decide +kernel
theorem dX3_corn_43 : decode cX3_corn 43 = .ok (.aload_n 0, 1) := by decide +kernel
theorem dX3_corn_44 : decode cX3_corn 44 = .ok (.getfield 16, 3) := by decide +kernel
theorem dX3_corn_47 : decode cX3_corn 47 = .ok (.getfield 56, 3) := by decide +kernel
theorem dX3_corn_50 : decode cX3_corn 50 = .ok (.iload_n 1, 1) := by decide +kernel
theorem dX3_corn_51 : decode cX3_corn 51 = .ok (.iaload, 1) := by decide +kernel
theorem dX3_corn_52 : decode cX3_corn 52 = .ok (.iload_n 2, 1) := by decide +kernel
theorem dX3_corn_53 : decode cX3_corn 53 = .ok (.if_icmp .lt 5, 3) := by decide +kernel
theorem dX3_corn_56 : decode cX3_corn 56 = .ok (.iload_n 3, 1) := by decide +kernel
theorem dX3_corn_57 : decode cX3_corn 57 = .ok (.ireturn, 1) := by decide +kernel
theorem dX3_corn_58 : decode cX3_corn 58 = .ok (.aload_n 0, 1) := by decide +kernel
theorem dX3_corn_59 : decode cX3_corn 59 = .ok (.getfield 16, 3) := by decide +kernel
theorem dX3_corn_62 : decode cX3_corn 62 = .ok (.iconst 1, 1) := by decide +kernel
theorem dX3_corn_63 : decode cX3_corn 63 = .ok (.sipush 255, 3) := by decide +kernel
theorem dX3_corn_66 : decode cX3_corn 66 = .ok (.invokevirtual 108, 3) := by decide +kernel
theorem dX3_corn_69 : decode cX3_corn 69 = .ok (.iinc 3 1, 3) := by decide +kernel
theorem dX3_corn_72 : decode cX3_corn 72 = .ok (.goto (-35), 3) := by decide +kernel
theorem dX3_corn_75 : decode cX3_corn 75 = .ok (.aload_n 0, 1) := by decide +kernel
theorem dX3_corn_76 : decode cX3_corn 76 = .ok (.iconst 3, 1) := by decide +kernel
theorem dX3_corn_77 : decode cX3_corn 77 = .ok (.invokevirtual 52, 3) := by decide +kernel
theorem dX3_corn_80 : decode cX3_corn 80 = .ok (.ireturn, 1) := by decide +kernel
theorem dX3_when_0 : decode cX3_when 0 = .ok (.iload_n 1, 1) := by decide +kernel
theorem dX3_when_1 : decode cX3_when 1 = .ok (.invokestatic 62, 3) := by decide +kernel
theorem dX3_when_4 : decode cX3_when 4 = .ok (.ifCond .eq 10, 3) := by decide +kernel
theorem dX3_when_7 : decode cX3_when 7 = .ok (.iload_n 2, 1) := by decide +kernel
theorem dX3_when_8 : decode cX3_when 8 = .ok (.invokestatic 65, 3) := by decide +kernel
theorem dX3_when_11 : decode cX3_when 11 = .ok (.ifCond .ne 9, 3) := by decide +kernel
theorem dX3_when_14 : decode cX3_when 14 = .ok (.aload_n 0, 1) := by decide +kernel
theorem dX3_when_15 : decode cX3_when 15 = .ok (.iconst 0, 1) := by decide +kernel
theorem dX3_when_16 : decode cX3_when 16 = .ok (.invokevirtual 52, 3) := by decide +kernel
theorem dX3_when_19 : decode cX3_when 19 = .ok (.ireturn, 1) := by decide +kernel
theorem dX3_when_20 : decode cX3_when 20 = .ok (.aload_n 0, 1) := by decide +kernel
theorem dX3_when_21 : decode cX3_when 21 = .ok (.getfield 16, 3) := by decide +kernel
theorem dX3_when_24 : decode cX3_when 24 = .ok (.aload_n 0, 1) := by decide +kernel
theorem dX3_when_25 : decode cX3_when 25 = .ok (.getfield 12, 3) := by decide +kernel
theorem dX3_when_28 : decode cX3_when 28 = .ok (.invokevirtual 132, 3) := by decide +kernel
theorem dX3_when_31 : decode cX3_when 31 = .ok (.iconst 0, 1) := by decide +kernel
theorem dX3_when_32 : decode cX3_when 32 = .ok (.istore_n 3, 1) := by decide +kernel
theorem dX3_when_33 : decode cX3_when 33 = .ok (.iload_n 3, 1) := by decide +kernel
theorem dX3_when_34 : decode cX3_when 34 = .ok (.bipush 100, 2) := by decide +kernel
theorem dX3_when_36 : decode cX3_when 36 = .ok (.if_icmp .gt 35, 3) := by decide +kernel
theorem dX3_when_39 : decode cX3_when 39 = .ok (.aload_n 0, 1) := by decide +kernel
theorem dX3_when_40 : decode cX3_when 40 = .ok (.getfield 16, 3) := by decide +kernel
theorem dX3_when_43 : decode cX3_when 43 = .ok (.getfield 68, 3) := by decide +kernel
theorem dX3_when_46 : decode cX3_when 46 = .ok (.iload_n 1, 1) := by decide +kernel
theorem dX3_when_47 : decode cX3_when 47 = .ok (.iaload, 1) := by decide +kernel
theorem dX3_when_48 : decode cX3_when 48 = .ok (.iload_n 2, 1) := by decide +kernel
theorem dX3_when_49 : decode cX3_when 49 = .ok (.if_icmp .ne 5, 3) := by decide +kernel
theorem dX3_when_52 : decode cX3_when 52 = .ok (.iload_n 3, 1) := by decide +kernel
theorem dX3_when_53 : decode cX3_when 53 = .ok (.ireturn, 1) := by decide +kernel
theorem dX3_when_54 : decode cX3_when 54 = .ok (.aload_n 0, 1) := by decide +kernel
theorem dX3_when_55 : decode cX3_when 55 = .ok (.getfield 16, 3) := by decide +kernel
theorem dX3_when_58 : decode cX3_when 58 = .ok (.iconst 1, 1) := by decide +kernel
theorem dX3_when_59 : decode cX3_when 59 = .ok (.sipush 255, 3) := by decide +kernel
theorem dX3_when_62 : decode cX3_when 62 = .ok (.invokevirtual 108, 3) := by decide +kernel
theorem dX3_when_65 : decode cX3_when 65 = .ok (.iinc 3 1, 3) := by decide +kernel
theorem dX3_when_68 : decode cX3_when 68 = .ok (.goto (-35), 3) := by decide +kernel
theorem dX3_when_71 : decode cX3_when 71 = .ok (.aload_n 0, 1) := by decide +kernel
theorem dX3_when_72 : decode cX3_when 72 = .ok (.iconst 3, 1) := by decide +kernel
theorem dX3_when_73 : decode cX3_when 73 = .ok (.invokevirtual 52, 3) := by decide +kernel
theorem dX3_when_76 : decode cX3_when 76 = .ok (.ireturn, 1) := by decide +kernel
theorem dX3_meet_0 : decode cX3_meet 0 = .ok (.aload_n 0, 1) := by decide +kernel
theorem dX3_meet_1 : decode cX3_meet 1 = .ok (.iload_n 1, 1) := by decide +kernel
theorem dX3_meet_2 : decode cX3_meet 2 = .ok (.invokevirtual 85, 3) := by decide +kernel
theorem dX3_meet_5 : decode cX3_meet 5 = .ok (.ifCond .eq 16, 3) := by decide +kernel
theorem dX3_meet_8 : decode cX3_meet 8 = .ok (.aload_n 0, 1) := by decide +kernel
theorem dX3_meet_9 : decode cX3_meet 9 = .ok (.iload_n 2, 1) := by decide +kernel
theorem dX3_meet_10 : decode cX3_meet 10 = .ok (.invokevirtual 85, 3) := by decide +kernel
theorem dX3_meet_13 : decode cX3_meet 13 = .ok (.ifCond .eq 8, 3) := by decide +kernel
theorem dX3_meet_16 : decode cX3_meet 16 = .ok (.iload_n 1, 1) := by decide +kernel
theorem dX3_meet_17 : decode cX3_meet 17 = .ok (.iload_n 2, 1) := by decide +kernel
theorem dX3_meet_18 : decode cX3_meet 18 = .ok (.if_icmp .ne 9, 3) := by decide +kernel
theorem dX3_meet_21 : decode cX3_meet 21 = .ok (.aload_n 0, 1) := by decide +kernel
theorem dX3_meet_22 : decode cX3_meet 22 = .ok (.iconst 0, 1) := by decide +kernel
theorem dX3_meet_23 : decode cX3_meet 23 = .ok (.invokevirtual 52, 3) := by decide +kernel
theorem dX3_meet_26 : decode cX3_meet 26 = .ok (.ireturn, 1) := by decide +kernel
theorem dX3_meet_27 : decode cX3_meet 27 = .ok (.aload_n 0, 1) := by decide +kernel
theorem dX3_meet_28 : decode cX3_meet 28 = .ok (.getfield 16, 3) := by decide +kernel
theorem dX3_meet_31 : decode cX3_meet 31 = .ok (.aload_n 0, 1) := by decide +kernel
theorem dX3_meet_32 : decode cX3_meet 32 = .ok (.getfield 12, 3) := by decide +kernel
theorem dX3_meet_35 : decode cX3_meet 35 = .ok (.invokevirtual 132, 3) := by decide +kernel
theorem dX3_meet_38 : decode cX3_meet 38 = .ok (.iconst 0, 1) := by decide +kernel
theorem dX3_meet_39 : decode cX3_meet 39 = .ok (.istore_n 3, 1) := by decide +kernel
theorem dX3_meet_40 : decode cX3_meet 40 = .ok (.iload_n 3, 1) := by decide +kernel
theorem dX3_meet_41 : decode cX3_meet 41 = .ok (.bipush 100, 2) := by decide +kernel
theorem dX3_meet_43 : decode cX3_meet 43 = .ok (.if_icmp .gt 47, 3) := by decide +kernel
theorem dX3_meet_46 : decode cX3_meet 46 = .ok (.aload_n 0, 1) := by decide +kernel
theorem dX3_meet_47 : decode cX3_meet 47 = .ok (.getfield 16, 3) := by decide +kernel
theorem dX3_meet_50 : decode cX3_meet 50 = .ok (.getfield 91, 3) := by decide +kernel
theorem dX3_meet_53 : decode cX3_meet 53 = .ok (.iconst 1, 1) := by decide +kernel
theorem dX3_meet_54 : decode cX3_meet 54 = .ok (.aaload, 1) := by decide +kernel
theorem dX3_meet_55 : decode cX3_meet 55 = .ok (.iload_n 1, 1) := by decide +kernel
theorem dX3_meet_56 : decode cX3_meet 56 = .ok (.iaload, 1) := by decide +kernel
theorem dX3_meet_57 : decode cX3_meet 57 = .ok (.aload_n 0, 1) := by decide +kernel
theorem dX3_meet_58 : decode cX3_meet 58 = .ok (.getfield 16, 3) := by decide +kernel
theorem dX3_meet_61 : decode cX3_meet 61 = .ok (.getfield 91, 3) := by decide +kernel
theorem dX3_meet_64 : decode cX3_meet 64 = .ok (.iconst 1, 1) := by decide +kernel
theorem dX3_meet_65 : decode cX3_meet 65 = .ok (.aaload, 1) := by decide +kernel
theorem dX3_meet_66 : decode cX3_meet 66 = .ok (.iload_n 2, 1) := by decide +kernel
theorem dX3_meet_67 : decode cX3_meet 67 = .ok (.iaload, 1) := by decide +kernel
theorem dX3_meet_68 : decode cX3_meet 68 = .ok (.if_icmp .ne 5, 3) := by decide +kernel
theorem dX3_meet_71 : decode cX3_meet 71 = .ok (.iload_n 3, 1) := by decide +kernel
theorem dX3_meet_72 : decode cX3_meet 72 = .ok (.ireturn, 1) := by decide +kernel
theorem dX3_meet_73 : decode cX3_meet 73 = .ok (.aload_n 0, 1) := by decide +kernel
theorem dX3_meet_74 : decode cX3_meet 74 = .ok (.getfield 16, 3) := by decide +kernel
theorem dX3_meet_77 : decode cX3_meet 77 = .ok (.iconst 1, 1) := by decide +kernel
theorem dX3_meet_78 : decode cX3_meet 78 = .ok (.sipush 255, 3) := by decide +kernel
theorem dX3_meet_81 : decode cX3_meet 81 = .ok (.invokevirtual 108, 3) := by decide +kernel
theorem dX3_meet_84 : decode cX3_meet 84 = .ok (.iinc 3 1, 3) := by decide +kernel
theorem dX3_meet_87 : decode cX3_meet 87 = .ok (.goto (-47), 3) := by decide +kernel
theorem dX3_meet_90 : decode cX3_meet 90 = .ok (.aload_n 0, 1) := by decide +kernel
theorem dX3_meet_91 : decode cX3_meet 91 = .ok (.iconst 3, 1) := by decide +kernel
theorem dX3_meet_92 : decode cX3_meet 92 = .ok (.invokevirtual 52, 3) := by decide +kernel
theorem dX3_meet_95 : decode cX3_meet 95 = .ok (.ireturn, 1) := by decide +kernel
theorem dX3_start_0 : decode cX3_start 0 = .ok (.aload_n 0, 1) := by decide +kernel
theorem dX3_start_1 : decode cX3_start 1 = .ok (.iload_n 1, 1) := by decide +kernel
theorem dX3_start_2 : decode cX3_start 2 = .ok (.iload_n 2, 1) := by decide +kernel
theorem dX3_start_3 : decode cX3_start 3 = .ok (.iload_n 3, 1) := by decide +kernel
theorem dX3_start_4 : decode cX3_start 4 = .ok (.iload 4, 2) := by decide +kernel
theorem dX3_start_6 : decode cX3_start 6 = .ok (.invokevirtual 136, 3) := by decide +kernel
theorem dX3_start_9 : decode cX3_start 9 = .ok (.ifCond .ne 9, 3) := by decide +kernel
theorem dX3_start_12 : decode cX3_start 12 = .ok (.aload_n 0, 1) := by decide +kernel
theorem dX3_start_13 : decode cX3_start 13 = .ok (.iconst 0, 1) := by decide +kernel
theorem dX3_start_14 : decode cX3_start 14 = .ok (.invokevirtual 52, 3) := by decide +kernel
theorem dX3_start_17 : decode cX3_start 17 = .ok (.ireturn, 1) := by decide +kernel
theorem dX3_start_18 : decode cX3_start 18 = .ok (.aload_n 0, 1) := by decide +kernel
theorem dX3_start_19 : decode cX3_start 19 = .ok (.iload_n 1, 1) := by decide +kernel
theorem dX3_start_20 : decode cX3_start 20 = .ok (.iconst 1, 1) := by decide +kernel
theorem dX3_start_21 : decode cX3_start 21 = .ok (.iload_n 2, 1) := by decide +kernel
theorem dX3_start_22 : decode cX3_start 22 = .ok (.iload_n 3, 1) := by decide +kernel
theorem dX3_start_23 : decode cX3_start 23 = .ok (.iload 4, 2) := by decide +kernel
theorem dX3_start_25 : decode cX3_start 25 = .ok (.invokevirtual 140, 3) := by decide +kernel
theorem dX3_start_28 : decode cX3_start 28 = .ok (.istore 5, 2) := by decide +kernel
theorem dX3_start_30 : decode cX3_start 30 = .ok (.iload 5, 2) := by decide +kernel
theorem dX3_start_32 : decode cX3_start 32 = .ok (.ifCond .ne 11, 3) := by decide +kernel
theorem dX3_start_35 : decode cX3_start 35 = .ok (.aload_n 0, 1) := by decide +kernel
theorem dX3_start_36 : decode cX3_start 36 = .ok (.iconst 3, 1) := by decide +kernel
theorem dX3_start_37 : decode cX3_start 37 = .ok (.invokevirtual 52, 3) := by decide +kernel
theorem dX3_start_40 : decode cX3_start 40 = .ok (.goto 8, 3) := by decide +kernel
theorem dX3_start_43 : decode cX3_start 43 = .ok (.iload 5, 2) := by decide +kernel
theorem dX3_start_45 : decode cX3_start 45 = .ok (.invokestatic 144, 3) := by decide +kernel
theorem dX3_start_48 : decode cX3_start 48 = .ok (.ireturn, 1) := by decide +kernel
theorem dX3_kindsFor_0 : decode cX3_kindsFor 0 = .ok (.aload_n 0, 1) := by decide +kernel
theorem dX3_kindsFor_1 : decode cX3_kindsFor 1 = .ok (.iload_n 1, 1) := by decide +kernel
theorem dX3_kindsFor_2 : decode cX3_kindsFor 2 = .ok (.iload_n 2, 1) := by decide +kernel
theorem dX3_kindsFor_3 : decode cX3_kindsFor 3 = .ok (.iload_n 3, 1) := by decide +kernel
theorem dX3_kindsFor_4 : decode cX3_kindsFor 4 = .ok (.iload 4, 2) := by decide +kernel
theorem dX3_kindsFor_6 : decode cX3_kindsFor 6 = .ok (.invokevirtual 136, 3) := by decide +kernel
theorem dX3_kindsFor_9 : decode cX3_kindsFor 9 = .ok (.ifCond .ne 9, 3) := by decide +kernel
theorem dX3_kindsFor_12 : decode cX3_kindsFor 12 = .ok (.aload_n 0, 1) := by decide +kernel
theorem dX3_kindsFor_13 : decode cX3_kindsFor 13 = .ok (.iconst 0, 1) := by decide +kernel
theorem dX3_kindsFor_14 : decode cX3_kindsFor 14 = .ok (.invokevirtual 52, 3) := by decide +kernel
theorem dX3_kindsFor_17 : decode cX3_kindsFor 17 = .ok (.ireturn, 1) := by decide +kernel
theorem dX3_kindsFor_18 : decode cX3_kindsFor 18 = .ok (.aload_n 0, 1) := by decide +kernel
theorem dX3_kindsFor_19 : decode cX3_kindsFor 19 = .ok (.iload_n 1, 1) := by decide +kernel
theorem dX3_kindsFor_20 : decode cX3_kindsFor 20 = .ok (.iconst 0, 1) := by decide +kernel
theorem dX3_kindsFor_21 : decode cX3_kindsFor 21 = .ok (.iload_n 2, 1) := by decide +kernel
theorem dX3_kindsFor_22 : decode cX3_kindsFor 22 = .ok (.iload_n 3, 1) := by decide +kernel
theorem dX3_kindsFor_23 : decode cX3_kindsFor 23 = .ok (.iload 4, 2) := by decide +kernel
theorem dX3_kindsFor_25 : decode cX3_kindsFor 25 = .ok (.invokevirtual 140, 3) := by decide +kernel
theorem dX3_kindsFor_28 : decode cX3_kindsFor 28 = .ok (.ireturn, 1) := by decide +kernel
theorem dX3_moods_0 : decode cX3_moods 0 = .ok (.aload_n 0, 1) := by decide +kernel
theorem dX3_moods_1 : decode cX3_moods 1 = .ok (.iload_n 1, 1) := by decide +kernel
theorem dX3_moods_2 : decode cX3_moods 2 = .ok (.iload_n 2, 1) := by decide +kernel
theorem dX3_moods_3 : decode cX3_moods 3 = .ok (.iload_n 3, 1) := by decide +kernel
theorem dX3_moods_4 : decode cX3_moods 4 = .ok (.iload 4, 2) := by decide +kernel
theorem dX3_moods_6 : decode cX3_moods 6 = .ok (.invokevirtual 136, 3) := by decide +kernel
theorem dX3_moods_9 : decode cX3_moods 9 = .ok (.ifCond .ne 9, 3) := by decide +kernel
theorem dX3_moods_12 : decode cX3_moods 12 = .ok (.aload_n 0, 1) := by decide +kernel
theorem dX3_moods_13 : decode cX3_moods 13 = .ok (.iconst 0, 1) := by decide +kernel
theorem dX3_moods_14 : decode cX3_moods 14 = .ok (.invokevirtual 52, 3) := by decide +kernel
theorem dX3_moods_17 : decode cX3_moods 17 = .ok (.ireturn, 1) := by decide +kernel
theorem dX3_moods_18 : decode cX3_moods 18 = .ok (.aload_n 0, 1) := by decide +kernel
theorem dX3_moods_19 : decode cX3_moods 19 = .ok (.iload_n 1, 1) := by decide +kernel
theorem dX3_moods_20 : decode cX3_moods 20 = .ok (.iconst 3, 1) := by decide +kernel
theorem dX3_moods_21 : decode cX3_moods 21 = .ok (.iload_n 2, 1) := by decide +kernel
theorem dX3_moods_22 : decode cX3_moods 22 = .ok (.iload_n 3, 1) := by decide +kernel
theorem dX3_moods_23 : decode cX3_moods 23 = .ok (.iload 4, 2) := by decide +kernel
theorem dX3_moods_25 : decode cX3_moods 25 = .ok (.invokevirtual 140, 3) := by decide +kernel
theorem dX3_moods_28 : decode cX3_moods 28 = .ok (.ireturn, 1) := by decide +kernel
theorem dX3_windFor_0 : decode cX3_windFor 0 = .ok (.iload_n 1, 1) := by decide +kernel
theorem dX3_windFor_1 : decode cX3_windFor 1 = .ok (.invokestatic 44, 3) := by decide +kernel
theorem dX3_windFor_4 : decode cX3_windFor 4 = .ok (.ifCond .eq 24, 3) := by decide +kernel
theorem dX3_windFor_7 : decode cX3_windFor 7 = .ok (.iload_n 2, 1) := by decide +kernel
theorem dX3_windFor_8 : decode cX3_windFor 8 = .ok (.iconst 0, 1) := by decide +kernel
theorem dX3_windFor_9 : decode cX3_windFor 9 = .ok (.sipush 9999, 3) := by decide +kernel
theorem dX3_windFor_12 : decode cX3_windFor 12 = .ok (.invokestatic 48, 3) := by decide +kernel
theorem dX3_windFor_15 : decode cX3_windFor 15 = .ok (.ifCond .eq 13, 3) := by decide +kernel
theorem dX3_windFor_18 : decode cX3_windFor 18 = .ok (.iload_n 3, 1) := by decide +kernel
theorem dX3_windFor_19 : decode cX3_windFor 19 = .ok (.iconst 0, 1) := by decide +kernel
theorem dX3_windFor_20 : decode cX3_windFor 20 = .ok (.bipush 40, 2) := by decide +kernel
theorem dX3_windFor_22 : decode cX3_windFor 22 = .ok (.invokestatic 48, 3) := by decide +kernel
theorem dX3_windFor_25 : decode cX3_windFor 25 = .ok (.ifCond .ne 9, 3) := by decide +kernel
theorem dX3_windFor_28 : decode cX3_windFor 28 = .ok (.aload_n 0, 1) := by decide +kernel
theorem dX3_windFor_29 : decode cX3_windFor 29 = .ok (.iconst 0, 1) := by decide +kernel
theorem dX3_windFor_30 : decode cX3_windFor 30 = .ok (.invokevirtual 52, 3) := by decide +kernel
theorem dX3_windFor_33 : decode cX3_windFor 33 = .ok (.ireturn, 1) := by decide +kernel
theorem dX3_windFor_34 : decode cX3_windFor 34 = .ok (.iconst 0, 1) := by decide +kernel
theorem dX3_windFor_35 : decode cX3_windFor 35 = .ok (.istore 4, 2) := by decide +kernel
theorem dX3_windFor_37 : decode cX3_windFor 37 = .ok (.iload 4, 2) := by decide +kernel
theorem dX3_windFor_39 : decode cX3_windFor 39 = .ok (.bipush 9, 2) := by decide +kernel
theorem dX3_windFor_41 : decode cX3_windFor 41 = .ok (.if_icmp .gt 56, 3) := by decide +kernel
theorem dX3_windFor_44 : decode cX3_windFor 44 = .ok (.aload_n 0, 1) := by decide +kernel
theorem dX3_windFor_45 : decode cX3_windFor 45 = .ok (.getfield 16, 3) := by decide +kernel
theorem dX3_windFor_48 : decode cX3_windFor 48 = .ok (.aload_n 0, 1) := by decide +kernel
theorem dX3_windFor_49 : decode cX3_windFor 49 = .ok (.getfield 12, 3) := by decide +kernel
theorem dX3_windFor_52 : decode cX3_windFor 52 = .ok (.invokevirtual 132, 3) := by decide +kernel
theorem dX3_windFor_55 : decode cX3_windFor 55 = .ok (.aload_n 0, 1) := by decide +kernel
theorem dX3_windFor_56 : decode cX3_windFor 56 = .ok (.getfield 16, 3) := by decide +kernel
theorem dX3_windFor_59 : decode cX3_windFor 59 = .ok (.iload 4, 2) := by decide +kernel
theorem dX3_windFor_61 : decode cX3_windFor 61 = .ok (.putfield 71, 3) := by decide +kernel
theorem dX3_windFor_64 : decode cX3_windFor 64 = .ok (.aload_n 0, 1) := by decide +kernel
theorem dX3_windFor_65 : decode cX3_windFor 65 = .ok (.getfield 16, 3) := by decide +kernel
theorem dX3_windFor_68 : decode cX3_windFor 68 = .ok (.iload_n 3, 1) := by decide +kernel
theorem dX3_windFor_69 : decode cX3_windFor 69 = .ok (.sipush 255, 3) := by decide +kernel
theorem dX3_windFor_72 : decode cX3_windFor 72 = .ok (.invokevirtual 108, 3) := by decide +kernel
theorem dX3_windFor_75 : decode cX3_windFor 75 = .ok (.aload_n 0, 1) := by decide +kernel
theorem dX3_windFor_76 : decode cX3_windFor 76 = .ok (.getfield 16, 3) := by decide +kernel
theorem dX3_windFor_79 : decode cX3_windFor 79 = .ok (.getfield 56, 3) := by decide +kernel
theorem dX3_windFor_82 : decode cX3_windFor 82 = .ok (.iload_n 1, 1) := by decide +kernel
theorem dX3_windFor_83 : decode cX3_windFor 83 = .ok (.iaload, 1) := by decide +kernel
theorem dX3_windFor_84 : decode cX3_windFor 84 = .ok (.iload_n 2, 1) := by decide +kernel
theorem dX3_windFor_85 : decode cX3_windFor 85 = .ok (.if_icmp .gt 6, 3) := by decide +kernel
theorem dX3_windFor_88 : decode cX3_windFor 88 = .ok (.iload 4, 2) := by decide +kernel
theorem dX3_windFor_90 : decode cX3_windFor 90 = .ok (.ireturn, 1) := by decide +kernel
theorem dX3_windFor_91 : decode cX3_windFor 91 = .ok (.iinc 4 1, 3) := by decide +kernel
theorem dX3_windFor_94 : decode cX3_windFor 94 = .ok (.goto (-57), 3) := by decide +kernel
theorem dX3_windFor_97 : decode cX3_windFor 97 = .ok (.aload_n 0, 1) := by decide +kernel
theorem dX3_windFor_98 : decode cX3_windFor 98 = .ok (.iconst 3, 1) := by decide +kernel
theorem dX3_windFor_99 : decode cX3_windFor 99 = .ok (.invokevirtual 52, 3) := by decide +kernel
theorem dX3_windFor_102 : decode cX3_windFor 102 = .ok (.ireturn, 1) := by decide +kernel
theorem dX3_home_0 : decode cX3_home 0 = .ok (.iload_n 1, 1) := by decide +kernel
theorem dX3_home_1 : decode cX3_home 1 = .ok (.invokestatic 44, 3) := by decide +kernel
theorem dX3_home_4 : decode cX3_home 4 = .ok (.ifCond .eq 24, 3) := by decide +kernel
theorem dX3_home_7 : decode cX3_home 7 = .ok (.iload_n 2, 1) := by decide +kernel
theorem dX3_home_8 : decode cX3_home 8 = .ok (.iconst 0, 1) := by decide +kernel
theorem dX3_home_9 : decode cX3_home 9 = .ok (.sipush 9999, 3) := by decide +kernel
theorem dX3_home_12 : decode cX3_home 12 = .ok (.invokestatic 48, 3) := by decide +kernel
theorem dX3_home_15 : decode cX3_home 15 = .ok (.ifCond .eq 13, 3) := by decide +kernel
theorem dX3_home_18 : decode cX3_home 18 = .ok (.iload_n 3, 1) := by decide +kernel
theorem dX3_home_19 : decode cX3_home 19 = .ok (.iconst 0, 1) := by decide +kernel
theorem dX3_home_20 : decode cX3_home 20 = .ok (.bipush 20, 2) := by decide +kernel
theorem dX3_home_22 : decode cX3_home 22 = .ok (.invokestatic 48, 3) := by decide +kernel
theorem dX3_home_25 : decode cX3_home 25 = .ok (.ifCond .ne 9, 3) := by decide +kernel
theorem dX3_home_28 : decode cX3_home 28 = .ok (.aload_n 0, 1) := by decide +kernel
theorem dX3_home_29 : decode cX3_home 29 = .ok (.iconst 0, 1) := by decide +kernel
theorem dX3_home_30 : decode cX3_home 30 = .ok (.invokevirtual 52, 3) := by decide +kernel
theorem dX3_home_33 : decode cX3_home 33 = .ok (.ireturn, 1) := by decide +kernel
theorem dX3_home_34 : decode cX3_home 34 = .ok (.iconst 0, 1) := by decide +kernel
theorem dX3_home_35 : decode cX3_home 35 = .ok (.istore 4, 2) := by decide +kernel
theorem dX3_home_37 : decode cX3_home 37 = .ok (.iload 4, 2) := by decide +kernel
theorem dX3_home_39 : decode cX3_home 39 = .ok (.aload_n 0, 1) := by decide +kernel
theorem dX3_home_40 : decode cX3_home 40 = .ok (.getfield 12, 3) := by decide +kernel
theorem dX3_home_43 : decode cX3_home 43 = .ok (.getfield 78, 3) := by decide +kernel
theorem dX3_home_46 : decode cX3_home 46 = .ok (.if_icmp .gt 28, 3) := by decide +kernel
theorem dX3_home_49 : decode cX3_home 49 = .ok (.aload_n 0, 1) := by decide +kernel
theorem dX3_home_50 : decode cX3_home 50 = .ok (.iload 4, 2) := by decide +kernel
theorem dX3_home_52 : decode cX3_home 52 = .ok (.iload_n 1, 1) := by decide +kernel
theorem dX3_home_53 : decode cX3_home 53 = .ok (.iload_n 2, 1) := by decide +kernel
theorem dX3_home_54 : decode cX3_home 54 = .ok (.iload_n 3, 1) := by decide +kernel
theorem dX3_home_55 : decode cX3_home 55 = .ok (.invokevirtual 149, 3) := by decide +kernel
theorem dX3_home_58 : decode cX3_home 58 = .ok (.istore 5, 2) := by decide +kernel
theorem dX3_home_60 : decode cX3_home 60 = .ok (.iload 5, 2) := by decide +kernel
theorem dX3_home_62 : decode cX3_home 62 = .ok (.ifCond .lt 6, 3) := by decide +kernel
theorem dX3_home_65 : decode cX3_home 65 = .ok (.iload 5, 2) := by decide +kernel
theorem dX3_home_67 : decode cX3_home 67 = .ok (.ireturn, 1) := by decide +kernel
theorem dX3_home_68 : decode cX3_home 68 = .ok (.iinc 4 1, 3) := by decide +kernel
theorem dX3_home_71 : decode cX3_home 71 = .ok (.goto (-34), 3) := by decide +kernel
theorem dX3_home_74 : decode cX3_home 74 = .ok (.aload_n 0, 1) := by decide +kernel
theorem dX3_home_75 : decode cX3_home 75 = .ok (.iconst 3, 1) := by decide +kernel
theorem dX3_home_76 : decode cX3_home 76 = .ok (.invokevirtual 52, 3) := by decide +kernel
theorem dX3_home_79 : decode cX3_home 79 = .ok (.ireturn, 1) := by decide +kernel
theorem dX3_shut_0 : decode cX3_shut 0 = .ok (.iload_n 1, 1) := by decide +kernel
theorem dX3_shut_1 : decode cX3_shut 1 = .ok (.invokestatic 44, 3) := by decide +kernel
theorem dX3_shut_4 : decode cX3_shut 4 = .ok (.ifCond .eq 13, 3) := by decide +kernel
theorem dX3_shut_7 : decode cX3_shut 7 = .ok (.iload_n 2, 1) := by decide +kernel
theorem dX3_shut_8 : decode cX3_shut 8 = .ok (.iconst 0, 1) := by decide +kernel
theorem dX3_shut_9 : decode cX3_shut 9 = .ok (.bipush 40, 2) := by decide +kernel
theorem dX3_shut_11 : decode cX3_shut 11 = .ok (.invokestatic 48, 3) := by decide +kernel
theorem dX3_shut_14 : decode cX3_shut 14 = .ok (.ifCond .ne 9, 3) := by decide +kernel
theorem dX3_shut_17 : decode cX3_shut 17 = .ok (.aload_n 0, 1) := by decide +kernel
theorem dX3_shut_18 : decode cX3_shut 18 = .ok (.iconst 0, 1) := by decide +kernel
theorem dX3_shut_19 : decode cX3_shut 19 = .ok (.invokevirtual 52, 3) := by decide +kernel
theorem dX3_shut_22 : decode cX3_shut 22 = .ok (.ireturn, 1) := by decide +kernel
theorem dX3_shut_23 : decode cX3_shut 23 = .ok (.iconst 0, 1) := by decide +kernel
theorem dX3_shut_24 : decode cX3_shut 24 = .ok (.istore_n 3, 1) := by decide +kernel
theorem dX3_shut_25 : decode cX3_shut 25 = .ok (.sipush 10000, 3) := by decide +kernel
theorem dX3_shut_28 : decode cX3_shut 28 = .ok (.istore 4, 2) := by decide +kernel
theorem dX3_shut_30 : decode cX3_shut 30 = .ok (.iconst 0, 1) := by decide +kernel
theorem dX3_shut_31 : decode cX3_shut 31 = .ok (.istore 5, 2) := by decide +kernel
theorem dX3_shut_33 : decode cX3_shut 33 = .ok (.iload 5, 2) := by decide +kernel
theorem dX3_shut_35 : decode cX3_shut 35 = .ok (.bipush 8, 2) := by decide +kernel
theorem dX3_shut_37 : decode cX3_shut 37 = .ok (.if_icmp .ge 70, 3) := by decide +kernel
theorem dX3_shut_40 : decode cX3_shut 40 = .ok (.aload_n 0, 1) := by decide +kernel
theorem dX3_shut_41 : decode cX3_shut 41 = .ok (.getfield 16, 3) := by decide +kernel
theorem dX3_shut_44 : decode cX3_shut 44 = .ok (.aload_n 0, 1) := by decide +kernel
theorem dX3_shut_45 : decode cX3_shut 45 = .ok (.getfield 12, 3) := by decide +kernel
theorem dX3_shut_48 : decode cX3_shut 48 = .ok (.invokevirtual 132, 3) := by decide +kernel
theorem dX3_shut_51 : decode cX3_shut 51 = .ok (.aload_n 0, 1) := by decide +kernel
theorem dX3_shut_52 : decode cX3_shut 52 = .ok (.getfield 16, 3) := by decide +kernel
theorem dX3_shut_55 : decode cX3_shut 55 = .ok (.getfield 68, 3) := by decide +kernel
theorem dX3_shut_58 : decode cX3_shut 58 = .ok (.iload 5, 2) := by decide +kernel
theorem dX3_shut_60 : decode cX3_shut 60 = .ok (.iconst 0, 1) := by decide +kernel
theorem dX3_shut_61 : decode cX3_shut 61 = .ok (.iastore, 1) := by decide +kernel
theorem dX3_shut_62 : decode cX3_shut 62 = .ok (.aload_n 0, 1) := by decide +kernel
theorem dX3_shut_63 : decode cX3_shut 63 = .ok (.getfield 16, 3) := by decide +kernel
theorem dX3_shut_66 : decode cX3_shut 66 = .ok (.iload_n 2, 1) := by decide +kernel
theorem dX3_shut_67 : decode cX3_shut 67 = .ok (.sipush 255, 3) := by decide +kernel
theorem dX3_shut_70 : decode cX3_shut 70 = .ok (.invokevirtual 108, 3) := by decide +kernel
theorem dX3_shut_73 : decode cX3_shut 73 = .ok (.aload_n 0, 1) := by decide +kernel
theorem dX3_shut_74 : decode cX3_shut 74 = .ok (.getfield 16, 3) := by decide +kernel
theorem dX3_shut_77 : decode cX3_shut 77 = .ok (.getfield 56, 3) := by decide +kernel
theorem dX3_shut_80 : decode cX3_shut 80 = .ok (.iload_n 1, 1) := by decide +kernel
theorem dX3_shut_81 : decode cX3_shut 81 = .ok (.iaload, 1) := by decide +kernel
theorem dX3_shut_82 : decode cX3_shut 82 = .ok (.iload 4, 2) := by decide +kernel
theorem dX3_shut_84 : decode cX3_shut 84 = .ok (.if_icmp .ge 17, 3) := by decide +kernel
theorem dX3_shut_87 : decode cX3_shut 87 = .ok (.aload_n 0, 1) := by decide +kernel
theorem dX3_shut_88 : decode cX3_shut 88 = .ok (.getfield 16, 3) := by decide +kernel
theorem dX3_shut_91 : decode cX3_shut 91 = .ok (.getfield 56, 3) := by decide +kernel
theorem dX3_shut_94 : decode cX3_shut 94 = .ok (.iload_n 1, 1) := by decide +kernel
theorem dX3_shut_95 : decode cX3_shut 95 = .ok (.iaload, 1) := by decide +kernel
theorem dX3_shut_96 : decode cX3_shut 96 = .ok (.istore 4, 2) := by decide +kernel
theorem dX3_shut_98 : decode cX3_shut 98 = .ok (.iload 5, 2) := by decide +kernel
theorem dX3_shut_100 : decode cX3_shut 100 = .ok (.istore_n 3, 1) := by decide +kernel
theorem dX3_shut_101 : decode cX3_shut 101 = .ok (.iinc 5 1, 3) := by decide +kernel
theorem dX3_shut_104 : decode cX3_shut 104 = .ok (.goto (-71), 3) := by decide +kernel
theorem dX3_shut_107 : decode cX3_shut 107 = .ok (.iload_n 3, 1) := by decide +kernel
theorem dX3_shut_108 : decode cX3_shut 108 = .ok (.ireturn, 1) := by decide +kernel
theorem dX3_who_0 : decode cX3_who 0 = .ok (.aload_n 0, 1) := by decide +kernel
theorem dX3_who_1 : decode cX3_who 1 = .ok (.iload_n 1, 1) := by decide +kernel
theorem dX3_who_2 : decode cX3_who 2 = .ok (.invokevirtual 153, 3) := by decide +kernel
theorem dX3_who_5 : decode cX3_who 5 = .ok (.istore_n 2, 1) := by decide +kernel
theorem dX3_who_6 : decode cX3_who 6 = .ok (.iload_n 2, 1) := by decide +kernel
theorem dX3_who_7 : decode cX3_who 7 = .ok (.iconst (-1), 1) := by decide +kernel
theorem dX3_who_8 : decode cX3_who 8 = .ok (.if_icmp .eq 9, 3) := by decide +kernel
theorem dX3_who_11 : decode cX3_who 11 = .ok (.aload_n 0, 1) := by decide +kernel
theorem dX3_who_12 : decode cX3_who 12 = .ok (.iload_n 2, 1) := by decide +kernel
theorem dX3_who_13 : decode cX3_who 13 = .ok (.invokevirtual 52, 3) := by decide +kernel
theorem dX3_who_16 : decode cX3_who 16 = .ok (.ireturn, 1) := by decide +kernel
theorem dX3_who_17 : decode cX3_who 17 = .ok (.iconst 0, 1) := by decide +kernel
theorem dX3_who_18 : decode cX3_who 18 = .ok (.istore_n 3, 1) := by decide +kernel
theorem dX3_who_19 : decode cX3_who 19 = .ok (.iconst 0, 1) := by decide +kernel
theorem dX3_who_20 : decode cX3_who 20 = .ok (.istore 4, 2) := by decide +kernel
theorem dX3_who_22 : decode cX3_who 22 = .ok (.iload 4, 2) := by decide +kernel
theorem dX3_who_24 : decode cX3_who 24 = .ok (.aload_n 0, 1) := by decide +kernel
theorem dX3_who_25 : decode cX3_who 25 = .ok (.getfield 12, 3) := by decide +kernel
theorem dX3_who_28 : decode cX3_who 28 = .ok (.getfield 78, 3) := by decide +kernel
theorem dX3_who_31 : decode cX3_who 31 = .ok (.if_icmp .ge 55, 3) := by decide +kernel
theorem dX3_who_34 : decode cX3_who 34 = .ok (.aload_n 0, 1) := by decide +kernel
theorem dX3_who_35 : decode cX3_who 35 = .ok (.getfield 16, 3) := by decide +kernel
theorem dX3_who_38 : decode cX3_who 38 = .ok (.aload_n 0, 1) := by decide +kernel
theorem dX3_who_39 : decode cX3_who 39 = .ok (.getfield 12, 3) := by decide +kernel
theorem dX3_who_42 : decode cX3_who 42 = .ok (.invokevirtual 132, 3) := by decide +kernel
theorem dX3_who_45 : decode cX3_who 45 = .ok (.aload_n 0, 1) := by decide +kernel
theorem dX3_who_46 : decode cX3_who 46 = .ok (.getfield 16, 3) := by decide +kernel
theorem dX3_who_49 : decode cX3_who 49 = .ok (.iconst 1, 1) := by decide +kernel
theorem dX3_who_50 : decode cX3_who 50 = .ok (.iconst 1, 1) := by decide +kernel
theorem dX3_who_51 : decode cX3_who 51 = .ok (.iload 4, 2) := by decide +kernel
theorem dX3_who_53 : decode cX3_who 53 = .ok (.ishl, 1) := by decide +kernel
theorem dX3_who_54 : decode cX3_who 54 = .ok (.invokevirtual 108, 3) := by decide +kernel
theorem dX3_who_57 : decode cX3_who 57 = .ok (.aload_n 0, 1) := by decide +kernel
theorem dX3_who_58 : decode cX3_who 58 = .ok (.getfield 16, 3) := by decide +kernel
theorem dX3_who_61 : decode cX3_who 61 = .ok (.aload_n 0, 1) := by decide +kernel
theorem dX3_who_62 : decode cX3_who 62 = .ok (.getfield 35, 3) := by decide +kernel
theorem dX3_who_65 : decode cX3_who 65 = .ok (.iload_n 1, 1) := by decide +kernel
theorem dX3_who_66 : decode cX3_who 66 = .ok (.aaload, 1) := by decide +kernel
theorem dX3_who_67 : decode cX3_who 67 = .ok (.invokevirtual 156, 3) := by decide +kernel
theorem dX3_who_70 : decode cX3_who 70 = .ok (.ifCond .eq 10, 3) := by decide +kernel
theorem dX3_who_73 : decode cX3_who 73 = .ok (.iload_n 3, 1) := by decide +kernel
theorem dX3_who_74 : decode cX3_who 74 = .ok (.iconst 1, 1) := by decide +kernel
theorem dX3_who_75 : decode cX3_who 75 = .ok (.iload 4, 2) := by decide +kernel
theorem dX3_who_77 : decode cX3_who 77 = .ok (.ishl, 1) := by decide +kernel
theorem dX3_who_78 : decode cX3_who 78 = .ok (.ior, 1) := by decide +kernel
theorem dX3_who_79 : decode cX3_who 79 = .ok (.istore_n 3, 1) := by decide +kernel
theorem dX3_who_80 : decode cX3_who 80 = .ok (.iinc 4 1, 3) := by decide +kernel
theorem dX3_who_83 : decode cX3_who 83 = .ok (.goto (-61), 3) := by decide +kernel
theorem dX3_who_86 : decode cX3_who 86 = .ok (.iload_n 3, 1) := by decide +kernel
theorem dX3_who_87 : decode cX3_who 87 = .ok (.ireturn, 1) := by decide +kernel
theorem dX3_fits_0 : decode cX3_fits 0 = .ok (.aload_n 0, 1) := by decide +kernel
theorem dX3_fits_1 : decode cX3_fits 1 = .ok (.iload_n 1, 1) := by decide +kernel
theorem dX3_fits_2 : decode cX3_fits 2 = .ok (.invokevirtual 153, 3) := by decide +kernel
theorem dX3_fits_5 : decode cX3_fits 5 = .ok (.istore 4, 2) := by decide +kernel
theorem dX3_fits_7 : decode cX3_fits 7 = .ok (.iload 4, 2) := by decide +kernel
theorem dX3_fits_9 : decode cX3_fits 9 = .ok (.iconst (-1), 1) := by decide +kernel
theorem dX3_fits_10 : decode cX3_fits 10 = .ok (.if_icmp .eq 10, 3) := by decide +kernel
theorem dX3_fits_13 : decode cX3_fits 13 = .ok (.aload_n 0, 1) := by decide +kernel
theorem dX3_fits_14 : decode cX3_fits 14 = .ok (.iload 4, 2) := by decide +kernel
theorem dX3_fits_16 : decode cX3_fits 16 = .ok (.invokevirtual 52, 3) := by decide +kernel
theorem dX3_fits_19 : decode cX3_fits 19 = .ok (.ireturn, 1) := by decide +kernel
theorem dX3_fits_20 : decode cX3_fits 20 = .ok (.aload_n 0, 1) := by decide +kernel
theorem dX3_fits_21 : decode cX3_fits 21 = .ok (.iload_n 2, 1) := by decide +kernel
theorem dX3_fits_22 : decode cX3_fits 22 = .ok (.invokevirtual 85, 3) := by decide +kernel
theorem dX3_fits_25 : decode cX3_fits 25 = .ok (.ifCond .eq 13, 3) := by decide +kernel
theorem dX3_fits_28 : decode cX3_fits 28 = .ok (.iload_n 3, 1) := by decide +kernel
theorem dX3_fits_29 : decode cX3_fits 29 = .ok (.iconst 0, 1) := by decide +kernel
theorem dX3_fits_30 : decode cX3_fits 30 = .ok (.bipush 20, 2) := by decide +kernel
theorem dX3_fits_32 : decode cX3_fits 32 = .ok (.invokestatic 48, 3) := by decide +kernel
theorem dX3_fits_35 : decode cX3_fits 35 = .ok (.ifCond .ne 9, 3) := by decide +kernel
theorem dX3_fits_38 : decode cX3_fits 38 = .ok (.aload_n 0, 1) := by decide +kernel
theorem dX3_fits_39 : decode cX3_fits 39 = .ok (.iconst 0, 1) := by decide +kernel
theorem dX3_fits_40 : decode cX3_fits 40 = .ok (.invokevirtual 52, 3) := by decide +kernel
theorem dX3_fits_43 : decode cX3_fits 43 = .ok (.ireturn, 1) := by decide +kernel
theorem dX3_fits_44 : decode cX3_fits 44 = .ok (.iconst 0, 1) := by decide +kernel
theorem dX3_fits_45 : decode cX3_fits 45 = .ok (.istore 5, 2) := by decide +kernel
theorem dX3_fits_47 : decode cX3_fits 47 = .ok (.iconst 0, 1) := by decide +kernel
theorem dX3_fits_48 : decode cX3_fits 48 = .ok (.istore 6, 2) := by decide +kernel
theorem dX3_fits_50 : decode cX3_fits 50 = .ok (.iload 6, 2) := by decide +kernel
theorem dX3_fits_52 : decode cX3_fits 52 = .ok (.bipush 9, 2) := by decide +kernel
theorem dX3_fits_54 : decode cX3_fits 54 = .ok (.if_icmp .ge 69, 3) := by decide +kernel
theorem dX3_fits_57 : decode cX3_fits 57 = .ok (.aload_n 0, 1) := by decide +kernel
theorem dX3_fits_58 : decode cX3_fits 58 = .ok (.getfield 16, 3) := by decide +kernel
theorem dX3_fits_61 : decode cX3_fits 61 = .ok (.aload_n 0, 1) := by decide +kernel
theorem dX3_fits_62 : decode cX3_fits 62 = .ok (.getfield 12, 3) := by decide +kernel
theorem dX3_fits_65 : decode cX3_fits 65 = .ok (.invokevirtual 132, 3) := by decide +kernel
theorem dX3_fits_68 : decode cX3_fits 68 = .ok (.aload_n 0, 1) := by decide +kernel
theorem dX3_fits_69 : decode cX3_fits 69 = .ok (.getfield 16, 3) := by decide +kernel
theorem dX3_fits_72 : decode cX3_fits 72 = .ok (.getfield 91, 3) := by decide +kernel
theorem dX3_fits_75 : decode cX3_fits 75 = .ok (.iconst 1, 1) := by decide +kernel
theorem dX3_fits_76 : decode cX3_fits 76 = .ok (.aaload, 1) := by decide +kernel
theorem dX3_fits_77 : decode cX3_fits 77 = .ok (.iload_n 2, 1) := by decide +kernel
theorem dX3_fits_78 : decode cX3_fits 78 = .ok (.iload 6, 2) := by decide +kernel
theorem dX3_fits_80 : decode cX3_fits 80 = .ok (.iastore, 1) := by decide +kernel
theorem dX3_fits_81 : decode cX3_fits 81 = .ok (.aload_n 0, 1) := by decide +kernel
theorem dX3_fits_82 : decode cX3_fits 82 = .ok (.getfield 16, 3) := by decide +kernel
theorem dX3_fits_85 : decode cX3_fits 85 = .ok (.iload_n 3, 1) := by decide +kernel
theorem dX3_fits_86 : decode cX3_fits 86 = .ok (.iconst 1, 1) := by decide +kernel
theorem dX3_fits_87 : decode cX3_fits 87 = .ok (.iload_n 2, 1) := by decide +kernel
theorem dX3_fits_88 : decode cX3_fits 88 = .ok (.ishl, 1) := by decide +kernel
theorem dX3_fits_89 : decode cX3_fits 89 = .ok (.invokevirtual 108, 3) := by decide +kernel
theorem dX3_fits_92 : decode cX3_fits 92 = .ok (.aload_n 0, 1) := by decide +kernel
theorem dX3_fits_93 : decode cX3_fits 93 = .ok (.getfield 16, 3) := by decide +kernel
theorem dX3_fits_96 : decode cX3_fits 96 = .ok (.aload_n 0, 1) := by decide +kernel
theorem dX3_fits_97 : decode cX3_fits 97 = .ok (.getfield 35, 3) := by decide +kernel
theorem dX3_fits_100 : decode cX3_fits 100 = .ok (.iload_n 1, 1) := by decide +kernel
theorem dX3_fits_101 : decode cX3_fits 101 = .ok (.aaload, 1) := by decide +kernel
theorem dX3_fits_102 : decode cX3_fits 102 = .ok (.invokevirtual 156, 3) := by decide +kernel
theorem dX3_fits_105 : decode cX3_fits 105 = .ok (.ifCond .eq 12, 3) := by decide +kernel
theorem dX3_fits_108 : decode cX3_fits 108 = .ok (.iload 5, 2) := by decide +kernel
theorem dX3_fits_110 : decode cX3_fits 110 = .ok (.iconst 1, 1) := by decide +kernel
theorem dX3_fits_111 : decode cX3_fits 111 = .ok (.iload 6, 2) := by decide +kernel
theorem dX3_fits_113 : decode cX3_fits 113 = .ok (.ishl, 1) := by decide +kernel
theorem dX3_fits_114 : decode cX3_fits 114 = .ok (.ior, 1) := by decide +kernel
theorem dX3_fits_115 : decode cX3_fits 115 = .ok (.istore 5, 2) := by decide +kernel
theorem dX3_fits_117 : decode cX3_fits 117 = .ok (.iinc 6 1, 3) := by decide +kernel
theorem dX3_fits_120 : decode cX3_fits 120 = .ok (.goto (-70), 3) := by decide +kernel
theorem dX3_fits_123 : decode cX3_fits 123 = .ok (.iload 5, 2) := by decide +kernel
theorem dX3_fits_125 : decode cX3_fits 125 = .ok (.ireturn, 1) := by decide +kernel
theorem dX3_kinds_0 : decode cX3_kinds 0 = .ok (.aload_n 0, 1) := by decide +kernel
theorem dX3_kinds_1 : decode cX3_kinds 1 = .ok (.iload_n 1, 1) := by decide +kernel
theorem dX3_kinds_2 : decode cX3_kinds 2 = .ok (.invokevirtual 153, 3) := by decide +kernel
theorem dX3_kinds_5 : decode cX3_kinds 5 = .ok (.istore_n 3, 1) := by decide +kernel
theorem dX3_kinds_6 : decode cX3_kinds 6 = .ok (.iload_n 3, 1) := by decide +kernel
theorem dX3_kinds_7 : decode cX3_kinds 7 = .ok (.iconst (-1), 1) := by decide +kernel
theorem dX3_kinds_8 : decode cX3_kinds 8 = .ok (.if_icmp .eq 9, 3) := by decide +kernel
theorem dX3_kinds_11 : decode cX3_kinds 11 = .ok (.aload_n 0, 1) := by decide +kernel
theorem dX3_kinds_12 : decode cX3_kinds 12 = .ok (.iload_n 3, 1) := by decide +kernel
theorem dX3_kinds_13 : decode cX3_kinds 13 = .ok (.invokevirtual 52, 3) := by decide +kernel
theorem dX3_kinds_16 : decode cX3_kinds 16 = .ok (.ireturn, 1) := by decide +kernel
theorem dX3_kinds_17 : decode cX3_kinds 17 = .ok (.aload_n 0, 1) := by decide +kernel
theorem dX3_kinds_18 : decode cX3_kinds 18 = .ok (.iload_n 2, 1) := by decide +kernel
theorem dX3_kinds_19 : decode cX3_kinds 19 = .ok (.invokevirtual 85, 3) := by decide +kernel
theorem dX3_kinds_22 : decode cX3_kinds 22 = .ok (.ifCond .ne 9, 3) := by decide +kernel
theorem dX3_kinds_25 : decode cX3_kinds 25 = .ok (.aload_n 0, 1) := by decide +kernel
theorem dX3_kinds_26 : decode cX3_kinds 26 = .ok (.iconst 0, 1) := by decide +kernel
theorem dX3_kinds_27 : decode cX3_kinds 27 = .ok (.invokevirtual 52, 3) := by decide +kernel
theorem dX3_kinds_30 : decode cX3_kinds 30 = .ok (.ireturn, 1) := by decide +kernel
theorem dX3_kinds_31 : decode cX3_kinds 31 = .ok (.iconst 0, 1) := by decide +kernel
theorem dX3_kinds_32 : decode cX3_kinds 32 = .ok (.istore 4, 2) := by decide +kernel
theorem dX3_kinds_34 : decode cX3_kinds 34 = .ok (.iconst 0, 1) := by decide +kernel
theorem dX3_kinds_35 : decode cX3_kinds 35 = .ok (.istore 5, 2) := by decide +kernel
theorem dX3_kinds_37 : decode cX3_kinds 37 = .ok (.iload 5, 2) := by decide +kernel
theorem dX3_kinds_39 : decode cX3_kinds 39 = .ok (.bipush 7, 2) := by decide +kernel
theorem dX3_kinds_41 : decode cX3_kinds 41 = .ok (.if_icmp .ge 56, 3) := by decide +kernel
theorem dX3_kinds_44 : decode cX3_kinds 44 = .ok (.aload_n 0, 1) := by decide +kernel
theorem dX3_kinds_45 : decode cX3_kinds 45 = .ok (.getfield 16, 3) := by decide +kernel
theorem dX3_kinds_48 : decode cX3_kinds 48 = .ok (.aload_n 0, 1) := by decide +kernel
theorem dX3_kinds_49 : decode cX3_kinds 49 = .ok (.getfield 12, 3) := by decide +kernel
theorem dX3_kinds_52 : decode cX3_kinds 52 = .ok (.invokevirtual 132, 3) := by decide +kernel
theorem dX3_kinds_55 : decode cX3_kinds 55 = .ok (.aload_n 0, 1) := by decide +kernel
theorem dX3_kinds_56 : decode cX3_kinds 56 = .ok (.getfield 16, 3) := by decide +kernel
theorem dX3_kinds_59 : decode cX3_kinds 59 = .ok (.getfield 91, 3) := by decide +kernel
theorem dX3_kinds_62 : decode cX3_kinds 62 = .ok (.iconst 0, 1) := by decide +kernel
theorem dX3_kinds_63 : decode cX3_kinds 63 = .ok (.aaload, 1) := by decide +kernel
theorem dX3_kinds_64 : decode cX3_kinds 64 = .ok (.iload_n 2, 1) := by decide +kernel
theorem dX3_kinds_65 : decode cX3_kinds 65 = .ok (.iload 5, 2) := by decide +kernel
theorem dX3_kinds_67 : decode cX3_kinds 67 = .ok (.iastore, 1) := by decide +kernel
theorem dX3_kinds_68 : decode cX3_kinds 68 = .ok (.aload_n 0, 1) := by decide +kernel
theorem dX3_kinds_69 : decode cX3_kinds 69 = .ok (.aload_n 0, 1) := by decide +kernel
theorem dX3_kinds_70 : decode cX3_kinds 70 = .ok (.getfield 35, 3) := by decide +kernel
theorem dX3_kinds_73 : decode cX3_kinds 73 = .ok (.iload_n 1, 1) := by decide +kernel
theorem dX3_kinds_74 : decode cX3_kinds 74 = .ok (.aaload, 1) := by decide +kernel
theorem dX3_kinds_75 : decode cX3_kinds 75 = .ok (.iload_n 2, 1) := by decide +kernel
theorem dX3_kinds_76 : decode cX3_kinds 76 = .ok (.invokevirtual 160, 3) := by decide +kernel
theorem dX3_kinds_79 : decode cX3_kinds 79 = .ok (.ifCond .eq 12, 3) := by decide +kernel
theorem dX3_kinds_82 : decode cX3_kinds 82 = .ok (.iload 4, 2) := by decide +kernel
theorem dX3_kinds_84 : decode cX3_kinds 84 = .ok (.iconst 1, 1) := by decide +kernel
theorem dX3_kinds_85 : decode cX3_kinds 85 = .ok (.iload 5, 2) := by decide +kernel
theorem dX3_kinds_87 : decode cX3_kinds 87 = .ok (.ishl, 1) := by decide +kernel
theorem dX3_kinds_88 : decode cX3_kinds 88 = .ok (.ior, 1) := by decide +kernel
theorem dX3_kinds_89 : decode cX3_kinds 89 = .ok (.istore 4, 2) := by decide +kernel
theorem dX3_kinds_91 : decode cX3_kinds 91 = .ok (.iinc 5 1, 3) := by decide +kernel
theorem dX3_kinds_94 : decode cX3_kinds 94 = .ok (.goto (-57), 3) := by decide +kernel
theorem dX3_kinds_97 : decode cX3_kinds 97 = .ok (.iload 4, 2) := by decide +kernel
theorem dX3_kinds_99 : decode cX3_kinds 99 = .ok (.ireturn, 1) := by decide +kernel
theorem dX3_gales_0 : decode cX3_gales 0 = .ok (.iload_n 1, 1) := by decide +kernel
theorem dX3_gales_1 : decode cX3_gales 1 = .ok (.iconst 1, 1) := by decide +kernel
theorem dX3_gales_2 : decode cX3_gales 2 = .ok (.bipush 20, 2) := by decide +kernel
theorem dX3_gales_4 : decode cX3_gales 4 = .ok (.invokestatic 48, 3) := by decide +kernel
theorem dX3_gales_7 : decode cX3_gales 7 = .ok (.ifCond .ne 9, 3) := by decide +kernel
theorem dX3_gales_10 : decode cX3_gales 10 = .ok (.aload_n 0, 1) := by decide +kernel
theorem dX3_gales_11 : decode cX3_gales 11 = .ok (.iconst 0, 1) := by decide +kernel
theorem dX3_gales_12 : decode cX3_gales 12 = .ok (.invokevirtual 52, 3) := by decide +kernel
theorem dX3_gales_15 : decode cX3_gales 15 = .ok (.ireturn, 1) := by decide +kernel
theorem dX3_gales_16 : decode cX3_gales 16 = .ok (.aload_n 0, 1) := by decide +kernel
theorem dX3_gales_17 : decode cX3_gales 17 = .ok (.getfield 12, 3) := by decide +kernel
theorem dX3_gales_20 : decode cX3_gales 20 = .ok (.getfield 104, 3) := by decide +kernel
theorem dX3_gales_23 : decode cX3_gales 23 = .ok (.iload_n 1, 1) := by decide +kernel
theorem dX3_gales_24 : decode cX3_gales 24 = .ok (.iadd, 1) := by decide +kernel
theorem dX3_gales_25 : decode cX3_gales 25 = .ok (.ldc 107, 2) := by decide +kernel
theorem dX3_gales_27 : decode cX3_gales 27 = .ok (.if_icmp .le 9, 3) := by decide +kernel
theorem dX3_gales_30 : decode cX3_gales 30 = .ok (.aload_n 0, 1) := by decide +kernel
theorem dX3_gales_31 : decode cX3_gales 31 = .ok (.iconst 4, 1) := by decide +kernel
theorem dX3_gales_32 : decode cX3_gales 32 = .ok (.invokevirtual 52, 3) := by decide +kernel
theorem dX3_gales_35 : decode cX3_gales 35 = .ok (.ireturn, 1) := by decide +kernel
theorem dX3_gales_36 : decode cX3_gales 36 = .ok (.iconst 0, 1) := by decide +kernel
theorem dX3_gales_37 : decode cX3_gales 37 = .ok (.istore_n 2, 1) := by decide +kernel
theorem dX3_gales_38 : decode cX3_gales 38 = .ok (.iload_n 2, 1) := by decide +kernel
theorem dX3_gales_39 : decode cX3_gales 39 = .ok (.iload_n 1, 1) := by decide +kernel
theorem dX3_gales_40 : decode cX3_gales 40 = .ok (.if_icmp .ge 56, 3) := by decide +kernel
theorem dX3_gales_43 : decode cX3_gales 43 = .ok (.aload_n 0, 1) := by decide +kernel
theorem dX3_gales_44 : decode cX3_gales 44 = .ok (.getfield 12, 3) := by decide +kernel
theorem dX3_gales_47 : decode cX3_gales 47 = .ok (.aload_n 0, 1) := by decide +kernel
theorem dX3_gales_48 : decode cX3_gales 48 = .ok (.getfield 12, 3) := by decide +kernel
theorem dX3_gales_51 : decode cX3_gales 51 = .ok (.invokevirtual 164, 3) := by decide +kernel
theorem dX3_gales_54 : decode cX3_gales 54 = .ok (.bipush 10, 2) := by decide +kernel
theorem dX3_gales_56 : decode cX3_gales 56 = .ok (.irem, 1) := by decide +kernel
theorem dX3_gales_57 : decode cX3_gales 57 = .ok (.putfield 71, 3) := by decide +kernel
theorem dX3_gales_60 : decode cX3_gales 60 = .ok (.aload_n 0, 1) := by decide +kernel
theorem dX3_gales_61 : decode cX3_gales 61 = .ok (.getfield 12, 3) := by decide +kernel
theorem dX3_gales_64 : decode cX3_gales 64 = .ok (.getfield 68, 3) := by decide +kernel
theorem dX3_gales_67 : decode cX3_gales 67 = .ok (.aload_n 0, 1) := by decide +kernel
theorem dX3_gales_68 : decode cX3_gales 68 = .ok (.getfield 12, 3) := by decide +kernel
theorem dX3_gales_71 : decode cX3_gales 71 = .ok (.invokevirtual 164, 3) := by decide +kernel
theorem dX3_gales_74 : decode cX3_gales 74 = .ok (.bipush 8, 2) := by decide +kernel
theorem dX3_gales_76 : decode cX3_gales 76 = .ok (.irem, 1) := by decide +kernel
theorem dX3_gales_77 : decode cX3_gales 77 = .ok (.iconst 2, 1) := by decide +kernel
theorem dX3_gales_78 : decode cX3_gales 78 = .ok (.iastore, 1) := by decide +kernel
theorem dX3_gales_79 : decode cX3_gales 79 = .ok (.aload_n 0, 1) := by decide +kernel
theorem dX3_gales_80 : decode cX3_gales 80 = .ok (.getfield 12, 3) := by decide +kernel
theorem dX3_gales_83 : decode cX3_gales 83 = .ok (.iconst 1, 1) := by decide +kernel
theorem dX3_gales_84 : decode cX3_gales 84 = .ok (.sipush 255, 3) := by decide +kernel
theorem dX3_gales_87 : decode cX3_gales 87 = .ok (.invokevirtual 108, 3) := by decide +kernel
theorem dX3_gales_90 : decode cX3_gales 90 = .ok (.iinc 2 1, 3) := by decide +kernel
theorem dX3_gales_93 : decode cX3_gales 93 = .ok (.goto (-55), 3) := by decide +kernel
theorem dX3_gales_96 : decode cX3_gales 96 = .ok (.aload_n 0, 1) := by decide +kernel
theorem dX3_gales_97 : decode cX3_gales 97 = .ok (.getfield 12, 3) := by decide +kernel
theorem dX3_gales_100 : decode cX3_gales 100 = .ok (.invokevirtual 119, 3) := by decide +kernel
theorem dX3_gales_103 : decode cX3_gales 103 = .ok (.ireturn, 1) := by decide +kernel
theorem dX3_odds_0 : decode cX3_odds 0 = .ok (.iload_n 1, 1) := by decide +kernel
theorem dX3_odds_1 : decode cX3_odds 1 = .ok (.iconst 0, 1) := by decide +kernel
theorem dX3_odds_2 : decode cX3_odds 2 = .ok (.bipush 20, 2) := by decide +kernel
theorem dX3_odds_4 : decode cX3_odds 4 = .ok (.invokestatic 48, 3) := by decide +kernel
theorem dX3_odds_7 : decode cX3_odds 7 = .ok (.ifCond .eq 12, 3) := by decide +kernel
theorem dX3_odds_10 : decode cX3_odds 10 = .ok (.iload_n 2, 1) := by decide +kernel
theorem dX3_odds_11 : decode cX3_odds 11 = .ok (.iconst 0, 1) := by decide +kernel
theorem dX3_odds_12 : decode cX3_odds 12 = .ok (.iconst 1, 1) := by decide +kernel
theorem dX3_odds_13 : decode cX3_odds 13 = .ok (.invokestatic 48, 3) := by decide +kernel
theorem dX3_odds_16 : decode cX3_odds 16 = .ok (.ifCond .ne 10, 3) := by decide +kernel
theorem dX3_odds_19 : decode cX3_odds 19 = .ok (.aload_n 0, 1) := by decide +kernel
theorem dX3_odds_20 : decode cX3_odds 20 = .ok (.iconst 0, 1) := by decide +kernel
theorem dX3_odds_21 : decode cX3_odds 21 = .ok (.invokevirtual 52, 3) := by decide +kernel
theorem dX3_odds_24 : decode cX3_odds 24 = .ok (.i2l, 1) := by decide +kernel
theorem dX3_odds_25 : decode cX3_odds 25 = .ok (.lreturn, 1) := by decide +kernel
theorem dX3_odds_26 : decode cX3_odds 26 = .ok (.aload_n 0, 1) := by decide +kernel
theorem dX3_odds_27 : decode cX3_odds 27 = .ok (.getfield 12, 3) := by decide +kernel
theorem dX3_odds_30 : decode cX3_odds 30 = .ok (.invokevirtual 119, 3) := by decide +kernel
theorem dX3_odds_33 : decode cX3_odds 33 = .ok (.invokestatic 167, 3) := by decide +kernel
theorem dX3_odds_36 : decode cX3_odds 36 = .ok (.istore_n 3, 1) := by decide +kernel
theorem dX3_odds_37 : decode cX3_odds 37 = .ok (.bipush 8, 2) := by decide +kernel
theorem dX3_odds_39 : decode cX3_odds 39 = .ok (.istore 4, 2) := by decide +kernel
theorem dX3_odds_41 : decode cX3_odds 41 = .ok (.iconst 0, 1) := by decide +kernel
theorem dX3_odds_42 : decode cX3_odds 42 = .ok (.istore 5, 2) := by decide +kernel
theorem dX3_odds_44 : decode cX3_odds 44 = .ok (.iload 5, 2) := by decide +kernel
theorem dX3_odds_46 : decode cX3_odds 46 = .ok (.iconst 3, 1) := by decide +kernel
theorem dX3_odds_47 : decode cX3_odds 47 = .ok (.if_icmp .ge 31, 3) := by decide +kernel
theorem dX3_odds_50 : decode cX3_odds 50 = .ok (.iload_n 3, 1) := by decide +kernel
theorem dX3_odds_51 : decode cX3_odds 51 = .ok (.iconst 2, 1) := by decide +kernel
theorem dX3_odds_52 : decode cX3_odds 52 = .ok (.irem, 1) := by decide +kernel
theorem dX3_odds_53 : decode cX3_odds 53 = .ok (.ifCond .ne 25, 3) := by decide +kernel
theorem dX3_odds_56 : decode cX3_odds 56 = .ok (.iload 4, 2) := by decide +kernel
theorem dX3_odds_58 : decode cX3_odds 58 = .ok (.iconst 1, 1) := by decide +kernel
theorem dX3_odds_59 : decode cX3_odds 59 = .ok (.if_icmp .le 19, 3) := by decide +kernel
theorem dX3_odds_62 : decode cX3_odds 62 = .ok (.iload_n 3, 1) := by decide +kernel
theorem dX3_odds_63 : decode cX3_odds 63 = .ok (.iconst 2, 1) := by decide +kernel
theorem dX3_odds_64 : decode cX3_odds 64 = .ok (.idiv, 1) := by decide +kernel
theorem dX3_odds_65 : decode cX3_odds 65 = .ok (.istore_n 3, 1) := by decide +kernel
theorem dX3_odds_66 : decode cX3_odds 66 = .ok (.iload 4, 2) := by decide +kernel
theorem dX3_odds_68 : decode cX3_odds 68 = .ok (.iconst 2, 1) := by decide +kernel
theorem dX3_odds_69 : decode cX3_odds 69 = .ok (.idiv, 1) := by decide +kernel
theorem dX3_odds_70 : decode cX3_odds 70 = .ok (.istore 4, 2) := by decide +kernel
theorem dX3_odds_72 : decode cX3_odds 72 = .ok (.iinc 5 1, 3) := by decide +kernel
theorem dX3_odds_75 : decode cX3_odds 75 = .ok (.goto (-31), 3) := by decide +kernel
theorem dX3_odds_78 : decode cX3_odds 78 = .ok (.iload_n 2, 1) := by decide +kernel
theorem dX3_odds_79 : decode cX3_odds 79 = .ok (.ifCond .ne 7, 3) := by decide +kernel
theorem dX3_odds_82 : decode cX3_odds 82 = .ok (.iload_n 3, 1) := by decide +kernel
theorem dX3_odds_83 : decode cX3_odds 83 = .ok (.goto 5, 3) := by decide +kernel
theorem dX3_odds_86 : decode cX3_odds 86 = .ok (.iload 4, 2) := by decide +kernel
theorem dX3_odds_88 : decode cX3_odds 88 = .ok (.iload_n 1, 1) := by decide +kernel
theorem dX3_odds_89 : decode cX3_odds 89 = .ok (.invokestatic 170, 3) := by decide +kernel
theorem dX3_odds_92 : decode cX3_odds 92 = .ok (.lreturn, 1) := by decide +kernel
theorem dX3_seed_0 : decode cX3_seed 0 = .ok (.aload_n 0, 1) := by decide +kernel
theorem dX3_seed_1 : decode cX3_seed 1 = .ok (.getfield 12, 3) := by decide +kernel
theorem dX3_seed_4 : decode cX3_seed 4 = .ok (.getfield 174, 3) := by decide +kernel
theorem dX3_seed_7 : decode cX3_seed 7 = .ok (.istore_n 2, 1) := by decide +kernel
theorem dX3_seed_8 : decode cX3_seed 8 = .ok (.aload_n 0, 1) := by decide +kernel
theorem dX3_seed_9 : decode cX3_seed 9 = .ok (.getfield 12, 3) := by decide +kernel
theorem dX3_seed_12 : decode cX3_seed 12 = .ok (.iload_n 1, 1) := by decide +kernel
theorem dX3_seed_13 : decode cX3_seed 13 = .ok (.putfield 174, 3) := by decide +kernel
theorem dX3_seed_16 : decode cX3_seed 16 = .ok (.iload_n 2, 1) := by decide +kernel
theorem dX3_seed_17 : decode cX3_seed 17 = .ok (.ireturn, 1) := by decide +kernel
theorem dX3_feed_0 : decode cX3_feed 0 = .ok (.iload_n 2, 1) := by decide +kernel
theorem dX3_feed_1 : decode cX3_feed 1 = .ok (.iconst 1, 1) := by decide +kernel
theorem dX3_feed_2 : decode cX3_feed 2 = .ok (.iconst 4, 1) := by decide +kernel
theorem dX3_feed_3 : decode cX3_feed 3 = .ok (.invokestatic 48, 3) := by decide +kernel
theorem dX3_feed_6 : decode cX3_feed 6 = .ok (.ifCond .ne 9, 3) := by decide +kernel
theorem dX3_feed_9 : decode cX3_feed 9 = .ok (.aload_n 0, 1) := by decide +kernel
theorem dX3_feed_10 : decode cX3_feed 10 = .ok (.iconst 0, 1) := by decide +kernel
theorem dX3_feed_11 : decode cX3_feed 11 = .ok (.invokevirtual 52, 3) := by decide +kernel
theorem dX3_feed_14 : decode cX3_feed 14 = .ok (.ireturn, 1) := by decide +kernel
theorem dX3_feed_15 : decode cX3_feed 15 = .ok (.aload_n 0, 1) := by decide +kernel
theorem dX3_feed_16 : decode cX3_feed 16 = .ok (.getfield 29, 3) := by decide +kernel
theorem dX3_feed_19 : decode cX3_feed 19 = .ok (.getfield 177, 3) := by decide +kernel
theorem dX3_feed_22 : decode cX3_feed 22 = .ok (.iload_n 2, 1) := by decide +kernel
theorem dX3_feed_23 : decode cX3_feed 23 = .ok (.iadd, 1) := by decide +kernel
theorem dX3_feed_24 : decode cX3_feed 24 = .ok (.bipush 120, 2) := by decide +kernel
theorem dX3_feed_26 : decode cX3_feed 26 = .ok (.if_icmp .le 9, 3) := by decide +kernel
theorem dX3_feed_29 : decode cX3_feed 29 = .ok (.aload_n 0, 1) := by decide +kernel
theorem dX3_feed_30 : decode cX3_feed 30 = .ok (.iconst 1, 1) := by decide +kernel
theorem dX3_feed_31 : decode cX3_feed 31 = .ok (.invokevirtual 52, 3) := by decide +kernel
theorem dX3_feed_34 : decode cX3_feed 34 = .ok (.ireturn, 1) := by decide +kernel
theorem dX3_feed_35 : decode cX3_feed 35 = .ok (.iload_n 2, 1) := by decide +kernel
theorem dX3_feed_36 : decode cX3_feed 36 = .ok (.iconst 1, 1) := by decide +kernel
theorem dX3_feed_37 : decode cX3_feed 37 = .ok (.isub, 1) := by decide +kernel
theorem dX3_feed_38 : decode cX3_feed 38 = .ok (.istore_n 3, 1) := by decide +kernel
theorem dX3_feed_39 : decode cX3_feed 39 = .ok (.iload_n 3, 1) := by decide +kernel
theorem dX3_feed_40 : decode cX3_feed 40 = .ok (.ifCond .lt 22, 3) := by decide +kernel
theorem dX3_feed_43 : decode cX3_feed 43 = .ok (.aload_n 0, 1) := by decide +kernel
theorem dX3_feed_44 : decode cX3_feed 44 = .ok (.getfield 29, 3) := by decide +kernel
theorem dX3_feed_47 : decode cX3_feed 47 = .ok (.iload_n 1, 1) := by decide +kernel
theorem dX3_feed_48 : decode cX3_feed 48 = .ok (.bipush 8, 2) := by decide +kernel
theorem dX3_feed_50 : decode cX3_feed 50 = .ok (.iload_n 3, 1) := by decide +kernel
theorem dX3_feed_51 : decode cX3_feed 51 = .ok (.imul, 1) := by decide +kernel
theorem dX3_feed_52 : decode cX3_feed 52 = .ok (.iushr, 1) := by decide +kernel
theorem dX3_feed_53 : decode cX3_feed 53 = .ok (.invokevirtual 180, 3) := by decide +kernel
theorem dX3_feed_56 : decode cX3_feed 56 = .ok (.iinc 3 (-1), 3) := by decide +kernel
theorem dX3_feed_59 : decode cX3_feed 59 = .ok (.goto (-20), 3) := by decide +kernel
theorem dX3_feed_62 : decode cX3_feed 62 = .ok (.aload_n 0, 1) := by decide +kernel
theorem dX3_feed_63 : decode cX3_feed 63 = .ok (.getfield 29, 3) := by decide +kernel
theorem dX3_feed_66 : decode cX3_feed 66 = .ok (.getfield 177, 3) := by decide +kernel
theorem dX3_feed_69 : decode cX3_feed 69 = .ok (.ireturn, 1) := by decide +kernel
theorem dX3_wipe_0 : decode cX3_wipe 0 = .ok (.aload_n 0, 1) := by decide +kernel
theorem dX3_wipe_1 : decode cX3_wipe 1 = .ok (.getfield 29, 3) := by decide +kernel
theorem dX3_wipe_4 : decode cX3_wipe 4 = .ok (.getfield 177, 3) := by decide +kernel
theorem dX3_wipe_7 : decode cX3_wipe 7 = .ok (.istore_n 1, 1) := by decide +kernel
theorem dX3_wipe_8 : decode cX3_wipe 8 = .ok (.aload_n 0, 1) := by decide +kernel
theorem dX3_wipe_9 : decode cX3_wipe 9 = .ok (.getfield 29, 3) := by decide +kernel
theorem dX3_wipe_12 : decode cX3_wipe 12 = .ok (.iconst 0, 1) := by decide +kernel
theorem dX3_wipe_13 : decode cX3_wipe 13 = .ok (.putfield 177, 3) := by decide +kernel
theorem dX3_wipe_16 : decode cX3_wipe 16 = .ok (.iload_n 1, 1) := by decide +kernel
theorem dX3_wipe_17 : decode cX3_wipe 17 = .ok (.ireturn, 1) := by decide +kernel
theorem dX3_text_0 : decode cX3_text 0 = .ok (.aload_n 0, 1) := by decide +kernel
theorem dX3_text_1 : decode cX3_text 1 = .ok (.getfield 16, 3) := by decide +kernel
theorem dX3_text_4 : decode cX3_text 4 = .ok (.aload_n 0, 1) := by decide +kernel
theorem dX3_text_5 : decode cX3_text 5 = .ok (.getfield 12, 3) := by decide +kernel
theorem dX3_text_8 : decode cX3_text 8 = .ok (.invokevirtual 132, 3) := by decide +kernel
theorem dX3_text_11 : decode cX3_text 11 = .ok (.aload_n 0, 1) := by decide +kernel
theorem dX3_text_12 : decode cX3_text 12 = .ok (.getfield 29, 3) := by decide +kernel
theorem dX3_text_15 : decode cX3_text 15 = .ok (.aload_n 0, 1) := by decide +kernel
theorem dX3_text_16 : decode cX3_text 16 = .ok (.getfield 16, 3) := by decide +kernel
theorem dX3_text_19 : decode cX3_text 19 = .ok (.invokevirtual 183, 3) := by decide +kernel
theorem dX3_text_22 : decode cX3_text 22 = .ok (.istore_n 1, 1) := by decide +kernel
theorem dX3_text_23 : decode cX3_text 23 = .ok (.aload_n 0, 1) := by decide +kernel
theorem dX3_text_24 : decode cX3_text 24 = .ok (.getfield 29, 3) := by decide +kernel
theorem dX3_text_27 : decode cX3_text 27 = .ok (.iconst 0, 1) := by decide +kernel
theorem dX3_text_28 : decode cX3_text 28 = .ok (.putfield 177, 3) := by decide +kernel
theorem dX3_text_31 : decode cX3_text 31 = .ok (.iload_n 1, 1) := by decide +kernel
theorem dX3_text_32 : decode cX3_text 32 = .ok (.ifCond .lt 14, 3) := by decide +kernel
theorem dX3_text_35 : decode cX3_text 35 = .ok (.aload_n 0, 1) := by decide +kernel
theorem dX3_text_36 : decode cX3_text 36 = .ok (.getfield 12, 3) := by decide +kernel
theorem dX3_text_39 : decode cX3_text 39 = .ok (.aload_n 0, 1) := by decide +kernel
theorem dX3_text_40 : decode cX3_text 40 = .ok (.getfield 16, 3) := by decide +kernel
theorem dX3_text_43 : decode cX3_text 43 = .ok (.invokevirtual 132, 3) := by decide +kernel
theorem dX3_text_46 : decode cX3_text 46 = .ok (.iload_n 1, 1) := by decide +kernel
theorem dX3_text_47 : decode cX3_text 47 = .ok (.ireturn, 1) := by decide +kernel
theorem dX3_hold_0 : decode cX3_hold 0 = .ok (.iload_n 1, 1) := by decide +kernel
theorem dX3_hold_1 : decode cX3_hold 1 = .ok (.invokestatic 187, 3) := by decide +kernel
theorem dX3_hold_4 : decode cX3_hold 4 = .ok (.ifCond .eq 16, 3) := by decide +kernel
theorem dX3_hold_7 : decode cX3_hold 7 = .ok (.iload_n 2, 1) := by decide +kernel
theorem dX3_hold_8 : decode cX3_hold 8 = .ok (.iconst (-1), 1) := by decide +kernel
theorem dX3_hold_9 : decode cX3_hold 9 = .ok (.if_icmp .eq 17, 3) := by decide +kernel
theorem dX3_hold_12 : decode cX3_hold 12 = .ok (.aload_n 0, 1) := by decide +kernel
theorem dX3_hold_13 : decode cX3_hold 13 = .ok (.iload_n 2, 1) := by decide +kernel
theorem dX3_hold_14 : decode cX3_hold 14 = .ok (.invokevirtual 85, 3) := by decide +kernel
theorem dX3_hold_17 : decode cX3_hold 17 = .ok (.ifCond .ne 9, 3) := by decide +kernel
theorem dX3_hold_20 : decode cX3_hold 20 = .ok (.aload_n 0, 1) := by decide +kernel
theorem dX3_hold_21 : decode cX3_hold 21 = .ok (.iconst 0, 1) := by decide +kernel
theorem dX3_hold_22 : decode cX3_hold 22 = .ok (.invokevirtual 52, 3) := by decide +kernel
theorem dX3_hold_25 : decode cX3_hold 25 = .ok (.ireturn, 1) := by decide +kernel
theorem dX3_hold_26 : decode cX3_hold 26 = .ok (.aload_n 0, 1) := by decide +kernel
theorem dX3_hold_27 : decode cX3_hold 27 = .ok (.getfield 12, 3) := by decide +kernel
theorem dX3_hold_30 : decode cX3_hold 30 = .ok (.getfield 190, 3) := by decide +kernel
theorem dX3_hold_33 : decode cX3_hold 33 = .ok (.iload_n 1, 1) := by decide +kernel
theorem dX3_hold_34 : decode cX3_hold 34 = .ok (.iload_n 2, 1) := by decide +kernel
theorem dX3_hold_35 : decode cX3_hold 35 = .ok (.iastore, 1) := by decide +kernel
theorem dX3_hold_36 : decode cX3_hold 36 = .ok (.iconst 1, 1) := by decide +kernel
theorem dX3_hold_37 : decode cX3_hold 37 = .ok (.ireturn, 1) := by decide +kernel
theorem dX3_as_0 : decode cX3_as 0 = .ok (.iload_n 1, 1) := by decide +kernel
theorem dX3_as_1 : decode cX3_as 1 = .ok (.invokestatic 187, 3) := by decide +kernel
theorem dX3_as_4 : decode cX3_as 4 = .ok (.ifCond .eq 10, 3) := by decide +kernel
theorem dX3_as_7 : decode cX3_as 7 = .ok (.iload_n 2, 1) := by decide +kernel
theorem dX3_as_8 : decode cX3_as 8 = .ok (.invokestatic 75, 3) := by decide +kernel
theorem dX3_as_11 : decode cX3_as 11 = .ok (.ifCond .ne 9, 3) := by decide +kernel
theorem dX3_as_14 : decode cX3_as 14 = .ok (.aload_n 0, 1) := by decide +kernel
theorem dX3_as_15 : decode cX3_as 15 = .ok (.iconst 0, 1) := by decide +kernel
theorem dX3_as_16 : decode cX3_as 16 = .ok (.invokevirtual 52, 3) := by decide +kernel
theorem dX3_as_19 : decode cX3_as 19 = .ok (.ireturn, 1) := by decide +kernel
theorem dX3_as_20 : decode cX3_as 20 = .ok (.aload_n 0, 1) := by decide +kernel
theorem dX3_as_21 : decode cX3_as 21 = .ok (.getfield 12, 3) := by decide +kernel
theorem dX3_as_24 : decode cX3_as 24 = .ok (.getfield 190, 3) := by decide +kernel
theorem dX3_as_27 : decode cX3_as 27 = .ok (.iload_n 1, 1) := by decide +kernel
theorem dX3_as_28 : decode cX3_as 28 = .ok (.iaload, 1) := by decide +kernel
theorem dX3_as_29 : decode cX3_as 29 = .ok (.istore_n 3, 1) := by decide +kernel
theorem dX3_as_30 : decode cX3_as 30 = .ok (.aload_n 0, 1) := by decide +kernel
theorem dX3_as_31 : decode cX3_as 31 = .ok (.iload_n 3, 1) := by decide +kernel
theorem dX3_as_32 : decode cX3_as 32 = .ok (.invokevirtual 85, 3) := by decide +kernel
theorem dX3_as_35 : decode cX3_as 35 = .ok (.ifCond .ne 9, 3) := by decide +kernel
theorem dX3_as_38 : decode cX3_as 38 = .ok (.aload_n 0, 1) := by decide +kernel
theorem dX3_as_39 : decode cX3_as 39 = .ok (.iconst 5, 1) := by decide +kernel
theorem dX3_as_40 : decode cX3_as 40 = .ok (.invokevirtual 52, 3) := by decide +kernel
theorem dX3_as_43 : decode cX3_as 43 = .ok (.ireturn, 1) := by decide +kernel
theorem dX3_as_44 : decode cX3_as 44 = .ok (.aload_n 0, 1) := by decide +kernel
theorem dX3_as_45 : decode cX3_as 45 = .ok (.getfield 12, 3) := by decide +kernel
theorem dX3_as_48 : decode cX3_as 48 = .ok (.getfield 91, 3) := by decide +kernel
theorem dX3_as_51 : decode cX3_as 51 = .ok (.iconst 0, 1) := by decide +kernel
theorem dX3_as_52 : decode cX3_as 52 = .ok (.aaload, 1) := by decide +kernel
theorem dX3_as_53 : decode cX3_as 53 = .ok (.iload_n 3, 1) := by decide +kernel
theorem dX3_as_54 : decode cX3_as 54 = .ok (.iaload, 1) := by decide +kernel
theorem dX3_as_55 : decode cX3_as 55 = .ok (.iload_n 2, 1) := by decide +kernel
theorem dX3_as_56 : decode cX3_as 56 = .ok (.invokestatic 193, 3) := by decide +kernel
theorem dX3_as_59 : decode cX3_as 59 = .ok (.ifCond .ne 9, 3) := by decide +kernel
theorem dX3_as_62 : decode cX3_as 62 = .ok (.aload_n 0, 1) := by decide +kernel
theorem dX3_as_63 : decode cX3_as 63 = .ok (.iconst 2, 1) := by decide +kernel
theorem dX3_as_64 : decode cX3_as 64 = .ok (.invokevirtual 52, 3) := by decide +kernel
theorem dX3_as_67 : decode cX3_as 67 = .ok (.ireturn, 1) := by decide +kernel
theorem dX3_as_68 : decode cX3_as 68 = .ok (.iload_n 3, 1) := by decide +kernel
theorem dX3_as_69 : decode cX3_as 69 = .ok (.ireturn, 1) := by decide +kernel
theorem dX3_sheet_0 : decode cX3_sheet 0 = .ok (.iload_n 1, 1) := by decide +kernel
theorem dX3_sheet_1 : decode cX3_sheet 1 = .ok (.invokestatic 197, 3) := by decide +kernel
theorem dX3_sheet_4 : decode cX3_sheet 4 = .ok (.ifCond .eq 25, 3) := by decide +kernel
theorem dX3_sheet_7 : decode cX3_sheet 7 = .ok (.iload_n 2, 1) := by decide +kernel
theorem dX3_sheet_8 : decode cX3_sheet 8 = .ok (.ifCond .eq 27, 3) := by decide +kernel
theorem dX3_sheet_11 : decode cX3_sheet 11 = .ok (.iload_n 2, 1) := by decide +kernel
theorem dX3_sheet_12 : decode cX3_sheet 12 = .ok (.bipush 8, 2) := by decide +kernel
theorem dX3_sheet_14 : decode cX3_sheet 14 = .ok (.if_icmp .eq 21, 3) := by decide +kernel
theorem dX3_sheet_17 : decode cX3_sheet 17 = .ok (.iload_n 2, 1) := by decide +kernel
theorem dX3_sheet_18 : decode cX3_sheet 18 = .ok (.bipush 16, 2) := by decide +kernel
theorem dX3_sheet_20 : decode cX3_sheet 20 = .ok (.if_icmp .eq 15, 3) := by decide +kernel
theorem dX3_sheet_23 : decode cX3_sheet 23 = .ok (.iload_n 2, 1) := by decide +kernel
theorem dX3_sheet_24 : decode cX3_sheet 24 = .ok (.bipush 32, 2) := by decide +kernel
theorem dX3_sheet_26 : decode cX3_sheet 26 = .ok (.if_icmp .eq 9, 3) := by decide +kernel
theorem dX3_sheet_29 : decode cX3_sheet 29 = .ok (.aload_n 0, 1) := by decide +kernel
theorem dX3_sheet_30 : decode cX3_sheet 30 = .ok (.iconst 0, 1) := by decide +kernel
theorem dX3_sheet_31 : decode cX3_sheet 31 = .ok (.invokevirtual 52, 3) := by decide +kernel
theorem dX3_sheet_34 : decode cX3_sheet 34 = .ok (.ireturn, 1) := by decide +kernel
theorem dX3_sheet_35 : decode cX3_sheet 35 = .ok (.iload_n 3, 1) := by decide +kernel
theorem dX3_sheet_36 : decode cX3_sheet 36 = .ok (.ifCond .ge 10, 3) := by decide +kernel
theorem dX3_sheet_39 : decode cX3_sheet 39 = .ok (.aload_n 0, 1) := by decide +kernel
theorem dX3_sheet_40 : decode cX3_sheet 40 = .ok (.bipush 6, 2) := by decide +kernel
theorem dX3_sheet_42 : decode cX3_sheet 42 = .ok (.invokevirtual 52, 3) := by decide +kernel
theorem dX3_sheet_45 : decode cX3_sheet 45 = .ok (.ireturn, 1) := by decide +kernel
theorem dX3_sheet_46 : decode cX3_sheet 46 = .ok (.iload_n 3, 1) := by decide +kernel
theorem dX3_sheet_47 : decode cX3_sheet 47 = .ok (.bipush 40, 2) := by decide +kernel
theorem dX3_sheet_49 : decode cX3_sheet 49 = .ok (.if_icmp .le 9, 3) := by decide +kernel
theorem dX3_sheet_52 : decode cX3_sheet 52 = .ok (.aload_n 0, 1) := by decide +kernel
theorem dX3_sheet_53 : decode cX3_sheet 53 = .ok (.iconst 0, 1) := by decide +kernel
theorem dX3_sheet_54 : decode cX3_sheet 54 = .ok (.invokevirtual 52, 3) := by decide +kernel
theorem dX3_sheet_57 : decode cX3_sheet 57 = .ok (.ireturn, 1) := by decide +kernel
theorem dX3_sheet_58 : decode cX3_sheet 58 = .ok (.aload_n 0, 1) := by decide +kernel
theorem dX3_sheet_59 : decode cX3_sheet 59 = .ok (.getfield 35, 3) := by decide +kernel
theorem dX3_sheet_62 : decode cX3_sheet 62 = .ok (.iload_n 1, 1) := by decide +kernel
theorem dX3_sheet_63 : decode cX3_sheet 63 = .ok (.aaload, 1) := by decide +kernel
theorem dX3_sheet_64 : decode cX3_sheet 64 = .ok (.iload_n 2, 1) := by decide +kernel
theorem dX3_sheet_65 : decode cX3_sheet 65 = .ok (.iload_n 2, 1) := by decide +kernel
theorem dX3_sheet_66 : decode cX3_sheet 66 = .ok (.ifCond .ne 7, 3) := by decide +kernel
theorem dX3_sheet_69 : decode cX3_sheet 69 = .ok (.iconst 0, 1) := by decide +kernel
theorem dX3_sheet_70 : decode cX3_sheet 70 = .ok (.goto 4, 3) := by decide +kernel
theorem dX3_sheet_73 : decode cX3_sheet 73 = .ok (.iload_n 3, 1) := by decide +kernel
theorem dX3_sheet_74 : decode cX3_sheet 74 = .ok (.invokevirtual 200, 3) := by decide +kernel
theorem dX3_sheet_77 : decode cX3_sheet 77 = .ok (.aload_n 0, 1) := by decide +kernel
theorem dX3_sheet_78 : decode cX3_sheet 78 = .ok (.getfield 35, 3) := by decide +kernel
theorem dX3_sheet_81 : decode cX3_sheet 81 = .ok (.iload_n 1, 1) := by decide +kernel
theorem dX3_sheet_82 : decode cX3_sheet 82 = .ok (.aaload, 1) := by decide +kernel
theorem dX3_sheet_83 : decode cX3_sheet 83 = .ok (.getfield 203, 3) := by decide +kernel
theorem dX3_sheet_86 : decode cX3_sheet 86 = .ok (.ireturn, 1) := by decide +kernel
theorem dX3_write_0 : decode cX3_write 0 = .ok (.aload_n 0, 1) := by decide +kernel
theorem dX3_write_1 : decode cX3_write 1 = .ok (.iload_n 1, 1) := by decide +kernel
theorem dX3_write_2 : decode cX3_write 2 = .ok (.invokevirtual 153, 3) := by decide +kernel
theorem dX3_write_5 : decode cX3_write 5 = .ok (.istore 4, 2) := by decide +kernel
theorem dX3_write_7 : decode cX3_write 7 = .ok (.iload 4, 2) := by decide +kernel
theorem dX3_write_9 : decode cX3_write 9 = .ok (.iconst (-1), 1) := by decide +kernel
theorem dX3_write_10 : decode cX3_write 10 = .ok (.if_icmp .eq 10, 3) := by decide +kernel
theorem dX3_write_13 : decode cX3_write 13 = .ok (.aload_n 0, 1) := by decide +kernel
theorem dX3_write_14 : decode cX3_write 14 = .ok (.iload 4, 2) := by decide +kernel
theorem dX3_write_16 : decode cX3_write 16 = .ok (.invokevirtual 52, 3) := by decide +kernel
theorem dX3_write_19 : decode cX3_write 19 = .ok (.ireturn, 1) := by decide +kernel
theorem dX3_write_20 : decode cX3_write 20 = .ok (.iload_n 2, 1) := by decide +kernel
theorem dX3_write_21 : decode cX3_write 21 = .ok (.iconst 0, 1) := by decide +kernel
theorem dX3_write_22 : decode cX3_write 22 = .ok (.aload_n 0, 1) := by decide +kernel
theorem dX3_write_23 : decode cX3_write 23 = .ok (.getfield 35, 3) := by decide +kernel
theorem dX3_write_26 : decode cX3_write 26 = .ok (.iload_n 1, 1) := by decide +kernel
theorem dX3_write_27 : decode cX3_write 27 = .ok (.aaload, 1) := by decide +kernel
theorem dX3_write_28 : decode cX3_write 28 = .ok (.getfield 203, 3) := by decide +kernel
theorem dX3_write_31 : decode cX3_write 31 = .ok (.iconst 1, 1) := by decide +kernel
theorem dX3_write_32 : decode cX3_write 32 = .ok (.isub, 1) := by decide +kernel
theorem dX3_write_33 : decode cX3_write 33 = .ok (.invokestatic 48, 3) := by decide +kernel
theorem dX3_write_36 : decode cX3_write 36 = .ok (.ifCond .ne 9, 3) := by decide +kernel
theorem dX3_write_39 : decode cX3_write 39 = .ok (.aload_n 0, 1) := by decide +kernel
theorem dX3_write_40 : decode cX3_write 40 = .ok (.iconst 0, 1) := by decide +kernel
theorem dX3_write_41 : decode cX3_write 41 = .ok (.invokevirtual 52, 3) := by decide +kernel
theorem dX3_write_44 : decode cX3_write 44 = .ok (.ireturn, 1) := by decide +kernel
theorem dX3_write_45 : decode cX3_write 45 = .ok (.aload_n 0, 1) := by decide +kernel
theorem dX3_write_46 : decode cX3_write 46 = .ok (.getfield 35, 3) := by decide +kernel
theorem dX3_write_49 : decode cX3_write 49 = .ok (.iload_n 1, 1) := by decide +kernel
theorem dX3_write_50 : decode cX3_write 50 = .ok (.aaload, 1) := by decide +kernel
theorem dX3_write_51 : decode cX3_write 51 = .ok (.iload_n 2, 1) := by decide +kernel
theorem dX3_write_52 : decode cX3_write 52 = .ok (.iload_n 3, 1) := by decide +kernel
theorem dX3_write_53 : decode cX3_write 53 = .ok (.invokevirtual 204, 3) := by decide +kernel
theorem dX3_write_56 : decode cX3_write 56 = .ok (.iconst 1, 1) := by decide +kernel
theorem dX3_write_57 : decode cX3_write 57 = .ok (.ireturn, 1) := by decide +kernel
theorem dX3_copy_0 : decode cX3_copy 0 = .ok (.iload_n 1, 1) := by decide +kernel
theorem dX3_copy_1 : decode cX3_copy 1 = .ok (.invokestatic 197, 3) := by decide +kernel
theorem dX3_copy_4 : decode cX3_copy 4 = .ok (.ifCond .eq 10, 3) := by decide +kernel
theorem dX3_copy_7 : decode cX3_copy 7 = .ok (.iload_n 3, 1) := by decide +kernel
theorem dX3_copy_8 : decode cX3_copy 8 = .ok (.invokestatic 197, 3) := by decide +kernel
theorem dX3_copy_11 : decode cX3_copy 11 = .ok (.ifCond .ne 9, 3) := by decide +kernel
theorem dX3_copy_14 : decode cX3_copy 14 = .ok (.aload_n 0, 1) := by decide +kernel
theorem dX3_copy_15 : decode cX3_copy 15 = .ok (.iconst 0, 1) := by decide +kernel
theorem dX3_copy_16 : decode cX3_copy 16 = .ok (.invokevirtual 52, 3) := by decide +kernel
theorem dX3_copy_19 : decode cX3_copy 19 = .ok (.ireturn, 1) := by decide +kernel
theorem dX3_copy_20 : decode cX3_copy 20 = .ok (.aload_n 0, 1) := by decide +kernel
theorem dX3_copy_21 : decode cX3_copy 21 = .ok (.getfield 35, 3) := by decide +kernel
theorem dX3_copy_24 : decode cX3_copy 24 = .ok (.iload_n 1, 1) := by decide +kernel
theorem dX3_copy_25 : decode cX3_copy 25 = .ok (.aaload, 1) := by decide +kernel
theorem dX3_copy_26 : decode cX3_copy 26 = .ok (.invokevirtual 206, 3) := by decide +kernel
theorem dX3_copy_29 : decode cX3_copy 29 = .ok (.ifCond .ne 15, 3) := by decide +kernel
theorem dX3_copy_32 : decode cX3_copy 32 = .ok (.aload_n 0, 1) := by decide +kernel
theorem dX3_copy_33 : decode cX3_copy 33 = .ok (.getfield 35, 3) := by decide +kernel
theorem dX3_copy_36 : decode cX3_copy 36 = .ok (.iload_n 3, 1) := by decide +kernel
theorem dX3_copy_37 : decode cX3_copy 37 = .ok (.aaload, 1) := by decide +kernel
theorem dX3_copy_38 : decode cX3_copy 38 = .ok (.invokevirtual 206, 3) := by decide +kernel
theorem dX3_copy_41 : decode cX3_copy 41 = .ok (.ifCond .eq 9, 3) := by decide +kernel
theorem dX3_copy_44 : decode cX3_copy 44 = .ok (.aload_n 0, 1) := by decide +kernel
theorem dX3_copy_45 : decode cX3_copy 45 = .ok (.iconst 5, 1) := by decide +kernel
theorem dX3_copy_46 : decode cX3_copy 46 = .ok (.invokevirtual 52, 3) := by decide +kernel
theorem dX3_copy_49 : decode cX3_copy 49 = .ok (.ireturn, 1) := by decide +kernel
theorem dX3_copy_50 : decode cX3_copy 50 = .ok (.aload_n 0, 1) := by decide +kernel
theorem dX3_copy_51 : decode cX3_copy 51 = .ok (.getfield 35, 3) := by decide +kernel
theorem dX3_copy_54 : decode cX3_copy 54 = .ok (.iload_n 1, 1) := by decide +kernel
theorem dX3_copy_55 : decode cX3_copy 55 = .ok (.aaload, 1) := by decide +kernel
theorem dX3_copy_56 : decode cX3_copy 56 = .ok (.getfield 210, 3) := by decide +kernel
theorem dX3_copy_59 : decode cX3_copy 59 = .ok (.aload_n 0, 1) := by decide +kernel
theorem dX3_copy_60 : decode cX3_copy 60 = .ok (.getfield 35, 3) := by decide +kernel
theorem dX3_copy_63 : decode cX3_copy 63 = .ok (.iload_n 3, 1) := by decide +kernel
theorem dX3_copy_64 : decode cX3_copy 64 = .ok (.aaload, 1) := by decide +kernel
theorem dX3_copy_65 : decode cX3_copy 65 = .ok (.getfield 210, 3) := by decide +kernel
theorem dX3_copy_68 : decode cX3_copy 68 = .ok (.if_icmp .eq 9, 3) := by decide +kernel
theorem dX3_copy_71 : decode cX3_copy 71 = .ok (.aload_n 0, 1) := by decide +kernel
theorem dX3_copy_72 : decode cX3_copy 72 = .ok (.iconst 2, 1) := by decide +kernel
theorem dX3_copy_73 : decode cX3_copy 73 = .ok (.invokevirtual 52, 3) := by decide +kernel
theorem dX3_copy_76 : decode cX3_copy 76 = .ok (.ireturn, 1) := by decide +kernel
theorem dX3_copy_77 : decode cX3_copy 77 = .ok (.aload_n 0, 1) := by decide +kernel
theorem dX3_copy_78 : decode cX3_copy 78 = .ok (.getfield 35, 3) := by decide +kernel
theorem dX3_copy_81 : decode cX3_copy 81 = .ok (.iload_n 1, 1) := by decide +kernel
theorem dX3_copy_82 : decode cX3_copy 82 = .ok (.aaload, 1) := by decide +kernel
theorem dX3_copy_83 : decode cX3_copy 83 = .ok (.iload_n 2, 1) := by decide +kernel
theorem dX3_copy_84 : decode cX3_copy 84 = .ok (.iload 5, 2) := by decide +kernel
theorem dX3_copy_86 : decode cX3_copy 86 = .ok (.invokevirtual 213, 3) := by decide +kernel
theorem dX3_copy_89 : decode cX3_copy 89 = .ok (.ifCond .eq 19, 3) := by decide +kernel
theorem dX3_copy_92 : decode cX3_copy 92 = .ok (.aload_n 0, 1) := by decide +kernel
theorem dX3_copy_93 : decode cX3_copy 93 = .ok (.getfield 35, 3) := by decide +kernel
theorem dX3_copy_96 : decode cX3_copy 96 = .ok (.iload_n 3, 1) := by decide +kernel
theorem dX3_copy_97 : decode cX3_copy 97 = .ok (.aaload, 1) := by decide +kernel
theorem dX3_copy_98 : decode cX3_copy 98 = .ok (.iload 4, 2) := by decide +kernel
theorem dX3_copy_100 : decode cX3_copy 100 = .ok (.iload 5, 2) := by decide +kernel
theorem dX3_copy_102 : decode cX3_copy 102 = .ok (.invokevirtual 213, 3) := by decide +kernel
theorem dX3_copy_105 : decode cX3_copy 105 = .ok (.ifCond .ne 9, 3) := by decide +kernel
theorem dX3_copy_108 : decode cX3_copy 108 = .ok (.aload_n 0, 1) := by decide +kernel
theorem dX3_copy_109 : decode cX3_copy 109 = .ok (.iconst 0, 1) := by decide +kernel
theorem dX3_copy_110 : decode cX3_copy 110 = .ok (.invokevirtual 52, 3) := by decide +kernel
theorem dX3_copy_113 : decode cX3_copy 113 = .ok (.ireturn, 1) := by decide +kernel
theorem dX3_copy_114 : decode cX3_copy 114 = .ok (.aload_n 0, 1) := by decide +kernel
theorem dX3_copy_115 : decode cX3_copy 115 = .ok (.getfield 35, 3) := by decide +kernel
theorem dX3_copy_118 : decode cX3_copy 118 = .ok (.iload_n 1, 1) := by decide +kernel
theorem dX3_copy_119 : decode cX3_copy 119 = .ok (.aaload, 1) := by decide +kernel
theorem dX3_copy_120 : decode cX3_copy 120 = .ok (.getfield 216, 3) := by decide +kernel
theorem dX3_copy_123 : decode cX3_copy 123 = .ok (.iload_n 2, 1) := by decide +kernel
theorem dX3_copy_124 : decode cX3_copy 124 = .ok (.aload_n 0, 1) := by decide +kernel
theorem dX3_copy_125 : decode cX3_copy 125 = .ok (.getfield 35, 3) := by decide +kernel
theorem dX3_copy_128 : decode cX3_copy 128 = .ok (.iload_n 3, 1) := by decide +kernel
theorem dX3_copy_129 : decode cX3_copy 129 = .ok (.aaload, 1) := by decide +kernel
theorem dX3_copy_130 : decode cX3_copy 130 = .ok (.getfield 216, 3) := by decide +kernel
theorem dX3_copy_133 : decode cX3_copy 133 = .ok (.iload 4, 2) := by decide +kernel
theorem dX3_copy_135 : decode cX3_copy 135 = .ok (.iload 5, 2) := by decide +kernel
theorem dX3_copy_137 : decode cX3_copy 137 = .ok (.invokestatic 219, 3) := by decide +kernel
theorem dX3_copy_140 : decode cX3_copy 140 = .ok (.iload 5, 2) := by decide +kernel
theorem dX3_copy_142 : decode cX3_copy 142 = .ok (.ireturn, 1) := by decide +kernel
theorem dX3_load_0 : decode cX3_load 0 = .ok (.aload_n 0, 1) := by decide +kernel
theorem dX3_load_1 : decode cX3_load 1 = .ok (.iload_n 1, 1) := by decide +kernel
theorem dX3_load_2 : decode cX3_load 2 = .ok (.invokevirtual 153, 3) := by decide +kernel
theorem dX3_load_5 : decode cX3_load 5 = .ok (.istore_n 2, 1) := by decide +kernel
theorem dX3_load_6 : decode cX3_load 6 = .ok (.iload_n 2, 1) := by decide +kernel
theorem dX3_load_7 : decode cX3_load 7 = .ok (.iconst (-1), 1) := by decide +kernel
theorem dX3_load_8 : decode cX3_load 8 = .ok (.if_icmp .eq 9, 3) := by decide +kernel
theorem dX3_load_11 : decode cX3_load 11 = .ok (.aload_n 0, 1) := by decide +kernel
theorem dX3_load_12 : decode cX3_load 12 = .ok (.iload_n 2, 1) := by decide +kernel
theorem dX3_load_13 : decode cX3_load 13 = .ok (.invokevirtual 52, 3) := by decide +kernel
theorem dX3_load_16 : decode cX3_load 16 = .ok (.ireturn, 1) := by decide +kernel
theorem dX3_load_17 : decode cX3_load 17 = .ok (.aload_n 0, 1) := by decide +kernel
theorem dX3_load_18 : decode cX3_load 18 = .ok (.getfield 35, 3) := by decide +kernel
theorem dX3_load_21 : decode cX3_load 21 = .ok (.iload_n 1, 1) := by decide +kernel
theorem dX3_load_22 : decode cX3_load 22 = .ok (.aaload, 1) := by decide +kernel
theorem dX3_load_23 : decode cX3_load 23 = .ok (.getfield 203, 3) := by decide +kernel
theorem dX3_load_26 : decode cX3_load 26 = .ok (.bipush 9, 2) := by decide +kernel
theorem dX3_load_28 : decode cX3_load 28 = .ok (.invokestatic 225, 3) := by decide +kernel
theorem dX3_load_31 : decode cX3_load 31 = .ok (.istore_n 3, 1) := by decide +kernel
theorem dX3_load_32 : decode cX3_load 32 = .ok (.iconst 0, 1) := by decide +kernel
theorem dX3_load_33 : decode cX3_load 33 = .ok (.istore 4, 2) := by decide +kernel
theorem dX3_load_35 : decode cX3_load 35 = .ok (.iload 4, 2) := by decide +kernel
theorem dX3_load_37 : decode cX3_load 37 = .ok (.iload_n 3, 1) := by decide +kernel
theorem dX3_load_38 : decode cX3_load 38 = .ok (.if_icmp .ge 50, 3) := by decide +kernel
theorem dX3_load_41 : decode cX3_load 41 = .ok (.aload_n 0, 1) := by decide +kernel
theorem dX3_load_42 : decode cX3_load 42 = .ok (.getfield 35, 3) := by decide +kernel
theorem dX3_load_45 : decode cX3_load 45 = .ok (.iload_n 1, 1) := by decide +kernel
theorem dX3_load_46 : decode cX3_load 46 = .ok (.aaload, 1) := by decide +kernel
theorem dX3_load_47 : decode cX3_load 47 = .ok (.getfield 216, 3) := by decide +kernel
theorem dX3_load_50 : decode cX3_load 50 = .ok (.iload 4, 2) := by decide +kernel
theorem dX3_load_52 : decode cX3_load 52 = .ok (.iaload, 1) := by decide +kernel
theorem dX3_load_53 : decode cX3_load 53 = .ok (.istore 5, 2) := by decide +kernel
theorem dX3_load_55 : decode cX3_load 55 = .ok (.iload 5, 2) := by decide +kernel
theorem dX3_load_57 : decode cX3_load 57 = .ok (.iconst 0, 1) := by decide +kernel
theorem dX3_load_58 : decode cX3_load 58 = .ok (.sipush 9999, 3) := by decide +kernel
theorem dX3_load_61 : decode cX3_load 61 = .ok (.invokestatic 48, 3) := by decide +kernel
theorem dX3_load_64 : decode cX3_load 64 = .ok (.ifCond .ne 6, 3) := by decide +kernel
theorem dX3_load_67 : decode cX3_load 67 = .ok (.iload 4, 2) := by decide +kernel
theorem dX3_load_69 : decode cX3_load 69 = .ok (.ireturn, 1) := by decide +kernel
theorem dX3_load_70 : decode cX3_load 70 = .ok (.aload_n 0, 1) := by decide +kernel
theorem dX3_load_71 : decode cX3_load 71 = .ok (.getfield 12, 3) := by decide +kernel
theorem dX3_load_74 : decode cX3_load 74 = .ok (.getfield 56, 3) := by decide +kernel
theorem dX3_load_77 : decode cX3_load 77 = .ok (.iload 4, 2) := by decide +kernel
theorem dX3_load_79 : decode cX3_load 79 = .ok (.iload 5, 2) := by decide +kernel
theorem dX3_load_81 : decode cX3_load 81 = .ok (.iastore, 1) := by decide +kernel
theorem dX3_load_82 : decode cX3_load 82 = .ok (.iinc 4 1, 3) := by decide +kernel
theorem dX3_load_85 : decode cX3_load 85 = .ok (.goto (-50), 3) := by decide +kernel
theorem dX3_load_88 : decode cX3_load 88 = .ok (.iload_n 3, 1) := by decide +kernel
theorem dX3_load_89 : decode cX3_load 89 = .ok (.ireturn, 1) := by decide +kernel
theorem dX3_judge_0 : decode cX3_judge 0 = .ok (.aload_n 0, 1) := by decide +kernel
theorem dX3_judge_1 : decode cX3_judge 1 = .ok (.iload_n 1, 1) := by decide +kernel
theorem dX3_judge_2 : decode cX3_judge 2 = .ok (.invokevirtual 153, 3) := by decide +kernel
theorem dX3_judge_5 : decode cX3_judge 5 = .ok (.istore_n 2, 1) := by decide +kernel
theorem dX3_judge_6 : decode cX3_judge 6 = .ok (.iload_n 2, 1) := by decide +kernel
theorem dX3_judge_7 : decode cX3_judge 7 = .ok (.iconst (-1), 1) := by decide +kernel
theorem dX3_judge_8 : decode cX3_judge 8 = .ok (.if_icmp .eq 9, 3) := by decide +kernel
theorem dX3_judge_11 : decode cX3_judge 11 = .ok (.aload_n 0, 1) := by decide +kernel
theorem dX3_judge_12 : decode cX3_judge 12 = .ok (.iload_n 2, 1) := by decide +kernel
theorem dX3_judge_13 : decode cX3_judge 13 = .ok (.invokevirtual 52, 3) := by decide +kernel
theorem dX3_judge_16 : decode cX3_judge 16 = .ok (.ireturn, 1) := by decide +kernel
theorem dX3_judge_17 : decode cX3_judge 17 = .ok (.iconst 0, 1) := by decide +kernel
theorem dX3_judge_18 : decode cX3_judge 18 = .ok (.istore_n 3, 1) := by decide +kernel
theorem dX3_judge_19 : decode cX3_judge 19 = .ok (.iload_n 3, 1) := by decide +kernel
theorem dX3_judge_20 : decode cX3_judge 20 = .ok (.aload_n 0, 1) := by decide +kernel
theorem dX3_judge_21 : decode cX3_judge 21 = .ok (.getfield 35, 3) := by decide +kernel
theorem dX3_judge_24 : decode cX3_judge 24 = .ok (.iload_n 1, 1) := by decide +kernel
theorem dX3_judge_25 : decode cX3_judge 25 = .ok (.aaload, 1) := by decide +kernel
theorem dX3_judge_26 : decode cX3_judge 26 = .ok (.getfield 203, 3) := by decide +kernel
theorem dX3_judge_29 : decode cX3_judge 29 = .ok (.if_icmp .ge 42, 3) := by decide +kernel
theorem dX3_judge_32 : decode cX3_judge 32 = .ok (.iload_n 3, 1) := by decide +kernel
theorem dX3_judge_33 : decode cX3_judge 33 = .ok (.bipush 8, 2) := by decide +kernel
theorem dX3_judge_35 : decode cX3_judge 35 = .ok (.if_icmp .ge 26, 3) := by decide +kernel
theorem dX3_judge_38 : decode cX3_judge 38 = .ok (.aload_n 0, 1) := by decide +kernel
theorem dX3_judge_39 : decode cX3_judge 39 = .ok (.getfield 35, 3) := by decide +kernel
theorem dX3_judge_42 : decode cX3_judge 42 = .ok (.iload_n 1, 1) := by decide +kernel
theorem dX3_judge_43 : decode cX3_judge 43 = .ok (.aaload, 1) := by decide +kernel
theorem dX3_judge_44 : decode cX3_judge 44 = .ok (.getfield 216, 3) := by decide +kernel
theorem dX3_judge_47 : decode cX3_judge 47 = .ok (.iload_n 3, 1) := by decide +kernel
theorem dX3_judge_48 : decode cX3_judge 48 = .ok (.iaload, 1) := by decide +kernel
theorem dX3_judge_49 : decode cX3_judge 49 = .ok (.aload_n 0, 1) := by decide +kernel
theorem dX3_judge_50 : decode cX3_judge 50 = .ok (.getfield 12, 3) := by decide +kernel
theorem dX3_judge_53 : decode cX3_judge 53 = .ok (.getfield 68, 3) := by decide +kernel
theorem dX3_judge_56 : decode cX3_judge 56 = .ok (.iload_n 3, 1) := by decide +kernel
theorem dX3_judge_57 : decode cX3_judge 57 = .ok (.iaload, 1) := by decide +kernel
theorem dX3_judge_58 : decode cX3_judge 58 = .ok (.if_icmp .eq 7, 3) := by decide +kernel
theorem dX3_judge_61 : decode cX3_judge 61 = .ok (.iconst 1, 1) := by decide +kernel
theorem dX3_judge_62 : decode cX3_judge 62 = .ok (.iload_n 3, 1) := by decide +kernel
theorem dX3_judge_63 : decode cX3_judge 63 = .ok (.iadd, 1) := by decide +kernel
theorem dX3_judge_64 : decode cX3_judge 64 = .ok (.ireturn, 1) := by decide +kernel
theorem dX3_judge_65 : decode cX3_judge 65 = .ok (.iinc 3 1, 3) := by decide +kernel
theorem dX3_judge_68 : decode cX3_judge 68 = .ok (.goto (-49), 3) := by decide +kernel
theorem dX3_judge_71 : decode cX3_judge 71 = .ok (.iconst 0, 1) := by decide +kernel
theorem dX3_judge_72 : decode cX3_judge 72 = .ok (.ireturn, 1) := by decide +kernel
theorem dX3_image_0 : decode cX3_image 0 = .ok (.aload_n 0, 1) := by decide +kernel
theorem dX3_image_1 : decode cX3_image 1 = .ok (.getfield 19, 3) := by decide +kernel
theorem dX3_image_4 : decode cX3_image 4 = .ok (.aload_n 0, 1) := by decide +kernel
theorem dX3_image_5 : decode cX3_image 5 = .ok (.getfield 12, 3) := by decide +kernel
theorem dX3_image_8 : decode cX3_image 8 = .ok (.invokevirtual 132, 3) := by decide +kernel
theorem dX3_image_11 : decode cX3_image 11 = .ok (.aload_n 0, 1) := by decide +kernel
theorem dX3_image_12 : decode cX3_image 12 = .ok (.iconst 1, 1) := by decide +kernel
theorem dX3_image_13 : decode cX3_image 13 = .ok (.putfield 22, 3) := by decide +kernel
theorem dX3_image_16 : decode cX3_image 16 = .ok (.iconst 1, 1) := by decide +kernel
theorem dX3_image_17 : decode cX3_image 17 = .ok (.ireturn, 1) := by decide +kernel
theorem dX3_undo_0 : decode cX3_undo 0 = .ok (.aload_n 0, 1) := by decide +kernel
theorem dX3_undo_1 : decode cX3_undo 1 = .ok (.getfield 22, 3) := by decide +kernel
theorem dX3_undo_4 : decode cX3_undo 4 = .ok (.ifCond .ne 9, 3) := by decide +kernel
theorem dX3_undo_7 : decode cX3_undo 7 = .ok (.aload_n 0, 1) := by decide +kernel
theorem dX3_undo_8 : decode cX3_undo 8 = .ok (.iconst 3, 1) := by decide +kernel
theorem dX3_undo_9 : decode cX3_undo 9 = .ok (.invokevirtual 52, 3) := by decide +kernel
theorem dX3_undo_12 : decode cX3_undo 12 = .ok (.ireturn, 1) := by decide +kernel
theorem dX3_undo_13 : decode cX3_undo 13 = .ok (.aload_n 0, 1) := by decide +kernel
theorem dX3_undo_14 : decode cX3_undo 14 = .ok (.getfield 12, 3) := by decide +kernel
theorem dX3_undo_17 : decode cX3_undo 17 = .ok (.aload_n 0, 1) := by decide +kernel
theorem dX3_undo_18 : decode cX3_undo 18 = .ok (.getfield 19, 3) := by decide +kernel
theorem dX3_undo_21 : decode cX3_undo 21 = .ok (.invokevirtual 132, 3) := by decide +kernel
theorem dX3_undo_24 : decode cX3_undo 24 = .ok (.aload_n 0, 1) := by decide +kernel
theorem dX3_undo_25 : decode cX3_undo 25 = .ok (.getfield 12, 3) := by decide +kernel
theorem dX3_undo_28 : decode cX3_undo 28 = .ok (.getfield 104, 3) := by decide +kernel
theorem dX3_undo_31 : decode cX3_undo 31 = .ok (.ireturn, 1) := by decide +kernel
theorem dX3_tear_0 : decode cX3_tear 0 = .ok (.aload_n 0, 1) := by decide +kernel
theorem dX3_tear_1 : decode cX3_tear 1 = .ok (.getfield 22, 3) := by decide +kernel
theorem dX3_tear_4 : decode cX3_tear 4 = .ok (.ifCond .eq 7, 3) := by decide +kernel
theorem dX3_tear_7 : decode cX3_tear 7 = .ok (.iconst 1, 1) := by decide +kernel
theorem dX3_tear_8 : decode cX3_tear 8 = .ok (.goto 4, 3) := by decide +kernel
theorem dX3_tear_11 : decode cX3_tear 11 = .ok (.iconst 0, 1) := by decide +kernel
theorem dX3_tear_12 : decode cX3_tear 12 = .ok (.istore_n 1, 1) := by decide +kernel
theorem dX3_tear_13 : decode cX3_tear 13 = .ok (.aload_n 0, 1) := by decide +kernel
theorem dX3_tear_14 : decode cX3_tear 14 = .ok (.iconst 0, 1) := by decide +kernel
theorem dX3_tear_15 : decode cX3_tear 15 = .ok (.putfield 22, 3) := by decide +kernel
theorem dX3_tear_18 : decode cX3_tear 18 = .ok (.iload_n 1, 1) := by decide +kernel
theorem dX3_tear_19 : decode cX3_tear 19 = .ok (.ireturn, 1) := by decide +kernel
theorem dX3_count_0 : decode cX3_count 0 = .ok (.iload_n 1, 1) := by decide +kernel
theorem dX3_count_1 : decode cX3_count 1 = .ok (.tableswitch 114 0 7 #[47, 55, 63, 74, 82, 90, 98, 106], 47) := by decide +kernel
theorem dX3_count_48 : decode cX3_count 48 = .ok (.aload_n 0, 1) := by decide +kernel
theorem dX3_count_49 : decode cX3_count 49 = .ok (.getfield 12, 3) := by decide +kernel
theorem dX3_count_52 : decode cX3_count 52 = .ok (.getfield 104, 3) := by decide +kernel
theorem dX3_count_55 : decode cX3_count 55 = .ok (.ireturn, 1) := by decide +kernel
theorem dX3_count_56 : decode cX3_count 56 = .ok (.aload_n 0, 1) := by decide +kernel
theorem dX3_count_57 : decode cX3_count 57 = .ok (.getfield 12, 3) := by decide +kernel
theorem dX3_count_60 : decode cX3_count 60 = .ok (.getfield 78, 3) := by decide +kernel
theorem dX3_count_63 : decode cX3_count 63 = .ok (.ireturn, 1) := by decide +kernel
theorem dX3_count_64 : decode cX3_count 64 = .ok (.aload_n 0, 1) := by decide +kernel
theorem dX3_count_65 : decode cX3_count 65 = .ok (.getfield 12, 3) := by decide +kernel
theorem dX3_count_68 : decode cX3_count 68 = .ok (.invokevirtual 119, 3) := by decide +kernel
theorem dX3_count_71 : decode cX3_count 71 = .ok (.invokestatic 167, 3) := by decide +kernel
theorem dX3_count_74 : decode cX3_count 74 = .ok (.ireturn, 1) := by decide +kernel
theorem dX3_count_75 : decode cX3_count 75 = .ok (.aload_n 0, 1) := by decide +kernel
theorem dX3_count_76 : decode cX3_count 76 = .ok (.getfield 12, 3) := by decide +kernel
theorem dX3_count_79 : decode cX3_count 79 = .ok (.invokevirtual 116, 3) := by decide +kernel
theorem dX3_count_82 : decode cX3_count 82 = .ok (.ireturn, 1) := by decide +kernel
theorem dX3_count_83 : decode cX3_count 83 = .ok (.aload_n 0, 1) := by decide +kernel
theorem dX3_count_84 : decode cX3_count 84 = .ok (.getfield 12, 3) := by decide +kernel
theorem dX3_count_87 : decode cX3_count 87 = .ok (.invokevirtual 122, 3) := by decide +kernel
theorem dX3_count_90 : decode cX3_count 90 = .ok (.ireturn, 1) := by decide +kernel
theorem dX3_count_91 : decode cX3_count 91 = .ok (.aload_n 0, 1) := by decide +kernel
theorem dX3_count_92 : decode cX3_count 92 = .ok (.getfield 29, 3) := by decide +kernel
theorem dX3_count_95 : decode cX3_count 95 = .ok (.getfield 177, 3) := by decide +kernel
theorem dX3_count_98 : decode cX3_count 98 = .ok (.ireturn, 1) := by decide +kernel
theorem dX3_count_99 : decode cX3_count 99 = .ok (.aload_n 0, 1) := by decide +kernel
theorem dX3_count_100 : decode cX3_count 100 = .ok (.getfield 12, 3) := by decide +kernel
theorem dX3_count_103 : decode cX3_count 103 = .ok (.getfield 174, 3) := by decide +kernel
theorem dX3_count_106 : decode cX3_count 106 = .ok (.ireturn, 1) := by decide +kernel
theorem dX3_count_107 : decode cX3_count 107 = .ok (.aload_n 0, 1) := by decide +kernel
theorem dX3_count_108 : decode cX3_count 108 = .ok (.getfield 12, 3) := by decide +kernel
theorem dX3_count_111 : decode cX3_count 111 = .ok (.invokevirtual 230, 3) := by decide +kernel
theorem dX3_count_114 : decode cX3_count 114 = .ok (.ireturn, 1) := by decide +kernel
theorem dX3_count_115 : decode cX3_count 115 = .ok (.aload_n 0, 1) := by decide +kernel
theorem dX3_count_116 : decode cX3_count 116 = .ok (.iconst 0, 1) := by decide +kernel
theorem dX3_count_117 : decode cX3_count 117 = .ok (.invokevirtual 52, 3) := by decide +kernel
theorem dX3_count_120 : decode cX3_count 120 = .ok (.ireturn, 1) := by decide +kernel
theorem dX3_status_0 : decode cX3_status 0 = .ok (.iload_n 1, 1) := by decide +kernel
theorem dX3_status_1 : decode cX3_status 1 = .ok (.iconst (-1), 1) := by decide +kernel
theorem dX3_status_2 : decode cX3_status 2 = .ok (.bipush 6, 2) := by decide +kernel
theorem dX3_status_4 : decode cX3_status 4 = .ok (.invokestatic 48, 3) := by decide +kernel
theorem dX3_status_7 : decode cX3_status 7 = .ok (.ifCond .ne 9, 3) := by decide +kernel
theorem dX3_status_10 : decode cX3_status 10 = .ok (.aload_n 0, 1) := by decide +kernel
theorem dX3_status_11 : decode cX3_status 11 = .ok (.iconst 0, 1) := by decide +kernel
theorem dX3_status_12 : decode cX3_status 12 = .ok (.invokevirtual 52, 3) := by decide +kernel
theorem dX3_status_15 : decode cX3_status 15 = .ok (.ireturn, 1) := by decide +kernel
theorem dX3_status_16 : decode cX3_status 16 = .ok (.iload_n 1, 1) := by decide +kernel
theorem dX3_status_17 : decode cX3_status 17 = .ok (.ifCond .ge 10, 3) := by decide +kernel
theorem dX3_status_20 : decode cX3_status 20 = .ok (.aload_n 0, 1) := by decide +kernel
theorem dX3_status_21 : decode cX3_status 21 = .ok (.invokevirtual 233, 3) := by decide +kernel
theorem dX3_status_24 : decode cX3_status 24 = .ok (.goto 9, 3) := by decide +kernel
theorem dX3_status_27 : decode cX3_status 27 = .ok (.aload_n 0, 1) := by decide +kernel
theorem dX3_status_28 : decode cX3_status 28 = .ok (.getfield 40, 3) := by decide +kernel
theorem dX3_status_31 : decode cX3_status 31 = .ok (.iload_n 1, 1) := by decide +kernel
theorem dX3_status_32 : decode cX3_status 32 = .ok (.iaload, 1) := by decide +kernel
theorem dX3_status_33 : decode cX3_status 33 = .ok (.ireturn, 1) := by decide +kernel
theorem dX3_finding_0 : decode cX3_finding 0 = .ok (.aload_n 0, 1) := by decide +kernel
theorem dX3_finding_1 : decode cX3_finding 1 = .ok (.getfield 40, 3) := by decide +kernel
theorem dX3_finding_4 : decode cX3_finding 4 = .ok (.iload_n 1, 1) := by decide +kernel
theorem dX3_finding_5 : decode cX3_finding 5 = .ok (.dup2, 1) := by decide +kernel
theorem dX3_finding_6 : decode cX3_finding 6 = .ok (.iaload, 1) := by decide +kernel
theorem dX3_finding_7 : decode cX3_finding 7 = .ok (.iconst 1, 1) := by decide +kernel
theorem dX3_finding_8 : decode cX3_finding 8 = .ok (.iadd, 1) := by decide +kernel
theorem dX3_finding_9 : decode cX3_finding 9 = .ok (.iastore, 1) := by decide +kernel
theorem dX3_finding_10 : decode cX3_finding 10 = .ok (.ldc 236, 2) := by decide +kernel
theorem dX3_finding_12 : decode cX3_finding 12 = .ok (.iload_n 1, 1) := by decide +kernel
theorem dX3_finding_13 : decode cX3_finding 13 = .ok (.isub, 1) := by decide +kernel
theorem dX3_finding_14 : decode cX3_finding 14 = .ok (.ireturn, 1) := by decide +kernel
theorem dX3_allFound_0 : decode cX3_allFound 0 = .ok (.iconst 0, 1) := by decide +kernel
theorem dX3_allFound_1 : decode cX3_allFound 1 = .ok (.istore_n 1, 1) := by decide +kernel
theorem dX3_allFound_2 : decode cX3_allFound 2 = .ok (.iconst 0, 1) := by decide +kernel
theorem dX3_allFound_3 : decode cX3_allFound 3 = .ok (.istore_n 2, 1) := by decide +kernel
theorem dX3_allFound_4 : decode cX3_allFound 4 = .ok (.iload_n 2, 1) := by decide +kernel
theorem dX3_allFound_5 : decode cX3_allFound 5 = .ok (.bipush 7, 2) := by decide +kernel
theorem dX3_allFound_7 : decode cX3_allFound 7 = .ok (.if_icmp .ge 18, 3) := by decide +kernel
theorem dX3_allFound_10 : decode cX3_allFound 10 = .ok (.iload_n 1, 1) := by decide +kernel
theorem dX3_allFound_11 : decode cX3_allFound 11 = .ok (.aload_n 0, 1) := by decide +kernel
theorem dX3_allFound_12 : decode cX3_allFound 12 = .ok (.getfield 40, 3) := by decide +kernel
theorem dX3_allFound_15 : decode cX3_allFound 15 = .ok (.iload_n 2, 1) := by decide +kernel
theorem dX3_allFound_16 : decode cX3_allFound 16 = .ok (.iaload, 1) := by decide +kernel
theorem dX3_allFound_17 : decode cX3_allFound 17 = .ok (.iadd, 1) := by decide +kernel
theorem dX3_allFound_18 : decode cX3_allFound 18 = .ok (.istore_n 1, 1) := by decide +kernel
theorem dX3_allFound_19 : decode cX3_allFound 19 = .ok (.iinc 2 1, 3) := by decide +kernel
theorem dX3_allFound_22 : decode cX3_allFound 22 = .ok (.goto (-18), 3) := by decide +kernel
theorem dX3_allFound_25 : decode cX3_allFound 25 = .ok (.iload_n 1, 1) := by decide +kernel
theorem dX3_allFound_26 : decode cX3_allFound 26 = .ok (.ireturn, 1) := by decide +kernel
theorem dX3_isIn_0 : decode cX3_isIn 0 = .ok (.iload_n 0, 1) := by decide +kernel
theorem dX3_isIn_1 : decode cX3_isIn 1 = .ok (.iload_n 1, 1) := by decide +kernel
theorem dX3_isIn_2 : decode cX3_isIn 2 = .ok (.if_icmp .lt 12, 3) := by decide +kernel
theorem dX3_isIn_5 : decode cX3_isIn 5 = .ok (.iload_n 0, 1) := by decide +kernel
theorem dX3_isIn_6 : decode cX3_isIn 6 = .ok (.iload_n 2, 1) := by decide +kernel
theorem dX3_isIn_7 : decode cX3_isIn 7 = .ok (.if_icmp .gt 7, 3) := by decide +kernel
theorem dX3_isIn_10 : decode cX3_isIn 10 = .ok (.iconst 1, 1) := by decide +kernel
theorem dX3_isIn_11 : decode cX3_isIn 11 = .ok (.goto 4, 3) := by decide +kernel
theorem dX3_isIn_14 : decode cX3_isIn 14 = .ok (.iconst 0, 1) := by decide +kernel
theorem dX3_isIn_15 : decode cX3_isIn 15 = .ok (.ireturn, 1) := by decide +kernel
theorem dX3_isField_0 : decode cX3_isField 0 = .ok (.iload_n 0, 1) := by decide +kernel
theorem dX3_isField_1 : decode cX3_isField 1 = .ok (.iconst 0, 1) := by decide +kernel
theorem dX3_isField_2 : decode cX3_isField 2 = .ok (.bipush 8, 2) := by decide +kernel
theorem dX3_isField_4 : decode cX3_isField 4 = .ok (.invokestatic 48, 3) := by decide +kernel
theorem dX3_isField_7 : decode cX3_isField 7 = .ok (.ireturn, 1) := by decide +kernel
theorem dX3_isGate_0 : decode cX3_isGate 0 = .ok (.iload_n 0, 1) := by decide +kernel
theorem dX3_isGate_1 : decode cX3_isGate 1 = .ok (.iconst 0, 1) := by decide +kernel
theorem dX3_isGate_2 : decode cX3_isGate 2 = .ok (.bipush 7, 2) := by decide +kernel
theorem dX3_isGate_4 : decode cX3_isGate 4 = .ok (.invokestatic 48, 3) := by decide +kernel
theorem dX3_isGate_7 : decode cX3_isGate 7 = .ok (.ireturn, 1) := by decide +kernel
theorem dX3_isManner_0 : decode cX3_isManner 0 = .ok (.iload_n 0, 1) := by decide +kernel
theorem dX3_isManner_1 : decode cX3_isManner 1 = .ok (.iconst 0, 1) := by decide +kernel
theorem dX3_isManner_2 : decode cX3_isManner 2 = .ok (.iconst 3, 1) := by decide +kernel
theorem dX3_isManner_3 : decode cX3_isManner 3 = .ok (.invokestatic 48, 3) := by decide +kernel
theorem dX3_isManner_6 : decode cX3_isManner 6 = .ok (.ireturn, 1) := by decide +kernel
theorem dX3_isKind_0 : decode cX3_isKind 0 = .ok (.iload_n 0, 1) := by decide +kernel
theorem dX3_isKind_1 : decode cX3_isKind 1 = .ok (.iconst 0, 1) := by decide +kernel
theorem dX3_isKind_2 : decode cX3_isKind 2 = .ok (.bipush 6, 2) := by decide +kernel
theorem dX3_isKind_4 : decode cX3_isKind 4 = .ok (.invokestatic 48, 3) := by decide +kernel
theorem dX3_isKind_7 : decode cX3_isKind 7 = .ok (.ireturn, 1) := by decide +kernel
theorem dX3_isSpot_0 : decode cX3_isSpot 0 = .ok (.iload_n 0, 1) := by decide +kernel
theorem dX3_isSpot_1 : decode cX3_isSpot 1 = .ok (.iconst 0, 1) := by decide +kernel
theorem dX3_isSpot_2 : decode cX3_isSpot 2 = .ok (.bipush 9, 2) := by decide +kernel
theorem dX3_isSpot_4 : decode cX3_isSpot 4 = .ok (.invokestatic 48, 3) := by decide +kernel
theorem dX3_isSpot_7 : decode cX3_isSpot 7 = .ok (.ireturn, 1) := by decide +kernel
theorem dX3_isSheet_0 : decode cX3_isSheet 0 = .ok (.iload_n 0, 1) := by decide +kernel
theorem dX3_isSheet_1 : decode cX3_isSheet 1 = .ok (.iconst 0, 1) := by decide +kernel
theorem dX3_isSheet_2 : decode cX3_isSheet 2 = .ok (.iconst 3, 1) := by decide +kernel
theorem dX3_isSheet_3 : decode cX3_isSheet 3 = .ok (.invokestatic 48, 3) := by decide +kernel
theorem dX3_isSheet_6 : decode cX3_isSheet 6 = .ok (.ireturn, 1) := by decide +kernel
theorem dX3_isWalker_0 : decode cX3_isWalker 0 = .ok (.iload_n 1, 1) := by decide +kernel
theorem dX3_isWalker_1 : decode cX3_isWalker 1 = .ok (.iconst 0, 1) := by decide +kernel
theorem dX3_isWalker_2 : decode cX3_isWalker 2 = .ok (.aload_n 0, 1) := by decide +kernel
theorem dX3_isWalker_3 : decode cX3_isWalker 3 = .ok (.getfield 12, 3) := by decide +kernel
theorem dX3_isWalker_6 : decode cX3_isWalker 6 = .ok (.getfield 78, 3) := by decide +kernel
theorem dX3_isWalker_9 : decode cX3_isWalker 9 = .ok (.iconst 1, 1) := by decide +kernel
theorem dX3_isWalker_10 : decode cX3_isWalker 10 = .ok (.isub, 1) := by decide +kernel
theorem dX3_isWalker_11 : decode cX3_isWalker 11 = .ok (.invokestatic 48, 3) := by decide +kernel
theorem dX3_isWalker_14 : decode cX3_isWalker 14 = .ok (.ireturn, 1) := by decide +kernel
theorem dX3_isWish_0 : decode cX3_isWish 0 = .ok (.aload_n 0, 1) := by decide +kernel
theorem dX3_isWish_1 : decode cX3_isWish 1 = .ok (.iload_n 1, 1) := by decide +kernel
theorem dX3_isWish_2 : decode cX3_isWish 2 = .ok (.invokevirtual 85, 3) := by decide +kernel
theorem dX3_isWish_5 : decode cX3_isWish 5 = .ok (.ifCond .eq 32, 3) := by decide +kernel
theorem dX3_isWish_8 : decode cX3_isWish 8 = .ok (.iload_n 2, 1) := by decide +kernel
theorem dX3_isWish_9 : decode cX3_isWish 9 = .ok (.invokestatic 62, 3) := by decide +kernel
theorem dX3_isWish_12 : decode cX3_isWish 12 = .ok (.ifCond .eq 25, 3) := by decide +kernel
theorem dX3_isWish_15 : decode cX3_isWish 15 = .ok (.iload_n 3, 1) := by decide +kernel
theorem dX3_isWish_16 : decode cX3_isWish 16 = .ok (.invokestatic 65, 3) := by decide +kernel
theorem dX3_isWish_19 : decode cX3_isWish 19 = .ok (.ifCond .eq 18, 3) := by decide +kernel
theorem dX3_isWish_22 : decode cX3_isWish 22 = .ok (.iload 4, 2) := by decide +kernel
theorem dX3_isWish_24 : decode cX3_isWish 24 = .ok (.iconst 0, 1) := by decide +kernel
theorem dX3_isWish_25 : decode cX3_isWish 25 = .ok (.bipush 40, 2) := by decide +kernel
theorem dX3_isWish_27 : decode cX3_isWish 27 = .ok (.invokestatic 48, 3) := by decide +kernel
theorem dX3_isWish_30 : decode cX3_isWish 30 = .ok (.ifCond .eq 7, 3) := by decide +kernel
theorem dX3_isWish_33 : decode cX3_isWish 33 = .ok (.iconst 1, 1) := by decide +kernel
theorem dX3_isWish_34 : decode cX3_isWish 34 = .ok (.goto 4, 3) := by decide +kernel
theorem dX3_isWish_37 : decode cX3_isWish 37 = .ok (.iconst 0, 1) := by decide +kernel
theorem dX3_isWish_38 : decode cX3_isWish 38 = .ok (.ireturn, 1) := by decide +kernel
theorem dX3_wrongSheet_0 : decode cX3_wrongSheet 0 = .ok (.iload_n 1, 1) := by decide +kernel
theorem dX3_wrongSheet_1 : decode cX3_wrongSheet 1 = .ok (.invokestatic 197, 3) := by decide +kernel
theorem dX3_wrongSheet_4 : decode cX3_wrongSheet 4 = .ok (.ifCond .ne 5, 3) := by decide +kernel
theorem dX3_wrongSheet_7 : decode cX3_wrongSheet 7 = .ok (.iconst 0, 1) := by decide +kernel
theorem dX3_wrongSheet_8 : decode cX3_wrongSheet 8 = .ok (.ireturn, 1) := by decide +kernel
theorem dX3_wrongSheet_9 : decode cX3_wrongSheet 9 = .ok (.aload_n 0, 1) := by decide +kernel
theorem dX3_wrongSheet_10 : decode cX3_wrongSheet 10 = .ok (.getfield 35, 3) := by decide +kernel
theorem dX3_wrongSheet_13 : decode cX3_wrongSheet 13 = .ok (.iload_n 1, 1) := by decide +kernel
theorem dX3_wrongSheet_14 : decode cX3_wrongSheet 14 = .ok (.aaload, 1) := by decide +kernel
theorem dX3_wrongSheet_15 : decode cX3_wrongSheet 15 = .ok (.invokevirtual 206, 3) := by decide +kernel
theorem dX3_wrongSheet_18 : decode cX3_wrongSheet 18 = .ok (.ifCond .eq 7, 3) := by decide +kernel
theorem dX3_wrongSheet_21 : decode cX3_wrongSheet 21 = .ok (.iconst 5, 1) := by decide +kernel
theorem dX3_wrongSheet_22 : decode cX3_wrongSheet 22 = .ok (.goto 4, 3) := by decide +kernel
theorem dX3_wrongSheet_25 : decode cX3_wrongSheet 25 = .ok (.iconst (-1), 1) := by decide +kernel
theorem dX3_wrongSheet_26 : decode cX3_wrongSheet 26 = .ok (.ireturn, 1) := by decide +kernel
theorem dX3_isUnder_0 : decode cX3_isUnder 0 = .ok (.iload_n 0, 1) := by decide +kernel
theorem dX3_isUnder_1 : decode cX3_isUnder 1 = .ok (.istore_n 2, 1) := by decide +kernel
theorem dX3_isUnder_2 : decode cX3_isUnder 2 = .ok (.iconst 0, 1) := by decide +kernel
theorem dX3_isUnder_3 : decode cX3_isUnder 3 = .ok (.istore_n 3, 1) := by decide +kernel
theorem dX3_isUnder_4 : decode cX3_isUnder 4 = .ok (.iload_n 3, 1) := by decide +kernel
theorem dX3_isUnder_5 : decode cX3_isUnder 5 = .ok (.bipush 7, 2) := by decide +kernel
theorem dX3_isUnder_7 : decode cX3_isUnder 7 = .ok (.if_icmp .ge 29, 3) := by decide +kernel
theorem dX3_isUnder_10 : decode cX3_isUnder 10 = .ok (.iload_n 2, 1) := by decide +kernel
theorem dX3_isUnder_11 : decode cX3_isUnder 11 = .ok (.invokestatic 75, 3) := by decide +kernel
theorem dX3_isUnder_14 : decode cX3_isUnder 14 = .ok (.ifCond .eq 22, 3) := by decide +kernel
theorem dX3_isUnder_17 : decode cX3_isUnder 17 = .ok (.iload_n 2, 1) := by decide +kernel
theorem dX3_isUnder_18 : decode cX3_isUnder 18 = .ok (.iload_n 1, 1) := by decide +kernel
theorem dX3_isUnder_19 : decode cX3_isUnder 19 = .ok (.if_icmp .ne 5, 3) := by decide +kernel
theorem dX3_isUnder_22 : decode cX3_isUnder 22 = .ok (.iconst 1, 1) := by decide +kernel
theorem dX3_isUnder_23 : decode cX3_isUnder 23 = .ok (.ireturn, 1) := by decide +kernel
theorem dX3_isUnder_24 : decode cX3_isUnder 24 = .ok (.getstatic 237, 3) := by decide +kernel
theorem dX3_isUnder_27 : decode cX3_isUnder 27 = .ok (.iload_n 2, 1) := by decide +kernel
theorem dX3_isUnder_28 : decode cX3_isUnder 28 = .ok (.iaload, 1) := by decide +kernel
theorem dX3_isUnder_29 : decode cX3_isUnder 29 = .ok (.istore_n 2, 1) := by decide +kernel
theorem dX3_isUnder_30 : decode cX3_isUnder 30 = .ok (.iinc 3 1, 3) := by decide +kernel
theorem dX3_isUnder_33 : decode cX3_isUnder 33 = .ok (.goto (-29), 3) := by decide +kernel
theorem dX3_isUnder_36 : decode cX3_isUnder 36 = .ok (.iconst 0, 1) := by decide +kernel
theorem dX3_isUnder_37 : decode cX3_isUnder 37 = .ok (.ireturn, 1) := by decide +kernel
theorem dX3_tryHours_0 : decode cX3_tryHours 0 = .ok (.aload_n 0, 1) := by decide +kernel
theorem dX3_tryHours_1 : decode cX3_tryHours 1 = .ok (.getfield 16, 3) := by decide +kernel
theorem dX3_tryHours_4 : decode cX3_tryHours 4 = .ok (.aload_n 0, 1) := by decide +kernel
theorem dX3_tryHours_5 : decode cX3_tryHours 5 = .ok (.getfield 12, 3) := by decide +kernel
theorem dX3_tryHours_8 : decode cX3_tryHours 8 = .ok (.invokevirtual 132, 3) := by decide +kernel
theorem dX3_tryHours_11 : decode cX3_tryHours 11 = .ok (.aload_n 0, 1) := by decide +kernel
theorem dX3_tryHours_12 : decode cX3_tryHours 12 = .ok (.getfield 16, 3) := by decide +kernel
theorem dX3_tryHours_15 : decode cX3_tryHours 15 = .ok (.iload_n 1, 1) := by decide +kernel
theorem dX3_tryHours_16 : decode cX3_tryHours 16 = .ok (.sipush 255, 3) := by decide +kernel
theorem dX3_tryHours_19 : decode cX3_tryHours 19 = .ok (.invokevirtual 108, 3) := by decide +kernel
theorem dX3_tryHours_22 : decode cX3_tryHours 22 = .ok (.return_, 1) := by decide +kernel
theorem dX3_valuesFor_0 : decode cX3_valuesFor 0 = .ok (.iconst 0, 1) := by decide +kernel
theorem dX3_valuesFor_1 : decode cX3_valuesFor 1 = .ok (.istore 6, 2) := by decide +kernel
theorem dX3_valuesFor_3 : decode cX3_valuesFor 3 = .ok (.iconst 0, 1) := by decide +kernel
theorem dX3_valuesFor_4 : decode cX3_valuesFor 4 = .ok (.istore 7, 2) := by decide +kernel
theorem dX3_valuesFor_6 : decode cX3_valuesFor 6 = .ok (.iload 7, 2) := by decide +kernel
theorem dX3_valuesFor_8 : decode cX3_valuesFor 8 = .ok (.getstatic 95, 3) := by decide +kernel
theorem dX3_valuesFor_11 : decode cX3_valuesFor 11 = .ok (.iload_n 2, 1) := by decide +kernel
theorem dX3_valuesFor_12 : decode cX3_valuesFor 12 = .ok (.iaload, 1) := by decide +kernel
theorem dX3_valuesFor_13 : decode cX3_valuesFor 13 = .ok (.if_icmp .gt 68, 3) := by decide +kernel
theorem dX3_valuesFor_16 : decode cX3_valuesFor 16 = .ok (.aload_n 0, 1) := by decide +kernel
theorem dX3_valuesFor_17 : decode cX3_valuesFor 17 = .ok (.getfield 16, 3) := by decide +kernel
theorem dX3_valuesFor_20 : decode cX3_valuesFor 20 = .ok (.aload_n 0, 1) := by decide +kernel
theorem dX3_valuesFor_21 : decode cX3_valuesFor 21 = .ok (.getfield 12, 3) := by decide +kernel
theorem dX3_valuesFor_24 : decode cX3_valuesFor 24 = .ok (.invokevirtual 132, 3) := by decide +kernel
theorem dX3_valuesFor_27 : decode cX3_valuesFor 27 = .ok (.aload_n 0, 1) := by decide +kernel
theorem dX3_valuesFor_28 : decode cX3_valuesFor 28 = .ok (.getfield 16, 3) := by decide +kernel
theorem dX3_valuesFor_31 : decode cX3_valuesFor 31 = .ok (.getfield 91, 3) := by decide +kernel
theorem dX3_valuesFor_34 : decode cX3_valuesFor 34 = .ok (.iload_n 2, 1) := by decide +kernel
theorem dX3_valuesFor_35 : decode cX3_valuesFor 35 = .ok (.aaload, 1) := by decide +kernel
theorem dX3_valuesFor_36 : decode cX3_valuesFor 36 = .ok (.iload_n 1, 1) := by decide +kernel
theorem dX3_valuesFor_37 : decode cX3_valuesFor 37 = .ok (.iload 7, 2) := by decide +kernel
theorem dX3_valuesFor_39 : decode cX3_valuesFor 39 = .ok (.iastore, 1) := by decide +kernel
theorem dX3_valuesFor_40 : decode cX3_valuesFor 40 = .ok (.aload_n 0, 1) := by decide +kernel
theorem dX3_valuesFor_41 : decode cX3_valuesFor 41 = .ok (.getfield 16, 3) := by decide +kernel
theorem dX3_valuesFor_44 : decode cX3_valuesFor 44 = .ok (.iload 5, 2) := by decide +kernel
theorem dX3_valuesFor_46 : decode cX3_valuesFor 46 = .ok (.sipush 255, 3) := by decide +kernel
theorem dX3_valuesFor_49 : decode cX3_valuesFor 49 = .ok (.invokevirtual 108, 3) := by decide +kernel
theorem dX3_valuesFor_52 : decode cX3_valuesFor 52 = .ok (.aload_n 0, 1) := by decide +kernel
theorem dX3_valuesFor_53 : decode cX3_valuesFor 53 = .ok (.getfield 16, 3) := by decide +kernel
theorem dX3_valuesFor_56 : decode cX3_valuesFor 56 = .ok (.getfield 68, 3) := by decide +kernel
theorem dX3_valuesFor_59 : decode cX3_valuesFor 59 = .ok (.iload_n 3, 1) := by decide +kernel
theorem dX3_valuesFor_60 : decode cX3_valuesFor 60 = .ok (.iaload, 1) := by decide +kernel
theorem dX3_valuesFor_61 : decode cX3_valuesFor 61 = .ok (.iload 4, 2) := by decide +kernel
theorem dX3_valuesFor_63 : decode cX3_valuesFor 63 = .ok (.if_icmp .ne 12, 3) := by decide +kernel
theorem dX3_valuesFor_66 : decode cX3_valuesFor 66 = .ok (.iload 6, 2) := by decide +kernel
theorem dX3_valuesFor_68 : decode cX3_valuesFor 68 = .ok (.iconst 1, 1) := by decide +kernel
theorem dX3_valuesFor_69 : decode cX3_valuesFor 69 = .ok (.iload 7, 2) := by decide +kernel
theorem dX3_valuesFor_71 : decode cX3_valuesFor 71 = .ok (.ishl, 1) := by decide +kernel
theorem dX3_valuesFor_72 : decode cX3_valuesFor 72 = .ok (.ior, 1) := by decide +kernel
theorem dX3_valuesFor_73 : decode cX3_valuesFor 73 = .ok (.istore 6, 2) := by decide +kernel
theorem dX3_valuesFor_75 : decode cX3_valuesFor 75 = .ok (.iinc 7 1, 3) := by decide +kernel
theorem dX3_valuesFor_78 : decode cX3_valuesFor 78 = .ok (.goto (-72), 3) := by decide +kernel
theorem dX3_valuesFor_81 : decode cX3_valuesFor 81 = .ok (.iload 6, 2) := by decide +kernel
theorem dX3_valuesFor_83 : decode cX3_valuesFor 83 = .ok (.ireturn, 1) := by decide +kernel
theorem dX3_leastHome_0 : decode cX3_leastHome 0 = .ok (.iconst 0, 1) := by decide +kernel
theorem dX3_leastHome_1 : decode cX3_leastHome 1 = .ok (.istore 5, 2) := by decide +kernel
theorem dX3_leastHome_3 : decode cX3_leastHome 3 = .ok (.iload 5, 2) := by decide +kernel
theorem dX3_leastHome_5 : decode cX3_leastHome 5 = .ok (.iconst 1, 1) := by decide +kernel
theorem dX3_leastHome_6 : decode cX3_leastHome 6 = .ok (.aload_n 0, 1) := by decide +kernel
theorem dX3_leastHome_7 : decode cX3_leastHome 7 = .ok (.getfield 12, 3) := by decide +kernel
theorem dX3_leastHome_10 : decode cX3_leastHome 10 = .ok (.getfield 78, 3) := by decide +kernel
theorem dX3_leastHome_13 : decode cX3_leastHome 13 = .ok (.ishl, 1) := by decide +kernel
theorem dX3_leastHome_14 : decode cX3_leastHome 14 = .ok (.if_icmp .ge 62, 3) := by decide +kernel
theorem dX3_leastHome_17 : decode cX3_leastHome 17 = .ok (.iload 5, 2) := by decide +kernel
theorem dX3_leastHome_19 : decode cX3_leastHome 19 = .ok (.invokestatic 167, 3) := by decide +kernel
theorem dX3_leastHome_22 : decode cX3_leastHome 22 = .ok (.iload_n 1, 1) := by decide +kernel
theorem dX3_leastHome_23 : decode cX3_leastHome 23 = .ok (.if_icmp .ne 47, 3) := by decide +kernel
theorem dX3_leastHome_26 : decode cX3_leastHome 26 = .ok (.aload_n 0, 1) := by decide +kernel
theorem dX3_leastHome_27 : decode cX3_leastHome 27 = .ok (.getfield 16, 3) := by decide +kernel
theorem dX3_leastHome_30 : decode cX3_leastHome 30 = .ok (.aload_n 0, 1) := by decide +kernel
theorem dX3_leastHome_31 : decode cX3_leastHome 31 = .ok (.getfield 12, 3) := by decide +kernel
theorem dX3_leastHome_34 : decode cX3_leastHome 34 = .ok (.invokevirtual 132, 3) := by decide +kernel
theorem dX3_leastHome_37 : decode cX3_leastHome 37 = .ok (.aload_n 0, 1) := by decide +kernel
theorem dX3_leastHome_38 : decode cX3_leastHome 38 = .ok (.getfield 16, 3) := by decide +kernel
theorem dX3_leastHome_41 : decode cX3_leastHome 41 = .ok (.iload 4, 2) := by decide +kernel
theorem dX3_leastHome_43 : decode cX3_leastHome 43 = .ok (.sipush 255, 3) := by decide +kernel
theorem dX3_leastHome_46 : decode cX3_leastHome 46 = .ok (.iload 5, 2) := by decide +kernel
theorem dX3_leastHome_48 : decode cX3_leastHome 48 = .ok (.iconst (-1), 1) := by decide +kernel
theorem dX3_leastHome_49 : decode cX3_leastHome 49 = .ok (.ixor, 1) := by decide +kernel
theorem dX3_leastHome_50 : decode cX3_leastHome 50 = .ok (.iand, 1) := by decide +kernel
theorem dX3_leastHome_51 : decode cX3_leastHome 51 = .ok (.invokevirtual 108, 3) := by decide +kernel
theorem dX3_leastHome_54 : decode cX3_leastHome 54 = .ok (.aload_n 0, 1) := by decide +kernel
theorem dX3_leastHome_55 : decode cX3_leastHome 55 = .ok (.getfield 16, 3) := by decide +kernel
theorem dX3_leastHome_58 : decode cX3_leastHome 58 = .ok (.getfield 56, 3) := by decide +kernel
theorem dX3_leastHome_61 : decode cX3_leastHome 61 = .ok (.iload_n 2, 1) := by decide +kernel
theorem dX3_leastHome_62 : decode cX3_leastHome 62 = .ok (.iaload, 1) := by decide +kernel
theorem dX3_leastHome_63 : decode cX3_leastHome 63 = .ok (.iload_n 3, 1) := by decide +kernel
theorem dX3_leastHome_64 : decode cX3_leastHome 64 = .ok (.if_icmp .gt 6, 3) := by decide +kernel
theorem dX3_leastHome_67 : decode cX3_leastHome 67 = .ok (.iload 5, 2) := by decide +kernel
theorem dX3_leastHome_69 : decode cX3_leastHome 69 = .ok (.ireturn, 1) := by decide +kernel
theorem dX3_leastHome_70 : decode cX3_leastHome 70 = .ok (.iinc 5 1, 3) := by decide +kernel
theorem dX3_leastHome_73 : decode cX3_leastHome 73 = .ok (.goto (-70), 3) := by decide +kernel
theorem dX3_leastHome_76 : decode cX3_leastHome 76 = .ok (.iconst (-1), 1) := by decide +kernel
theorem dX3_leastHome_77 : decode cX3_leastHome 77 = .ok (.ireturn, 1) := by decide +kernel
theorem dX3_feelsAsTold_0 : decode cX3_feelsAsTold 0 = .ok (.iconst 0, 1) := by decide +kernel
theorem dX3_feelsAsTold_1 : decode cX3_feelsAsTold 1 = .ok (.istore_n 3, 1) := by decide +kernel
theorem dX3_feelsAsTold_2 : decode cX3_feelsAsTold 2 = .ok (.iload_n 3, 1) := by decide +kernel
theorem dX3_feelsAsTold_3 : decode cX3_feelsAsTold 3 = .ok (.aload_n 1, 1) := by decide +kernel
theorem dX3_feelsAsTold_4 : decode cX3_feelsAsTold 4 = .ok (.getfield 203, 3) := by decide +kernel
theorem dX3_feelsAsTold_7 : decode cX3_feelsAsTold 7 = .ok (.if_icmp .ge 56, 3) := by decide +kernel
theorem dX3_feelsAsTold_10 : decode cX3_feelsAsTold 10 = .ok (.iload_n 3, 1) := by decide +kernel
theorem dX3_feelsAsTold_11 : decode cX3_feelsAsTold 11 = .ok (.ifCond .le 14, 3) := by decide +kernel
theorem dX3_feelsAsTold_14 : decode cX3_feelsAsTold 14 = .ok (.aload_n 0, 1) := by decide +kernel
theorem dX3_feelsAsTold_15 : decode cX3_feelsAsTold 15 = .ok (.getfield 16, 3) := by decide +kernel
theorem dX3_feelsAsTold_18 : decode cX3_feelsAsTold 18 = .ok (.iconst 1, 1) := by decide +kernel
theorem dX3_feelsAsTold_19 : decode cX3_feelsAsTold 19 = .ok (.sipush 255, 3) := by decide +kernel
theorem dX3_feelsAsTold_22 : decode cX3_feelsAsTold 22 = .ok (.invokevirtual 108, 3) := by decide +kernel
theorem dX3_feelsAsTold_25 : decode cX3_feelsAsTold 25 = .ok (.aload_n 1, 1) := by decide +kernel
theorem dX3_feelsAsTold_26 : decode cX3_feelsAsTold 26 = .ok (.getfield 216, 3) := by decide +kernel
theorem dX3_feelsAsTold_29 : decode cX3_feelsAsTold 29 = .ok (.iload_n 3, 1) := by decide +kernel
theorem dX3_feelsAsTold_30 : decode cX3_feelsAsTold 30 = .ok (.iaload, 1) := by decide +kernel
theorem dX3_feelsAsTold_31 : decode cX3_feelsAsTold 31 = .ok (.istore 4, 2) := by decide +kernel
theorem dX3_feelsAsTold_33 : decode cX3_feelsAsTold 33 = .ok (.iload 4, 2) := by decide +kernel
theorem dX3_feelsAsTold_35 : decode cX3_feelsAsTold 35 = .ok (.iconst (-1), 1) := by decide +kernel
theorem dX3_feelsAsTold_36 : decode cX3_feelsAsTold 36 = .ok (.if_icmp .eq 21, 3) := by decide +kernel
theorem dX3_feelsAsTold_39 : decode cX3_feelsAsTold 39 = .ok (.iload 4, 2) := by decide +kernel
theorem dX3_feelsAsTold_41 : decode cX3_feelsAsTold 41 = .ok (.aload_n 0, 1) := by decide +kernel
theorem dX3_feelsAsTold_42 : decode cX3_feelsAsTold 42 = .ok (.getfield 16, 3) := by decide +kernel
theorem dX3_feelsAsTold_45 : decode cX3_feelsAsTold 45 = .ok (.getfield 91, 3) := by decide +kernel
theorem dX3_feelsAsTold_48 : decode cX3_feelsAsTold 48 = .ok (.iconst 3, 1) := by decide +kernel
theorem dX3_feelsAsTold_49 : decode cX3_feelsAsTold 49 = .ok (.aaload, 1) := by decide +kernel
theorem dX3_feelsAsTold_50 : decode cX3_feelsAsTold 50 = .ok (.iload_n 2, 1) := by decide +kernel
theorem dX3_feelsAsTold_51 : decode cX3_feelsAsTold 51 = .ok (.iaload, 1) := by decide +kernel
theorem dX3_feelsAsTold_52 : decode cX3_feelsAsTold 52 = .ok (.if_icmp .eq 5, 3) := by decide +kernel
theorem dX3_feelsAsTold_55 : decode cX3_feelsAsTold 55 = .ok (.iconst 0, 1) := by decide +kernel
theorem dX3_feelsAsTold_56 : decode cX3_feelsAsTold 56 = .ok (.ireturn, 1) := by decide +kernel
theorem dX3_feelsAsTold_57 : decode cX3_feelsAsTold 57 = .ok (.iinc 3 1, 3) := by decide +kernel
theorem dX3_feelsAsTold_60 : decode cX3_feelsAsTold 60 = .ok (.goto (-58), 3) := by decide +kernel
theorem dX3_feelsAsTold_63 : decode cX3_feelsAsTold 63 = .ok (.iconst 1, 1) := by decide +kernel
theorem dX3_feelsAsTold_64 : decode cX3_feelsAsTold 64 = .ok (.ireturn, 1) := by decide +kernel
theorem dX3_power_0 : decode cX3_power 0 = .ok (.lconst 1, 1) := by decide +kernel
theorem dX3_power_1 : decode cX3_power 1 = .ok (.lstore_n 2, 1) := by decide +kernel
theorem dX3_power_2 : decode cX3_power 2 = .ok (.iconst 0, 1) := by decide +kernel
theorem dX3_power_3 : decode cX3_power 3 = .ok (.istore 4, 2) := by decide +kernel
theorem dX3_power_5 : decode cX3_power 5 = .ok (.iload 4, 2) := by decide +kernel
theorem dX3_power_7 : decode cX3_power 7 = .ok (.iload_n 1, 1) := by decide +kernel
theorem dX3_power_8 : decode cX3_power 8 = .ok (.if_icmp .ge 14, 3) := by decide +kernel
theorem dX3_power_11 : decode cX3_power 11 = .ok (.lload_n 2, 1) := by decide +kernel
theorem dX3_power_12 : decode cX3_power 12 = .ok (.iload_n 0, 1) := by decide +kernel
theorem dX3_power_13 : decode cX3_power 13 = .ok (.i2l, 1) := by decide +kernel
theorem dX3_power_14 : decode cX3_power 14 = .ok (.lmul, 1) := by decide +kernel
theorem dX3_power_15 : decode cX3_power 15 = .ok (.lstore_n 2, 1) := by decide +kernel
theorem dX3_power_16 : decode cX3_power 16 = .ok (.iinc 4 1, 3) := by decide +kernel
theorem dX3_power_19 : decode cX3_power 19 = .ok (.goto (-14), 3) := by decide +kernel
theorem dX3_power_22 : decode cX3_power 22 = .ok (.lload_n 2, 1) := by decide +kernel
theorem dX3_power_23 : decode cX3_power 23 = .ok (.lreturn, 1) := by decide +kernel
