theorem dX3_init_0 : decode cX3_init 0 = .ok (.aload_n 0, 1) := by decide +kernel
theorem dX3_init_1 : decode cX3_init 1 = .ok (.invokespecial 3, 3) := by decide +kernel
theorem dX3_init_4 : decode cX3_init 4 = .ok (.aload_n 0, 1) := by decide +kernel
theorem dX3_init_5 : decode cX3_init 5 = .ok (.bipush 6, 2) := by decide +kernel
theorem dX3_init_7 : decode cX3_init 7 = .ok (.newarray .int, 2) := by decide +kernel
theorem dX3_init_9 : decode cX3_init 9 = .ok (.putfield 9, 3) := by decide +kernel
theorem dX3_init_12 : decode cX3_init 12 = .ok (.aload_n 0, 1) := by decide +kernel
theorem dX3_init_13 : decode cX3_init 13 = .ok (.bipush 64, 2) := by decide +kernel
theorem dX3_init_15 : decode cX3_init 15 = .ok (.newarray .int, 2) := by decide +kernel
theorem dX3_init_17 : decode cX3_init 17 = .ok (.putfield 15, 3) := by decide +kernel
theorem dX3_init_20 : decode cX3_init 20 = .ok (.aload_n 0, 1) := by decide +kernel
theorem dX3_init_21 : decode cX3_init 21 = .ok (.bipush 64, 2) := by decide +kernel
theorem dX3_init_23 : decode cX3_init 23 = .ok (.newarray .int, 2) := by decide +kernel
theorem dX3_init_25 : decode cX3_init 25 = .ok (.putfield 18, 3) := by decide +kernel
theorem dX3_init_28 : decode cX3_init 28 = .ok (.return_, 1) := by decide +kernel
theorem dX3_mostGroups_0 : decode cX3_mostGroups 0 = .ok (.iconst 0, 1) := by decide +kernel
theorem dX3_mostGroups_1 : decode cX3_mostGroups 1 = .ok (.istore_n 2, 1) := by decide +kernel
theorem dX3_mostGroups_2 : decode cX3_mostGroups 2 = .ok (.iload_n 2, 1) := by decide +kernel
theorem dX3_mostGroups_3 : decode cX3_mostGroups 3 = .ok (.bipush 6, 2) := by decide +kernel
theorem dX3_mostGroups_5 : decode cX3_mostGroups 5 = .ok (.if_icmp .ge 20, 3) := by decide +kernel
theorem dX3_mostGroups_8 : decode cX3_mostGroups 8 = .ok (.aload_n 0, 1) := by decide +kernel
theorem dX3_mostGroups_9 : decode cX3_mostGroups 9 = .ok (.getfield 9, 3) := by decide +kernel
theorem dX3_mostGroups_12 : decode cX3_mostGroups 12 = .ok (.iload_n 2, 1) := by decide +kernel
theorem dX3_mostGroups_13 : decode cX3_mostGroups 13 = .ok (.aload_n 1, 1) := by decide +kernel
theorem dX3_mostGroups_14 : decode cX3_mostGroups 14 = .ok (.iload_n 2, 1) := by decide +kernel
theorem dX3_mostGroups_15 : decode cX3_mostGroups 15 = .ok (.invokevirtual 21, 3) := by decide +kernel
theorem dX3_mostGroups_18 : decode cX3_mostGroups 18 = .ok (.iastore, 1) := by decide +kernel
theorem dX3_mostGroups_19 : decode cX3_mostGroups 19 = .ok (.iinc 2 1, 3) := by decide +kernel
theorem dX3_mostGroups_22 : decode cX3_mostGroups 22 = .ok (.goto (-20), 3) := by decide +kernel
theorem dX3_mostGroups_25 : decode cX3_mostGroups 25 = .ok (.iconst 1, 1) := by decide +kernel
theorem dX3_mostGroups_26 : decode cX3_mostGroups 26 = .ok (.istore_n 2, 1) := by decide +kernel
theorem dX3_mostGroups_27 : decode cX3_mostGroups 27 = .ok (.iload_n 2, 1) := by decide +kernel
theorem dX3_mostGroups_28 : decode cX3_mostGroups 28 = .ok (.aload_n 0, 1) := by decide +kernel
theorem dX3_mostGroups_29 : decode cX3_mostGroups 29 = .ok (.getfield 18, 3) := by decide +kernel
theorem dX3_mostGroups_32 : decode cX3_mostGroups 32 = .ok (.arraylength, 1) := by decide +kernel
theorem dX3_mostGroups_33 : decode cX3_mostGroups 33 = .ok (.if_icmp .ge 14, 3) := by decide +kernel
theorem dX3_mostGroups_36 : decode cX3_mostGroups 36 = .ok (.aload_n 0, 1) := by decide +kernel
theorem dX3_mostGroups_37 : decode cX3_mostGroups 37 = .ok (.iload_n 2, 1) := by decide +kernel
theorem dX3_mostGroups_38 : decode cX3_mostGroups 38 = .ok (.invokevirtual 27, 3) := by decide +kernel
theorem dX3_mostGroups_41 : decode cX3_mostGroups 41 = .ok (.iinc 2 1, 3) := by decide +kernel
theorem dX3_mostGroups_44 : decode cX3_mostGroups 44 = .ok (.goto (-17), 3) := by decide +kernel
theorem dX3_mostGroups_47 : decode cX3_mostGroups 47 = .ok (.aload_n 0, 1) := by decide +kernel
theorem dX3_mostGroups_48 : decode cX3_mostGroups 48 = .ok (.getfield 18, 3) := by decide +kernel
theorem dX3_mostGroups_51 : decode cX3_mostGroups 51 = .ok (.aload_n 0, 1) := by decide +kernel
theorem dX3_mostGroups_52 : decode cX3_mostGroups 52 = .ok (.getfield 18, 3) := by decide +kernel
theorem dX3_mostGroups_55 : decode cX3_mostGroups 55 = .ok (.arraylength, 1) := by decide +kernel
theorem dX3_mostGroups_56 : decode cX3_mostGroups 56 = .ok (.iconst 1, 1) := by decide +kernel
theorem dX3_mostGroups_57 : decode cX3_mostGroups 57 = .ok (.isub, 1) := by decide +kernel
theorem dX3_mostGroups_58 : decode cX3_mostGroups 58 = .ok (.iaload, 1) := by decide +kernel
theorem dX3_mostGroups_59 : decode cX3_mostGroups 59 = .ok (.ireturn, 1) := by decide +kernel
theorem dX3_addSet_0 : decode cX3_addSet 0 = .ok (.iconst 0, 1) := by decide +kernel
theorem dX3_addSet_1 : decode cX3_addSet 1 = .ok (.istore_n 2, 1) := by decide +kernel
theorem dX3_addSet_2 : decode cX3_addSet 2 = .ok (.iconst 0, 1) := by decide +kernel
theorem dX3_addSet_3 : decode cX3_addSet 3 = .ok (.istore_n 3, 1) := by decide +kernel
theorem dX3_addSet_4 : decode cX3_addSet 4 = .ok (.iload_n 3, 1) := by decide +kernel
theorem dX3_addSet_5 : decode cX3_addSet 5 = .ok (.bipush 6, 2) := by decide +kernel
theorem dX3_addSet_7 : decode cX3_addSet 7 = .ok (.if_icmp .ge 56, 3) := by decide +kernel
theorem dX3_addSet_10 : decode cX3_addSet 10 = .ok (.iload_n 1, 1) := by decide +kernel
theorem dX3_addSet_11 : decode cX3_addSet 11 = .ok (.iload_n 3, 1) := by decide +kernel
theorem dX3_addSet_12 : decode cX3_addSet 12 = .ok (.ishr, 1) := by decide +kernel
theorem dX3_addSet_13 : decode cX3_addSet 13 = .ok (.iconst 1, 1) := by decide +kernel
theorem dX3_addSet_14 : decode cX3_addSet 14 = .ok (.iand, 1) := by decide +kernel
theorem dX3_addSet_15 : decode cX3_addSet 15 = .ok (.ifCond .eq 42, 3) := by decide +kernel
theorem dX3_addSet_18 : decode cX3_addSet 18 = .ok (.iload_n 1, 1) := by decide +kernel
theorem dX3_addSet_19 : decode cX3_addSet 19 = .ok (.iconst 1, 1) := by decide +kernel
theorem dX3_addSet_20 : decode cX3_addSet 20 = .ok (.iload_n 3, 1) := by decide +kernel
theorem dX3_addSet_21 : decode cX3_addSet 21 = .ok (.ishl, 1) := by decide +kernel
theorem dX3_addSet_22 : decode cX3_addSet 22 = .ok (.ixor, 1) := by decide +kernel
theorem dX3_addSet_23 : decode cX3_addSet 23 = .ok (.istore 4, 2) := by decide +kernel
theorem dX3_addSet_25 : decode cX3_addSet 25 = .ok (.aload_n 0, 1) := by decide +kernel
theorem dX3_addSet_26 : decode cX3_addSet 26 = .ok (.getfield 15, 3) := by decide +kernel
theorem dX3_addSet_29 : decode cX3_addSet 29 = .ok (.iload_n 1, 1) := by decide +kernel
theorem dX3_addSet_30 : decode cX3_addSet 30 = .ok (.aload_n 0, 1) := by decide +kernel
theorem dX3_addSet_31 : decode cX3_addSet 31 = .ok (.getfield 15, 3) := by decide +kernel
theorem dX3_addSet_34 : decode cX3_addSet 34 = .ok (.iload 4, 2) := by decide +kernel
theorem dX3_addSet_36 : decode cX3_addSet 36 = .ok (.iaload, 1) := by decide +kernel
theorem dX3_addSet_37 : decode cX3_addSet 37 = .ok (.aload_n 0, 1) := by decide +kernel
theorem dX3_addSet_38 : decode cX3_addSet 38 = .ok (.getfield 9, 3) := by decide +kernel
theorem dX3_addSet_41 : decode cX3_addSet 41 = .ok (.iload_n 3, 1) := by decide +kernel
theorem dX3_addSet_42 : decode cX3_addSet 42 = .ok (.iaload, 1) := by decide +kernel
theorem dX3_addSet_43 : decode cX3_addSet 43 = .ok (.iadd, 1) := by decide +kernel
theorem dX3_addSet_44 : decode cX3_addSet 44 = .ok (.iastore, 1) := by decide +kernel
theorem dX3_addSet_45 : decode cX3_addSet 45 = .ok (.iload_n 2, 1) := by decide +kernel
theorem dX3_addSet_46 : decode cX3_addSet 46 = .ok (.aload_n 0, 1) := by decide +kernel
theorem dX3_addSet_47 : decode cX3_addSet 47 = .ok (.getfield 18, 3) := by decide +kernel
theorem dX3_addSet_50 : decode cX3_addSet 50 = .ok (.iload 4, 2) := by decide +kernel
theorem dX3_addSet_52 : decode cX3_addSet 52 = .ok (.iaload, 1) := by decide +kernel
theorem dX3_addSet_53 : decode cX3_addSet 53 = .ok (.invokestatic 31, 3) := by decide +kernel
theorem dX3_addSet_56 : decode cX3_addSet 56 = .ok (.istore_n 2, 1) := by decide +kernel
theorem dX3_addSet_57 : decode cX3_addSet 57 = .ok (.iinc 3 1, 3) := by decide +kernel
theorem dX3_addSet_60 : decode cX3_addSet 60 = .ok (.goto (-56), 3) := by decide +kernel
theorem dX3_addSet_63 : decode cX3_addSet 63 = .ok (.aload_n 0, 1) := by decide +kernel
theorem dX3_addSet_64 : decode cX3_addSet 64 = .ok (.getfield 18, 3) := by decide +kernel
theorem dX3_addSet_67 : decode cX3_addSet 67 = .ok (.iload_n 1, 1) := by decide +kernel
theorem dX3_addSet_68 : decode cX3_addSet 68 = .ok (.aload_n 0, 1) := by decide +kernel
theorem dX3_addSet_69 : decode cX3_addSet 69 = .ok (.getfield 15, 3) := by decide +kernel
theorem dX3_addSet_72 : decode cX3_addSet 72 = .ok (.iload_n 1, 1) := by decide +kernel
theorem dX3_addSet_73 : decode cX3_addSet 73 = .ok (.iaload, 1) := by decide +kernel
theorem dX3_addSet_74 : decode cX3_addSet 74 = .ok (.ifCond .ne 9, 3) := by decide +kernel
theorem dX3_addSet_77 : decode cX3_addSet 77 = .ok (.iload_n 2, 1) := by decide +kernel
theorem dX3_addSet_78 : decode cX3_addSet 78 = .ok (.iconst 1, 1) := by decide +kernel
theorem dX3_addSet_79 : decode cX3_addSet 79 = .ok (.iadd, 1) := by decide +kernel
theorem dX3_addSet_80 : decode cX3_addSet 80 = .ok (.goto 4, 3) := by decide +kernel
theorem dX3_addSet_83 : decode cX3_addSet 83 = .ok (.iload_n 2, 1) := by decide +kernel
theorem dX3_addSet_84 : decode cX3_addSet 84 = .ok (.iastore, 1) := by decide +kernel
theorem dX3_addSet_85 : decode cX3_addSet 85 = .ok (.return_, 1) := by decide +kernel
