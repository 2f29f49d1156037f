theorem dX1_init_0 : decode cX1_init 0 = .ok (.aload_n 0, 1) := by decide +kernel
theorem dX1_init_1 : decode cX1_init 1 = .ok (.invokespecial 3, 3) := by decide +kernel
theorem dX1_init_4 : decode cX1_init 4 = .ok (.aload_n 0, 1) := by decide +kernel
theorem dX1_init_5 : decode cX1_init 5 = .ok (.bipush 10, 2) := by decide +kernel
theorem dX1_init_7 : decode cX1_init 7 = .ok (.newarray .int, 2) := by decide +kernel
theorem dX1_init_9 : decode cX1_init 9 = .ok (.putfield 9, 3) := by decide +kernel
theorem dX1_init_12 : decode cX1_init 12 = .ok (.aload_n 0, 1) := by decide +kernel
theorem dX1_init_13 : decode cX1_init 13 = .ok (.bipush 10, 2) := by decide +kernel
theorem dX1_init_15 : decode cX1_init 15 = .ok (.newarray .int, 2) := by decide +kernel
theorem dX1_init_17 : decode cX1_init 17 = .ok (.putfield 15, 3) := by decide +kernel
theorem dX1_init_20 : decode cX1_init 20 = .ok (.aload_n 0, 1) := by decide +kernel
theorem dX1_init_21 : decode cX1_init 21 = .ok (.sipush 1024, 3) := by decide +kernel
theorem dX1_init_24 : decode cX1_init 24 = .ok (.newarray .int, 2) := by decide +kernel
theorem dX1_init_26 : decode cX1_init 26 = .ok (.putfield 18, 3) := by decide +kernel
theorem dX1_init_29 : decode cX1_init 29 = .ok (.return_, 1) := by decide +kernel
theorem dX1_choose_0 : decode cX1_choose 0 = .ok (.aload_n 0, 1) := by decide +kernel
theorem dX1_choose_1 : decode cX1_choose 1 = .ok (.aload_n 1, 1) := by decide +kernel
theorem dX1_choose_2 : decode cX1_choose 2 = .ok (.invokevirtual 21, 3) := by decide +kernel
theorem dX1_choose_5 : decode cX1_choose 5 = .ok (.aload_n 0, 1) := by decide +kernel
theorem dX1_choose_6 : decode cX1_choose 6 = .ok (.iconst 0, 1) := by decide +kernel
theorem dX1_choose_7 : decode cX1_choose 7 = .ok (.putfield 25, 3) := by decide +kernel
theorem dX1_choose_10 : decode cX1_choose 10 = .ok (.aload_n 0, 1) := by decide +kernel
theorem dX1_choose_11 : decode cX1_choose 11 = .ok (.iconst 0, 1) := by decide +kernel
theorem dX1_choose_12 : decode cX1_choose 12 = .ok (.putfield 29, 3) := by decide +kernel
theorem dX1_choose_15 : decode cX1_choose 15 = .ok (.aload_n 0, 1) := by decide +kernel
theorem dX1_choose_16 : decode cX1_choose 16 = .ok (.getfield 18, 3) := by decide +kernel
theorem dX1_choose_19 : decode cX1_choose 19 = .ok (.iconst 0, 1) := by decide +kernel
theorem dX1_choose_20 : decode cX1_choose 20 = .ok (.sipush 256, 3) := by decide +kernel
theorem dX1_choose_23 : decode cX1_choose 23 = .ok (.iastore, 1) := by decide +kernel
theorem dX1_choose_24 : decode cX1_choose 24 = .ok (.iconst 1, 1) := by decide +kernel
theorem dX1_choose_25 : decode cX1_choose 25 = .ok (.istore 4, 2) := by decide +kernel
theorem dX1_choose_27 : decode cX1_choose 27 = .ok (.iload 4, 2) := by decide +kernel
theorem dX1_choose_29 : decode cX1_choose 29 = .ok (.iconst 1, 1) := by decide +kernel
theorem dX1_choose_30 : decode cX1_choose 30 = .ok (.aload_n 0, 1) := by decide +kernel
theorem dX1_choose_31 : decode cX1_choose 31 = .ok (.getfield 32, 3) := by decide +kernel
theorem dX1_choose_34 : decode cX1_choose 34 = .ok (.ishl, 1) := by decide +kernel
theorem dX1_choose_35 : decode cX1_choose 35 = .ok (.if_icmp .ge 43, 3) := by decide +kernel
theorem dX1_choose_38 : decode cX1_choose 38 = .ok (.aload_n 0, 1) := by decide +kernel
theorem dX1_choose_39 : decode cX1_choose 39 = .ok (.getfield 18, 3) := by decide +kernel
theorem dX1_choose_42 : decode cX1_choose 42 = .ok (.iload 4, 2) := by decide +kernel
theorem dX1_choose_44 : decode cX1_choose 44 = .ok (.aload_n 0, 1) := by decide +kernel
theorem dX1_choose_45 : decode cX1_choose 45 = .ok (.iload 4, 2) := by decide +kernel
theorem dX1_choose_47 : decode cX1_choose 47 = .ok (.iload_n 3, 1) := by decide +kernel
theorem dX1_choose_48 : decode cX1_choose 48 = .ok (.invokevirtual 35, 3) := by decide +kernel
theorem dX1_choose_51 : decode cX1_choose 51 = .ok (.iastore, 1) := by decide +kernel
theorem dX1_choose_52 : decode cX1_choose 52 = .ok (.aload_n 0, 1) := by decide +kernel
theorem dX1_choose_53 : decode cX1_choose 53 = .ok (.getfield 18, 3) := by decide +kernel
theorem dX1_choose_56 : decode cX1_choose 56 = .ok (.iload 4, 2) := by decide +kernel
theorem dX1_choose_58 : decode cX1_choose 58 = .ok (.iaload, 1) := by decide +kernel
theorem dX1_choose_59 : decode cX1_choose 59 = .ok (.bipush 8, 2) := by decide +kernel
theorem dX1_choose_61 : decode cX1_choose 61 = .ok (.ishr, 1) := by decide +kernel
theorem dX1_choose_62 : decode cX1_choose 62 = .ok (.iload_n 2, 1) := by decide +kernel
theorem dX1_choose_63 : decode cX1_choose 63 = .ok (.if_icmp .gt 9, 3) := by decide +kernel
theorem dX1_choose_66 : decode cX1_choose 66 = .ok (.aload_n 0, 1) := by decide +kernel
theorem dX1_choose_67 : decode cX1_choose 67 = .ok (.iload 4, 2) := by decide +kernel
theorem dX1_choose_69 : decode cX1_choose 69 = .ok (.invokevirtual 39, 3) := by decide +kernel
theorem dX1_choose_72 : decode cX1_choose 72 = .ok (.iinc 4 1, 3) := by decide +kernel
theorem dX1_choose_75 : decode cX1_choose 75 = .ok (.goto (-48), 3) := by decide +kernel
theorem dX1_choose_78 : decode cX1_choose 78 = .ok (.return_, 1) := by decide +kernel
theorem dX1_weigh_0 : decode cX1_weigh 0 = .ok (.aload_n 0, 1) := by decide +kernel
theorem dX1_weigh_1 : decode cX1_weigh 1 = .ok (.aload_n 1, 1) := by decide +kernel
theorem dX1_weigh_2 : decode cX1_weigh 2 = .ok (.getfield 43, 3) := by decide +kernel
theorem dX1_weigh_5 : decode cX1_weigh 5 = .ok (.bipush 10, 2) := by decide +kernel
theorem dX1_weigh_7 : decode cX1_weigh 7 = .ok (.invokestatic 46, 3) := by decide +kernel
theorem dX1_weigh_10 : decode cX1_weigh 10 = .ok (.putfield 32, 3) := by decide +kernel
theorem dX1_weigh_13 : decode cX1_weigh 13 = .ok (.iconst 0, 1) := by decide +kernel
theorem dX1_weigh_14 : decode cX1_weigh 14 = .ok (.istore_n 2, 1) := by decide +kernel
theorem dX1_weigh_15 : decode cX1_weigh 15 = .ok (.iload_n 2, 1) := by decide +kernel
theorem dX1_weigh_16 : decode cX1_weigh 16 = .ok (.aload_n 0, 1) := by decide +kernel
theorem dX1_weigh_17 : decode cX1_weigh 17 = .ok (.getfield 32, 3) := by decide +kernel
theorem dX1_weigh_20 : decode cX1_weigh 20 = .ok (.if_icmp .ge 49, 3) := by decide +kernel
theorem dX1_weigh_23 : decode cX1_weigh 23 = .ok (.aload_n 0, 1) := by decide +kernel
theorem dX1_weigh_24 : decode cX1_weigh 24 = .ok (.getfield 9, 3) := by decide +kernel
theorem dX1_weigh_27 : decode cX1_weigh 27 = .ok (.iload_n 2, 1) := by decide +kernel
theorem dX1_weigh_28 : decode cX1_weigh 28 = .ok (.aload_n 1, 1) := by decide +kernel
theorem dX1_weigh_29 : decode cX1_weigh 29 = .ok (.getfield 51, 3) := by decide +kernel
theorem dX1_weigh_32 : decode cX1_weigh 32 = .ok (.iload_n 2, 1) := by decide +kernel
theorem dX1_weigh_33 : decode cX1_weigh 33 = .ok (.aaload, 1) := by decide +kernel
theorem dX1_weigh_34 : decode cX1_weigh 34 = .ok (.invokevirtual 55, 3) := by decide +kernel
theorem dX1_weigh_37 : decode cX1_weigh 37 = .ok (.ifCond .eq 11, 3) := by decide +kernel
theorem dX1_weigh_40 : decode cX1_weigh 40 = .ok (.aload_n 1, 1) := by decide +kernel
theorem dX1_weigh_41 : decode cX1_weigh 41 = .ok (.iload_n 2, 1) := by decide +kernel
theorem dX1_weigh_42 : decode cX1_weigh 42 = .ok (.invokevirtual 61, 3) := by decide +kernel
theorem dX1_weigh_45 : decode cX1_weigh 45 = .ok (.goto 6, 3) := by decide +kernel
theorem dX1_weigh_48 : decode cX1_weigh 48 = .ok (.sipush 201, 3) := by decide +kernel
theorem dX1_weigh_51 : decode cX1_weigh 51 = .ok (.iastore, 1) := by decide +kernel
theorem dX1_weigh_52 : decode cX1_weigh 52 = .ok (.aload_n 0, 1) := by decide +kernel
theorem dX1_weigh_53 : decode cX1_weigh 53 = .ok (.getfield 15, 3) := by decide +kernel
theorem dX1_weigh_56 : decode cX1_weigh 56 = .ok (.iload_n 2, 1) := by decide +kernel
theorem dX1_weigh_57 : decode cX1_weigh 57 = .ok (.aload_n 1, 1) := by decide +kernel
theorem dX1_weigh_58 : decode cX1_weigh 58 = .ok (.iload_n 2, 1) := by decide +kernel
theorem dX1_weigh_59 : decode cX1_weigh 59 = .ok (.invokevirtual 65, 3) := by decide +kernel
theorem dX1_weigh_62 : decode cX1_weigh 62 = .ok (.iastore, 1) := by decide +kernel
theorem dX1_weigh_63 : decode cX1_weigh 63 = .ok (.iinc 2 1, 3) := by decide +kernel
theorem dX1_weigh_66 : decode cX1_weigh 66 = .ok (.goto (-51), 3) := by decide +kernel
theorem dX1_weigh_69 : decode cX1_weigh 69 = .ok (.return_, 1) := by decide +kernel
theorem dX1_pack_0 : decode cX1_pack 0 = .ok (.ldc 68, 2) := by decide +kernel
theorem dX1_pack_2 : decode cX1_pack 2 = .ok (.istore_n 3, 1) := by decide +kernel
theorem dX1_pack_3 : decode cX1_pack 3 = .ok (.iconst 0, 1) := by decide +kernel
theorem dX1_pack_4 : decode cX1_pack 4 = .ok (.istore 4, 2) := by decide +kernel
theorem dX1_pack_6 : decode cX1_pack 6 = .ok (.iload 4, 2) := by decide +kernel
theorem dX1_pack_8 : decode cX1_pack 8 = .ok (.aload_n 0, 1) := by decide +kernel
theorem dX1_pack_9 : decode cX1_pack 9 = .ok (.getfield 32, 3) := by decide +kernel
theorem dX1_pack_12 : decode cX1_pack 12 = .ok (.if_icmp .ge 45, 3) := by decide +kernel
theorem dX1_pack_15 : decode cX1_pack 15 = .ok (.iload_n 1, 1) := by decide +kernel
theorem dX1_pack_16 : decode cX1_pack 16 = .ok (.iload 4, 2) := by decide +kernel
theorem dX1_pack_18 : decode cX1_pack 18 = .ok (.ishr, 1) := by decide +kernel
theorem dX1_pack_19 : decode cX1_pack 19 = .ok (.iconst 1, 1) := by decide +kernel
theorem dX1_pack_20 : decode cX1_pack 20 = .ok (.iand, 1) := by decide +kernel
theorem dX1_pack_21 : decode cX1_pack 21 = .ok (.ifCond .eq 30, 3) := by decide +kernel
theorem dX1_pack_24 : decode cX1_pack 24 = .ok (.iload_n 3, 1) := by decide +kernel
theorem dX1_pack_25 : decode cX1_pack 25 = .ok (.aload_n 0, 1) := by decide +kernel
theorem dX1_pack_26 : decode cX1_pack 26 = .ok (.getfield 18, 3) := by decide +kernel
theorem dX1_pack_29 : decode cX1_pack 29 = .ok (.iload_n 1, 1) := by decide +kernel
theorem dX1_pack_30 : decode cX1_pack 30 = .ok (.iconst 1, 1) := by decide +kernel
theorem dX1_pack_31 : decode cX1_pack 31 = .ok (.iload 4, 2) := by decide +kernel
theorem dX1_pack_33 : decode cX1_pack 33 = .ok (.ishl, 1) := by decide +kernel
theorem dX1_pack_34 : decode cX1_pack 34 = .ok (.ixor, 1) := by decide +kernel
theorem dX1_pack_35 : decode cX1_pack 35 = .ok (.iaload, 1) := by decide +kernel
theorem dX1_pack_36 : decode cX1_pack 36 = .ok (.aload_n 0, 1) := by decide +kernel
theorem dX1_pack_37 : decode cX1_pack 37 = .ok (.getfield 9, 3) := by decide +kernel
theorem dX1_pack_40 : decode cX1_pack 40 = .ok (.iload 4, 2) := by decide +kernel
theorem dX1_pack_42 : decode cX1_pack 42 = .ok (.iaload, 1) := by decide +kernel
theorem dX1_pack_43 : decode cX1_pack 43 = .ok (.iload_n 2, 1) := by decide +kernel
theorem dX1_pack_44 : decode cX1_pack 44 = .ok (.invokestatic 69, 3) := by decide +kernel
theorem dX1_pack_47 : decode cX1_pack 47 = .ok (.invokestatic 46, 3) := by decide +kernel
theorem dX1_pack_50 : decode cX1_pack 50 = .ok (.istore_n 3, 1) := by decide +kernel
theorem dX1_pack_51 : decode cX1_pack 51 = .ok (.iinc 4 1, 3) := by decide +kernel
theorem dX1_pack_54 : decode cX1_pack 54 = .ok (.goto (-48), 3) := by decide +kernel
theorem dX1_pack_57 : decode cX1_pack 57 = .ok (.iload_n 3, 1) := by decide +kernel
theorem dX1_pack_58 : decode cX1_pack 58 = .ok (.ireturn, 1) := by decide +kernel
theorem dX1_layOn_0 : decode cX1_layOn 0 = .ok (.iload_n 0, 1) := by decide +kernel
theorem dX1_layOn_1 : decode cX1_layOn 1 = .ok (.ldc 68, 2) := by decide +kernel
theorem dX1_layOn_3 : decode cX1_layOn 3 = .ok (.if_icmp .eq 8, 3) := by decide +kernel
theorem dX1_layOn_6 : decode cX1_layOn 6 = .ok (.iload_n 1, 1) := by decide +kernel
theorem dX1_layOn_7 : decode cX1_layOn 7 = .ok (.iload_n 2, 1) := by decide +kernel
theorem dX1_layOn_8 : decode cX1_layOn 8 = .ok (.if_icmp .le 6, 3) := by decide +kernel
theorem dX1_layOn_11 : decode cX1_layOn 11 = .ok (.ldc 68, 2) := by decide +kernel
theorem dX1_layOn_13 : decode cX1_layOn 13 = .ok (.ireturn, 1) := by decide +kernel
theorem dX1_layOn_14 : decode cX1_layOn 14 = .ok (.iload_n 0, 1) := by decide +kernel
theorem dX1_layOn_15 : decode cX1_layOn 15 = .ok (.sipush 255, 3) := by decide +kernel
theorem dX1_layOn_18 : decode cX1_layOn 18 = .ok (.iand, 1) := by decide +kernel
theorem dX1_layOn_19 : decode cX1_layOn 19 = .ok (.iload_n 1, 1) := by decide +kernel
theorem dX1_layOn_20 : decode cX1_layOn 20 = .ok (.iadd, 1) := by decide +kernel
theorem dX1_layOn_21 : decode cX1_layOn 21 = .ok (.iload_n 2, 1) := by decide +kernel
theorem dX1_layOn_22 : decode cX1_layOn 22 = .ok (.if_icmp .gt 7, 3) := by decide +kernel
theorem dX1_layOn_25 : decode cX1_layOn 25 = .ok (.iload_n 0, 1) := by decide +kernel
theorem dX1_layOn_26 : decode cX1_layOn 26 = .ok (.iload_n 1, 1) := by decide +kernel
theorem dX1_layOn_27 : decode cX1_layOn 27 = .ok (.iadd, 1) := by decide +kernel
theorem dX1_layOn_28 : decode cX1_layOn 28 = .ok (.ireturn, 1) := by decide +kernel
theorem dX1_layOn_29 : decode cX1_layOn 29 = .ok (.iload_n 0, 1) := by decide +kernel
theorem dX1_layOn_30 : decode cX1_layOn 30 = .ok (.bipush 8, 2) := by decide +kernel
theorem dX1_layOn_32 : decode cX1_layOn 32 = .ok (.ishr, 1) := by decide +kernel
theorem dX1_layOn_33 : decode cX1_layOn 33 = .ok (.iconst 1, 1) := by decide +kernel
theorem dX1_layOn_34 : decode cX1_layOn 34 = .ok (.iadd, 1) := by decide +kernel
theorem dX1_layOn_35 : decode cX1_layOn 35 = .ok (.bipush 8, 2) := by decide +kernel
theorem dX1_layOn_37 : decode cX1_layOn 37 = .ok (.ishl, 1) := by decide +kernel
theorem dX1_layOn_38 : decode cX1_layOn 38 = .ok (.iload_n 1, 1) := by decide +kernel
theorem dX1_layOn_39 : decode cX1_layOn 39 = .ok (.iadd, 1) := by decide +kernel
theorem dX1_layOn_40 : decode cX1_layOn 40 = .ok (.ireturn, 1) := by decide +kernel
theorem dX1_keepBetter_0 : decode cX1_keepBetter 0 = .ok (.iconst 0, 1) := by decide +kernel
theorem dX1_keepBetter_1 : decode cX1_keepBetter 1 = .ok (.istore_n 2, 1) := by decide +kernel
theorem dX1_keepBetter_2 : decode cX1_keepBetter 2 = .ok (.iconst 0, 1) := by decide +kernel
theorem dX1_keepBetter_3 : decode cX1_keepBetter 3 = .ok (.istore_n 3, 1) := by decide +kernel
theorem dX1_keepBetter_4 : decode cX1_keepBetter 4 = .ok (.iload_n 3, 1) := by decide +kernel
theorem dX1_keepBetter_5 : decode cX1_keepBetter 5 = .ok (.aload_n 0, 1) := by decide +kernel
theorem dX1_keepBetter_6 : decode cX1_keepBetter 6 = .ok (.getfield 32, 3) := by decide +kernel
theorem dX1_keepBetter_9 : decode cX1_keepBetter 9 = .ok (.if_icmp .ge 26, 3) := by decide +kernel
theorem dX1_keepBetter_12 : decode cX1_keepBetter 12 = .ok (.iload_n 1, 1) := by decide +kernel
theorem dX1_keepBetter_13 : decode cX1_keepBetter 13 = .ok (.iload_n 3, 1) := by decide +kernel
theorem dX1_keepBetter_14 : decode cX1_keepBetter 14 = .ok (.ishr, 1) := by decide +kernel
theorem dX1_keepBetter_15 : decode cX1_keepBetter 15 = .ok (.iconst 1, 1) := by decide +kernel
theorem dX1_keepBetter_16 : decode cX1_keepBetter 16 = .ok (.iand, 1) := by decide +kernel
theorem dX1_keepBetter_17 : decode cX1_keepBetter 17 = .ok (.ifCond .eq 12, 3) := by decide +kernel
theorem dX1_keepBetter_20 : decode cX1_keepBetter 20 = .ok (.iload_n 2, 1) := by decide +kernel
theorem dX1_keepBetter_21 : decode cX1_keepBetter 21 = .ok (.aload_n 0, 1) := by decide +kernel
theorem dX1_keepBetter_22 : decode cX1_keepBetter 22 = .ok (.getfield 15, 3) := by decide +kernel
theorem dX1_keepBetter_25 : decode cX1_keepBetter 25 = .ok (.iload_n 3, 1) := by decide +kernel
theorem dX1_keepBetter_26 : decode cX1_keepBetter 26 = .ok (.iaload, 1) := by decide +kernel
theorem dX1_keepBetter_27 : decode cX1_keepBetter 27 = .ok (.iadd, 1) := by decide +kernel
theorem dX1_keepBetter_28 : decode cX1_keepBetter 28 = .ok (.istore_n 2, 1) := by decide +kernel
theorem dX1_keepBetter_29 : decode cX1_keepBetter 29 = .ok (.iinc 3 1, 3) := by decide +kernel
theorem dX1_keepBetter_32 : decode cX1_keepBetter 32 = .ok (.goto (-28), 3) := by decide +kernel
theorem dX1_keepBetter_35 : decode cX1_keepBetter 35 = .ok (.iload_n 1, 1) := by decide +kernel
theorem dX1_keepBetter_36 : decode cX1_keepBetter 36 = .ok (.invokestatic 73, 3) := by decide +kernel
theorem dX1_keepBetter_39 : decode cX1_keepBetter 39 = .ok (.aload_n 0, 1) := by decide +kernel
theorem dX1_keepBetter_40 : decode cX1_keepBetter 40 = .ok (.getfield 29, 3) := by decide +kernel
theorem dX1_keepBetter_43 : decode cX1_keepBetter 43 = .ok (.invokestatic 73, 3) := by decide +kernel
theorem dX1_keepBetter_46 : decode cX1_keepBetter 46 = .ok (.if_icmp .ge 7, 3) := by decide +kernel
theorem dX1_keepBetter_49 : decode cX1_keepBetter 49 = .ok (.iconst 1, 1) := by decide +kernel
theorem dX1_keepBetter_50 : decode cX1_keepBetter 50 = .ok (.goto 4, 3) := by decide +kernel
theorem dX1_keepBetter_53 : decode cX1_keepBetter 53 = .ok (.iconst 0, 1) := by decide +kernel
theorem dX1_keepBetter_54 : decode cX1_keepBetter 54 = .ok (.istore_n 3, 1) := by decide +kernel
theorem dX1_keepBetter_55 : decode cX1_keepBetter 55 = .ok (.iload_n 2, 1) := by decide +kernel
theorem dX1_keepBetter_56 : decode cX1_keepBetter 56 = .ok (.aload_n 0, 1) := by decide +kernel
theorem dX1_keepBetter_57 : decode cX1_keepBetter 57 = .ok (.getfield 25, 3) := by decide +kernel
theorem dX1_keepBetter_60 : decode cX1_keepBetter 60 = .ok (.if_icmp .gt 15, 3) := by decide +kernel
theorem dX1_keepBetter_63 : decode cX1_keepBetter 63 = .ok (.iload_n 2, 1) := by decide +kernel
theorem dX1_keepBetter_64 : decode cX1_keepBetter 64 = .ok (.aload_n 0, 1) := by decide +kernel
theorem dX1_keepBetter_65 : decode cX1_keepBetter 65 = .ok (.getfield 25, 3) := by decide +kernel
theorem dX1_keepBetter_68 : decode cX1_keepBetter 68 = .ok (.if_icmp .ne 17, 3) := by decide +kernel
theorem dX1_keepBetter_71 : decode cX1_keepBetter 71 = .ok (.iload_n 3, 1) := by decide +kernel
theorem dX1_keepBetter_72 : decode cX1_keepBetter 72 = .ok (.ifCond .eq 13, 3) := by decide +kernel
theorem dX1_keepBetter_75 : decode cX1_keepBetter 75 = .ok (.aload_n 0, 1) := by decide +kernel
theorem dX1_keepBetter_76 : decode cX1_keepBetter 76 = .ok (.iload_n 2, 1) := by decide +kernel
theorem dX1_keepBetter_77 : decode cX1_keepBetter 77 = .ok (.putfield 25, 3) := by decide +kernel
theorem dX1_keepBetter_80 : decode cX1_keepBetter 80 = .ok (.aload_n 0, 1) := by decide +kernel
theorem dX1_keepBetter_81 : decode cX1_keepBetter 81 = .ok (.iload_n 1, 1) := by decide +kernel
theorem dX1_keepBetter_82 : decode cX1_keepBetter 82 = .ok (.putfield 29, 3) := by decide +kernel
theorem dX1_keepBetter_85 : decode cX1_keepBetter 85 = .ok (.return_, 1) := by decide +kernel
