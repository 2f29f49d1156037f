theorem dX4_init_0 : decode cX4_init 0 = .ok (.aload_n 0, 1) := by decide +kernel
theorem dX4_init_1 : decode cX4_init 1 = .ok (.invokespecial 3, 3) := by decide +kernel
theorem dX4_init_4 : decode cX4_init 4 = .ok (.aload_n 0, 1) := by decide +kernel
theorem dX4_init_5 : decode cX4_init 5 = .ok (.bipush 16, 2) := by decide +kernel
theorem dX4_init_7 : decode cX4_init 7 = .ok (.newarray .int, 2) := by decide +kernel
theorem dX4_init_9 : decode cX4_init 9 = .ok (.putfield 9, 3) := by decide +kernel
theorem dX4_init_12 : decode cX4_init 12 = .ok (.aload_n 0, 1) := by decide +kernel
theorem dX4_init_13 : decode cX4_init 13 = .ok (.bipush 16, 2) := by decide +kernel
theorem dX4_init_15 : decode cX4_init 15 = .ok (.newarray .int, 2) := by decide +kernel
theorem dX4_init_17 : decode cX4_init 17 = .ok (.putfield 15, 3) := by decide +kernel
theorem dX4_init_20 : decode cX4_init 20 = .ok (.aload_n 0, 1) := by decide +kernel
theorem dX4_init_21 : decode cX4_init 21 = .ok (.bipush 16, 2) := by decide +kernel
theorem dX4_init_23 : decode cX4_init 23 = .ok (.newarray .int, 2) := by decide +kernel
theorem dX4_init_25 : decode cX4_init 25 = .ok (.putfield 18, 3) := by decide +kernel
theorem dX4_init_28 : decode cX4_init 28 = .ok (.aload_n 0, 1) := by decide +kernel
theorem dX4_init_29 : decode cX4_init 29 = .ok (.bipush 16, 2) := by decide +kernel
theorem dX4_init_31 : decode cX4_init 31 = .ok (.newarray .int, 2) := by decide +kernel
theorem dX4_init_33 : decode cX4_init 33 = .ok (.putfield 21, 3) := by decide +kernel
theorem dX4_init_36 : decode cX4_init 36 = .ok (.return_, 1) := by decide +kernel
theorem dX4_roam_0 : decode cX4_roam 0 = .ok (.iconst 0, 1) := by decide +kernel
theorem dX4_roam_1 : decode cX4_roam 1 = .ok (.istore_n 3, 1) := by decide +kernel
theorem dX4_roam_2 : decode cX4_roam 2 = .ok (.iload_n 3, 1) := by decide +kernel
theorem dX4_roam_3 : decode cX4_roam 3 = .ok (.bipush 16, 2) := by decide +kernel
theorem dX4_roam_5 : decode cX4_roam 5 = .ok (.if_icmp .ge 27, 3) := by decide +kernel
theorem dX4_roam_8 : decode cX4_roam 8 = .ok (.aload_n 0, 1) := by decide +kernel
theorem dX4_roam_9 : decode cX4_roam 9 = .ok (.getfield 9, 3) := by decide +kernel
theorem dX4_roam_12 : decode cX4_roam 12 = .ok (.iload_n 3, 1) := by decide +kernel
theorem dX4_roam_13 : decode cX4_roam 13 = .ok (.iconst (-1), 1) := by decide +kernel
theorem dX4_roam_14 : decode cX4_roam 14 = .ok (.iastore, 1) := by decide +kernel
theorem dX4_roam_15 : decode cX4_roam 15 = .ok (.aload_n 0, 1) := by decide +kernel
theorem dX4_roam_16 : decode cX4_roam 16 = .ok (.getfield 18, 3) := by decide +kernel
theorem dX4_roam_19 : decode cX4_roam 19 = .ok (.iload_n 3, 1) := by decide +kernel
theorem dX4_roam_20 : decode cX4_roam 20 = .ok (.aload_n 1, 1) := by decide +kernel
theorem dX4_roam_21 : decode cX4_roam 21 = .ok (.iload_n 3, 1) := by decide +kernel
theorem dX4_roam_22 : decode cX4_roam 22 = .ok (.invokevirtual 24, 3) := by decide +kernel
theorem dX4_roam_25 : decode cX4_roam 25 = .ok (.iastore, 1) := by decide +kernel
theorem dX4_roam_26 : decode cX4_roam 26 = .ok (.iinc 3 1, 3) := by decide +kernel
theorem dX4_roam_29 : decode cX4_roam 29 = .ok (.goto (-27), 3) := by decide +kernel
theorem dX4_roam_32 : decode cX4_roam 32 = .ok (.aload_n 0, 1) := by decide +kernel
theorem dX4_roam_33 : decode cX4_roam 33 = .ok (.iconst 0, 1) := by decide +kernel
theorem dX4_roam_34 : decode cX4_roam 34 = .ok (.putfield 30, 3) := by decide +kernel
theorem dX4_roam_37 : decode cX4_roam 37 = .ok (.aload_n 1, 1) := by decide +kernel
theorem dX4_roam_38 : decode cX4_roam 38 = .ok (.iload_n 2, 1) := by decide +kernel
theorem dX4_roam_39 : decode cX4_roam 39 = .ok (.invokevirtual 34, 3) := by decide +kernel
theorem dX4_roam_42 : decode cX4_roam 42 = .ok (.ifCond .ne 4, 3) := by decide +kernel
theorem dX4_roam_45 : decode cX4_roam 45 = .ok (.return_, 1) := by decide +kernel
theorem dX4_roam_46 : decode cX4_roam 46 = .ok (.aload_n 0, 1) := by decide +kernel
theorem dX4_roam_47 : decode cX4_roam 47 = .ok (.iload_n 2, 1) := by decide +kernel
theorem dX4_roam_48 : decode cX4_roam 48 = .ok (.iconst 0, 1) := by decide +kernel
theorem dX4_roam_49 : decode cX4_roam 49 = .ok (.aload_n 0, 1) := by decide +kernel
theorem dX4_roam_50 : decode cX4_roam 50 = .ok (.getfield 18, 3) := by decide +kernel
theorem dX4_roam_53 : decode cX4_roam 53 = .ok (.iload_n 2, 1) := by decide +kernel
theorem dX4_roam_54 : decode cX4_roam 54 = .ok (.iaload, 1) := by decide +kernel
theorem dX4_roam_55 : decode cX4_roam 55 = .ok (.invokevirtual 38, 3) := by decide +kernel
theorem dX4_roam_58 : decode cX4_roam 58 = .ok (.iconst 0, 1) := by decide +kernel
theorem dX4_roam_59 : decode cX4_roam 59 = .ok (.istore_n 3, 1) := by decide +kernel
theorem dX4_roam_60 : decode cX4_roam 60 = .ok (.iload_n 3, 1) := by decide +kernel
theorem dX4_roam_61 : decode cX4_roam 61 = .ok (.aload_n 0, 1) := by decide +kernel
theorem dX4_roam_62 : decode cX4_roam 62 = .ok (.getfield 30, 3) := by decide +kernel
theorem dX4_roam_65 : decode cX4_roam 65 = .ok (.if_icmp .ge 26, 3) := by decide +kernel
theorem dX4_roam_68 : decode cX4_roam 68 = .ok (.iload_n 3, 1) := by decide +kernel
theorem dX4_roam_69 : decode cX4_roam 69 = .ok (.bipush 16, 2) := by decide +kernel
theorem dX4_roam_71 : decode cX4_roam 71 = .ok (.if_icmp .ge 20, 3) := by decide +kernel
theorem dX4_roam_74 : decode cX4_roam 74 = .ok (.aload_n 0, 1) := by decide +kernel
theorem dX4_roam_75 : decode cX4_roam 75 = .ok (.aload_n 1, 1) := by decide +kernel
theorem dX4_roam_76 : decode cX4_roam 76 = .ok (.aload_n 0, 1) := by decide +kernel
theorem dX4_roam_77 : decode cX4_roam 77 = .ok (.getfield 21, 3) := by decide +kernel
theorem dX4_roam_80 : decode cX4_roam 80 = .ok (.iload_n 3, 1) := by decide +kernel
theorem dX4_roam_81 : decode cX4_roam 81 = .ok (.iaload, 1) := by decide +kernel
theorem dX4_roam_82 : decode cX4_roam 82 = .ok (.invokevirtual 42, 3) := by decide +kernel
theorem dX4_roam_85 : decode cX4_roam 85 = .ok (.iinc 3 1, 3) := by decide +kernel
theorem dX4_roam_88 : decode cX4_roam 88 = .ok (.goto (-28), 3) := by decide +kernel
theorem dX4_roam_91 : decode cX4_roam 91 = .ok (.return_, 1) := by decide +kernel
theorem dX4_leave_0 : decode cX4_leave 0 = .ok (.aload_n 0, 1) := by decide +kernel
theorem dX4_leave_1 : decode cX4_leave 1 = .ok (.aload_n 1, 1) := by decide +kernel
theorem dX4_leave_2 : decode cX4_leave 2 = .ok (.iload_n 2, 1) := by decide +kernel
theorem dX4_leave_3 : decode cX4_leave 3 = .ok (.iload_n 2, 1) := by decide +kernel
theorem dX4_leave_4 : decode cX4_leave 4 = .ok (.aload_n 1, 1) := by decide +kernel
theorem dX4_leave_5 : decode cX4_leave 5 = .ok (.getfield 46, 3) := by decide +kernel
theorem dX4_leave_8 : decode cX4_leave 8 = .ok (.isub, 1) := by decide +kernel
theorem dX4_leave_9 : decode cX4_leave 9 = .ok (.invokevirtual 49, 3) := by decide +kernel
theorem dX4_leave_12 : decode cX4_leave 12 = .ok (.aload_n 1, 1) := by decide +kernel
theorem dX4_leave_13 : decode cX4_leave 13 = .ok (.getfield 46, 3) := by decide +kernel
theorem dX4_leave_16 : decode cX4_leave 16 = .ok (.ifCond .le 23, 3) := by decide +kernel
theorem dX4_leave_19 : decode cX4_leave 19 = .ok (.iload_n 2, 1) := by decide +kernel
theorem dX4_leave_20 : decode cX4_leave 20 = .ok (.iconst 1, 1) := by decide +kernel
theorem dX4_leave_21 : decode cX4_leave 21 = .ok (.iadd, 1) := by decide +kernel
theorem dX4_leave_22 : decode cX4_leave 22 = .ok (.aload_n 1, 1) := by decide +kernel
theorem dX4_leave_23 : decode cX4_leave 23 = .ok (.getfield 46, 3) := by decide +kernel
theorem dX4_leave_26 : decode cX4_leave 26 = .ok (.irem, 1) := by decide +kernel
theorem dX4_leave_27 : decode cX4_leave 27 = .ok (.ifCond .eq 12, 3) := by decide +kernel
theorem dX4_leave_30 : decode cX4_leave 30 = .ok (.aload_n 0, 1) := by decide +kernel
theorem dX4_leave_31 : decode cX4_leave 31 = .ok (.aload_n 1, 1) := by decide +kernel
theorem dX4_leave_32 : decode cX4_leave 32 = .ok (.iload_n 2, 1) := by decide +kernel
theorem dX4_leave_33 : decode cX4_leave 33 = .ok (.iload_n 2, 1) := by decide +kernel
theorem dX4_leave_34 : decode cX4_leave 34 = .ok (.iconst 1, 1) := by decide +kernel
theorem dX4_leave_35 : decode cX4_leave 35 = .ok (.iadd, 1) := by decide +kernel
theorem dX4_leave_36 : decode cX4_leave 36 = .ok (.invokevirtual 49, 3) := by decide +kernel
theorem dX4_leave_39 : decode cX4_leave 39 = .ok (.aload_n 0, 1) := by decide +kernel
theorem dX4_leave_40 : decode cX4_leave 40 = .ok (.aload_n 1, 1) := by decide +kernel
theorem dX4_leave_41 : decode cX4_leave 41 = .ok (.iload_n 2, 1) := by decide +kernel
theorem dX4_leave_42 : decode cX4_leave 42 = .ok (.iload_n 2, 1) := by decide +kernel
theorem dX4_leave_43 : decode cX4_leave 43 = .ok (.aload_n 1, 1) := by decide +kernel
theorem dX4_leave_44 : decode cX4_leave 44 = .ok (.getfield 46, 3) := by decide +kernel
theorem dX4_leave_47 : decode cX4_leave 47 = .ok (.iadd, 1) := by decide +kernel
theorem dX4_leave_48 : decode cX4_leave 48 = .ok (.invokevirtual 49, 3) := by decide +kernel
theorem dX4_leave_51 : decode cX4_leave 51 = .ok (.aload_n 1, 1) := by decide +kernel
theorem dX4_leave_52 : decode cX4_leave 52 = .ok (.getfield 46, 3) := by decide +kernel
theorem dX4_leave_55 : decode cX4_leave 55 = .ok (.ifCond .le 21, 3) := by decide +kernel
theorem dX4_leave_58 : decode cX4_leave 58 = .ok (.iload_n 2, 1) := by decide +kernel
theorem dX4_leave_59 : decode cX4_leave 59 = .ok (.aload_n 1, 1) := by decide +kernel
theorem dX4_leave_60 : decode cX4_leave 60 = .ok (.getfield 46, 3) := by decide +kernel
theorem dX4_leave_63 : decode cX4_leave 63 = .ok (.irem, 1) := by decide +kernel
theorem dX4_leave_64 : decode cX4_leave 64 = .ok (.ifCond .eq 12, 3) := by decide +kernel
theorem dX4_leave_67 : decode cX4_leave 67 = .ok (.aload_n 0, 1) := by decide +kernel
theorem dX4_leave_68 : decode cX4_leave 68 = .ok (.aload_n 1, 1) := by decide +kernel
theorem dX4_leave_69 : decode cX4_leave 69 = .ok (.iload_n 2, 1) := by decide +kernel
theorem dX4_leave_70 : decode cX4_leave 70 = .ok (.iload_n 2, 1) := by decide +kernel
theorem dX4_leave_71 : decode cX4_leave 71 = .ok (.iconst 1, 1) := by decide +kernel
theorem dX4_leave_72 : decode cX4_leave 72 = .ok (.isub, 1) := by decide +kernel
theorem dX4_leave_73 : decode cX4_leave 73 = .ok (.invokevirtual 49, 3) := by decide +kernel
theorem dX4_leave_76 : decode cX4_leave 76 = .ok (.return_, 1) := by decide +kernel
theorem dX4_reach_0 : decode cX4_reach 0 = .ok (.aload_n 1, 1) := by decide +kernel
theorem dX4_reach_1 : decode cX4_reach 1 = .ok (.iload_n 3, 1) := by decide +kernel
theorem dX4_reach_2 : decode cX4_reach 2 = .ok (.invokevirtual 34, 3) := by decide +kernel
theorem dX4_reach_5 : decode cX4_reach 5 = .ok (.ifCond .ne 4, 3) := by decide +kernel
theorem dX4_reach_8 : decode cX4_reach 8 = .ok (.return_, 1) := by decide +kernel
theorem dX4_reach_9 : decode cX4_reach 9 = .ok (.aload_n 0, 1) := by decide +kernel
theorem dX4_reach_10 : decode cX4_reach 10 = .ok (.getfield 15, 3) := by decide +kernel
theorem dX4_reach_13 : decode cX4_reach 13 = .ok (.iload_n 2, 1) := by decide +kernel
theorem dX4_reach_14 : decode cX4_reach 14 = .ok (.iaload, 1) := by decide +kernel
theorem dX4_reach_15 : decode cX4_reach 15 = .ok (.aload_n 0, 1) := by decide +kernel
theorem dX4_reach_16 : decode cX4_reach 16 = .ok (.getfield 18, 3) := by decide +kernel
theorem dX4_reach_19 : decode cX4_reach 19 = .ok (.iload_n 3, 1) := by decide +kernel
theorem dX4_reach_20 : decode cX4_reach 20 = .ok (.iaload, 1) := by decide +kernel
theorem dX4_reach_21 : decode cX4_reach 21 = .ok (.iadd, 1) := by decide +kernel
theorem dX4_reach_22 : decode cX4_reach 22 = .ok (.istore 4, 2) := by decide +kernel
theorem dX4_reach_24 : decode cX4_reach 24 = .ok (.aload_n 0, 1) := by decide +kernel
theorem dX4_reach_25 : decode cX4_reach 25 = .ok (.getfield 9, 3) := by decide +kernel
theorem dX4_reach_28 : decode cX4_reach 28 = .ok (.iload_n 3, 1) := by decide +kernel
theorem dX4_reach_29 : decode cX4_reach 29 = .ok (.iaload, 1) := by decide +kernel
theorem dX4_reach_30 : decode cX4_reach 30 = .ok (.iconst (-1), 1) := by decide +kernel
theorem dX4_reach_31 : decode cX4_reach 31 = .ok (.if_icmp .ne 21, 3) := by decide +kernel
theorem dX4_reach_34 : decode cX4_reach 34 = .ok (.aload_n 0, 1) := by decide +kernel
theorem dX4_reach_35 : decode cX4_reach 35 = .ok (.iload_n 3, 1) := by decide +kernel
theorem dX4_reach_36 : decode cX4_reach 36 = .ok (.aload_n 0, 1) := by decide +kernel
theorem dX4_reach_37 : decode cX4_reach 37 = .ok (.getfield 9, 3) := by decide +kernel
theorem dX4_reach_40 : decode cX4_reach 40 = .ok (.iload_n 2, 1) := by decide +kernel
theorem dX4_reach_41 : decode cX4_reach 41 = .ok (.iaload, 1) := by decide +kernel
theorem dX4_reach_42 : decode cX4_reach 42 = .ok (.iconst 1, 1) := by decide +kernel
theorem dX4_reach_43 : decode cX4_reach 43 = .ok (.iadd, 1) := by decide +kernel
theorem dX4_reach_44 : decode cX4_reach 44 = .ok (.iload 4, 2) := by decide +kernel
theorem dX4_reach_46 : decode cX4_reach 46 = .ok (.invokevirtual 38, 3) := by decide +kernel
theorem dX4_reach_49 : decode cX4_reach 49 = .ok (.goto 37, 3) := by decide +kernel
theorem dX4_reach_52 : decode cX4_reach 52 = .ok (.aload_n 0, 1) := by decide +kernel
theorem dX4_reach_53 : decode cX4_reach 53 = .ok (.getfield 9, 3) := by decide +kernel
theorem dX4_reach_56 : decode cX4_reach 56 = .ok (.iload_n 3, 1) := by decide +kernel
theorem dX4_reach_57 : decode cX4_reach 57 = .ok (.iaload, 1) := by decide +kernel
theorem dX4_reach_58 : decode cX4_reach 58 = .ok (.aload_n 0, 1) := by decide +kernel
theorem dX4_reach_59 : decode cX4_reach 59 = .ok (.getfield 9, 3) := by decide +kernel
theorem dX4_reach_62 : decode cX4_reach 62 = .ok (.iload_n 2, 1) := by decide +kernel
theorem dX4_reach_63 : decode cX4_reach 63 = .ok (.iaload, 1) := by decide +kernel
theorem dX4_reach_64 : decode cX4_reach 64 = .ok (.iconst 1, 1) := by decide +kernel
theorem dX4_reach_65 : decode cX4_reach 65 = .ok (.iadd, 1) := by decide +kernel
theorem dX4_reach_66 : decode cX4_reach 66 = .ok (.if_icmp .ne 20, 3) := by decide +kernel
theorem dX4_reach_69 : decode cX4_reach 69 = .ok (.aload_n 0, 1) := by decide +kernel
theorem dX4_reach_70 : decode cX4_reach 70 = .ok (.getfield 15, 3) := by decide +kernel
theorem dX4_reach_73 : decode cX4_reach 73 = .ok (.iload_n 3, 1) := by decide +kernel
theorem dX4_reach_74 : decode cX4_reach 74 = .ok (.aload_n 0, 1) := by decide +kernel
theorem dX4_reach_75 : decode cX4_reach 75 = .ok (.getfield 15, 3) := by decide +kernel
theorem dX4_reach_78 : decode cX4_reach 78 = .ok (.iload_n 3, 1) := by decide +kernel
theorem dX4_reach_79 : decode cX4_reach 79 = .ok (.iaload, 1) := by decide +kernel
theorem dX4_reach_80 : decode cX4_reach 80 = .ok (.iload 4, 2) := by decide +kernel
theorem dX4_reach_82 : decode cX4_reach 82 = .ok (.invokestatic 53, 3) := by decide +kernel
theorem dX4_reach_85 : decode cX4_reach 85 = .ok (.iastore, 1) := by decide +kernel
theorem dX4_reach_86 : decode cX4_reach 86 = .ok (.return_, 1) := by decide +kernel
theorem dX4_enter_0 : decode cX4_enter 0 = .ok (.aload_n 0, 1) := by decide +kernel
theorem dX4_enter_1 : decode cX4_enter 1 = .ok (.getfield 9, 3) := by decide +kernel
theorem dX4_enter_4 : decode cX4_enter 4 = .ok (.iload_n 1, 1) := by decide +kernel
theorem dX4_enter_5 : decode cX4_enter 5 = .ok (.iload_n 2, 1) := by decide +kernel
theorem dX4_enter_6 : decode cX4_enter 6 = .ok (.iastore, 1) := by decide +kernel
theorem dX4_enter_7 : decode cX4_enter 7 = .ok (.aload_n 0, 1) := by decide +kernel
theorem dX4_enter_8 : decode cX4_enter 8 = .ok (.getfield 15, 3) := by decide +kernel
theorem dX4_enter_11 : decode cX4_enter 11 = .ok (.iload_n 1, 1) := by decide +kernel
theorem dX4_enter_12 : decode cX4_enter 12 = .ok (.iload_n 3, 1) := by decide +kernel
theorem dX4_enter_13 : decode cX4_enter 13 = .ok (.iastore, 1) := by decide +kernel
theorem dX4_enter_14 : decode cX4_enter 14 = .ok (.aload_n 0, 1) := by decide +kernel
theorem dX4_enter_15 : decode cX4_enter 15 = .ok (.getfield 30, 3) := by decide +kernel
theorem dX4_enter_18 : decode cX4_enter 18 = .ok (.bipush 16, 2) := by decide +kernel
theorem dX4_enter_20 : decode cX4_enter 20 = .ok (.if_icmp .ge 23, 3) := by decide +kernel
theorem dX4_enter_23 : decode cX4_enter 23 = .ok (.aload_n 0, 1) := by decide +kernel
theorem dX4_enter_24 : decode cX4_enter 24 = .ok (.getfield 21, 3) := by decide +kernel
theorem dX4_enter_27 : decode cX4_enter 27 = .ok (.aload_n 0, 1) := by decide +kernel
theorem dX4_enter_28 : decode cX4_enter 28 = .ok (.getfield 30, 3) := by decide +kernel
theorem dX4_enter_31 : decode cX4_enter 31 = .ok (.iload_n 1, 1) := by decide +kernel
theorem dX4_enter_32 : decode cX4_enter 32 = .ok (.iastore, 1) := by decide +kernel
theorem dX4_enter_33 : decode cX4_enter 33 = .ok (.aload_n 0, 1) := by decide +kernel
theorem dX4_enter_34 : decode cX4_enter 34 = .ok (.dup, 1) := by decide +kernel
theorem dX4_enter_35 : decode cX4_enter 35 = .ok (.getfield 30, 3) := by decide +kernel
theorem dX4_enter_38 : decode cX4_enter 38 = .ok (.iconst 1, 1) := by decide +kernel
theorem dX4_enter_39 : decode cX4_enter 39 = .ok (.iadd, 1) := by decide +kernel
theorem dX4_enter_40 : decode cX4_enter 40 = .ok (.putfield 30, 3) := by decide +kernel
theorem dX4_enter_43 : decode cX4_enter 43 = .ok (.return_, 1) := by decide +kernel
